/-! ===== PURE 13.j: hours; the class leaps over hours in which nothing stirs ===== -/
def pass (C : Cy) : Nat → Cy
  | 0 => C
  | n + 1 => hour1 (pass C n)
def hapS (C : Cy) : Nat → Nat
  | 0 => 0
  | n + 1 => hapS C n + hap1 (pass C n)
theorem pass_8 (C : Cy) : ∀ n, pass C n 0 0 8 = C 0 0 8 + n
  | 0 => rfl
  | n + 1 => by rw [pass, hour1_8, pass_8 C n]; omega
theorem pass_0 (C : Cy) {k : Nat} (h : k ≠ 8) : ∀ n, pass C n 0 0 k = C 0 0 k
  | 0 => rfl
  | n + 1 => by rw [pass, hour1_0 _ h, pass_0 C h n]
theorem pass_ok {C : Cy} (ok : Ok C) : ∀ n, C 0 0 8 + n ≤ 20000 → Ok (pass C n)
  | 0, _ => ok
  | n + 1, h => hour1_ok (pass_ok ok n (by omega)) (by rw [pass_8]; omega)
theorem pass_same (C : Cy) : ∀ n, SameS C (pass C n)
  | 0 => SameS_r C
  | n + 1 => SameS_t (pass_same C n) (hour1_same _)
theorem pass_add (C : Cy) (m : Nat) : ∀ n, pass (pass C m) n = pass C (m + n)
  | 0 => rfl
  | n + 1 => by rw [pass, pass_add C m n]; rfl
theorem m_hours_it {F : Nat} {C : Cy} {g f : Nat → Int32} {n : Nat} (ok : Ok C) (hM : MS C g) (hf : FB C f) (hn : n ≤ 1000) (h8 : C 0 0 8 + n ≤ 20000) (hF : 2000 < F) :
    ∃ g2, iter (X12_hoursGo_b8 F f (nI n)) F (0, 0, g) = some (nI (hapS C n), g2) ∧ MS (pass C n) g2 ∧ Fr g g2 := by
  obtain ⟨e, h1, g2, rfl, h2, h3⟩ := it_rel (b := X12_hoursGo_b8 F f (nI n)) n
    (fun i s => ∃ g2, s = (nI (hapS C i), nI i, g2) ∧ MS (pass C i) g2 ∧ Fr g g2) (fun e => ∃ g2, e = (nI (hapS C n), g2) ∧ MS (pass C n) g2 ∧ Fr g g2) (fun i s hi hs => by
      obtain ⟨g1, rfl, hM1, hF1⟩ := hs
      obtain ⟨g2, a1, a2, a3⟩ := m_hour (F := F) (pass_ok ok i (by omega)) hM1 (FB_s hf (pass_same C i)) (by omega)
      refine Or.inl ⟨(nI (hapS C (i + 1)), nI (i + 1), g2), ?_, g2, rfl, a2, Fr_t hF1 a3⟩
      unfold X12_hoursGo_b8
      simp (disch := omega) only [l_0, l_1, l_2, l_3, l_4, l_5, l_6, l_7, l_8, l_9, l_10, l_11, l_12, l_13, l_14, l_15, l_16, l_17, l_18, l_19, l_20, l_21, l_22, l_23, l_24, l_25, l_26, l_27, l_30, l_31, l_32, l_40, l_48, l_57, l_59, l_60, l_61, l_62, l_64, l_83, l_90, l_97, l_99, l_100, l_108, l_115, l_122, l_123, l_127, l_128, l_131, l_135, l_200, l_255, l_256, l_300, l_487, l_495, l_900, l_999, l_1000, l_1700, l_1792, l_1980, l_2048, l_2475, l_2970, l_3121, l_9999, l_10000, l_11351, l_65536, l_100000, l_1000000, ↓l_m1, l_neg, nI_add, pk_mul, pk_sub, q_leT, q_leF, q_ltT, q_ltF, q_eqT, q_eqF, q_m1e, q_m1e2, q_m1lt, q_m1le, q_m1nl, q_m1nle, q_m1s, q_ix, q_jat, q_jput, q_min1, q_min2, q_max1, q_max2, q_or0, q_0or, q_bs, if_true, if_false, true_and, and_true, false_and, and_false, not_true_eq_false, not_false_eq_true, eq_self, Bool.false_eq_true, q_z0, q_z1, a1]
      rfl) (fun s hs => by
      obtain ⟨g1, rfl, hM1, hF1⟩ := hs
      refine ⟨_, ?_, g1, rfl, hM1, hF1⟩
      unfold X12_hoursGo_b8
      simp (disch := omega) only [l_0, l_1, l_2, l_3, l_4, l_5, l_6, l_7, l_8, l_9, l_10, l_11, l_12, l_13, l_14, l_15, l_16, l_17, l_18, l_19, l_20, l_21, l_22, l_23, l_24, l_25, l_26, l_27, l_30, l_31, l_32, l_40, l_48, l_57, l_59, l_60, l_61, l_62, l_64, l_83, l_90, l_97, l_99, l_100, l_108, l_115, l_122, l_123, l_127, l_128, l_131, l_135, l_200, l_255, l_256, l_300, l_487, l_495, l_900, l_999, l_1000, l_1700, l_1792, l_1980, l_2048, l_2475, l_2970, l_3121, l_9999, l_10000, l_11351, l_65536, l_100000, l_1000000, ↓l_m1, l_neg, nI_add, pk_mul, pk_sub, q_leT, q_leF, q_ltT, q_ltF, q_eqT, q_eqF, q_m1e, q_m1e2, q_m1lt, q_m1le, q_m1nl, q_m1nle, q_m1s, q_ix, q_jat, q_jput, q_min1, q_min2, q_max1, q_max2, q_or0, q_0or, q_bs, if_true, if_false, true_and, and_true, false_and, and_false, not_true_eq_false, not_false_eq_true, eq_self, Bool.false_eq_true, q_z0, q_z1]) (s0 := (0, 0, g)) ⟨g, rfl, hM, Fr_r g⟩ (show n < F by omega)
  exact ⟨g2, h1, h2, h3⟩
theorem m_hours {F : Nat} {C : Cy} {g f : Nat → Int32} {n : Nat} (ok : Ok C) (hM : MS C g) (hn : n ≤ 1000) (h8 : C 0 0 8 + n ≤ 20000) (hF : 2000 < F) :
    ∃ g2 f2, X12_hoursGo F g f (nI n) = some (nI (hapS C n), g2, f2) ∧ MS (pass C n) g2 ∧ Fr g g2 ∧ FB C f2 := by
  obtain ⟨f2, a1, a2⟩ := m_laysFar (F := F) (f := f) ok hM (by omega)
  obtain ⟨g2, b1, b2, b3⟩ := m_hours_it ok hM a2 hn h8 hF
  refine ⟨g2, f2, ?_, b2, b3, a2⟩
  unfold X12_hoursGo
  rw [a1]
  simp only [q_bs]
  rw [b1]; rfl
/-! how many happened -/
theorem fct_bef1 {C : Cy} {h n : Nat} (hh : h < n) : fb_ct (fate (bef1 C h) 1) n = fb_ct (fate C 1) n + if hapc C h then 1 else 0 := by
  unfold bef1 hapc
  cases q : befc C h with
  | false => rw [Bool.false_and]; rfl
  | true =>
    have q1 := of_decide_eq_true q
    rw [if_pos rfl, Bool.true_and]
    by_cases q2 : C 3 h 2 ≤ cntS C (C 3 h 0)
    · rw [if_pos q2, decide_eq_true q2]
      have u := fb_ct_upd (fate C 1) true hh
      have e : fate C 1 h = false := decide_eq_false (by omega)
      rw [e] at u
      have c : fb_ct (fate (payN (setF C h 1) (st C (C 3 h 0)) (C 0 0 5 * C 3 h 2) (C 0 0 2)) 1) n = fb_ct (fun k => if k = h then true else fate C 1 k) n := by
        refine fb_ct_cong (fun k _ => ?_)
        unfold fate
        rw [payN_t _ (by omega)]
        by_cases e2 : k = h
        · rw [if_pos e2, e2, setF_3]; rfl
        · rw [if_neg e2, setF_r C e2]
      rw [c]
      simp only [if_true, Bool.false_eq_true, if_false] at u ⊢
      omega
    · rw [if_neg q2, decide_eq_false q2]
      refine fb_ct_cong (fun k _ => ?_)
      unfold fate
      by_cases e2 : k = h
      · rw [e2, setF_3, decide_eq_false (by omega), decide_eq_false (by omega)]
      · rw [setF_r C e2]
theorem fct_befN (C : Cy) {m : Nat} : ∀ n, n ≤ m → fb_ct (fate (befN C n) 1) m = fb_ct (fate C 1) m + hapN C n
  | 0, _ => rfl
  | n + 1, h => by rw [befN, fct_bef1 (by omega), fct_befN C n (by omega), hapN]; omega
theorem fct_t {C D : Cy} {n : Nat} (h : ∀ r, D 3 r 3 = C 3 r 3) : fb_ct (fate D 1) n = fb_ct (fate C 1) n := fb_ct_cong (fun k _ => by unfold fate; rw [h])
theorem fct_hour (C : Cy) : fb_ct (fate (hour1 C) 1) (C 0 0 3) = fb_ct (fate C 1) (C 0 0 3) + hap1 C := by
  have e1 : fb_ct (fate (hour1 C) 1) (C 0 0 3) = fb_ct (fate (hourB C) 1) (C 0 0 3) := fct_t (fun r => by unfold hour1 hourC; rw [setC_t _ (by omega), watN_t _ (by omega)])
  rw [e1]
  unfold hourB hap1
  rw [fct_befN _ _ (Nat.le_refl _)]
  have e2 : fb_ct (fate (walkN C (C 0 0 2)) 1) (C 0 0 3) = fb_ct (fate C 1) (C 0 0 3) := fct_t (fun r => walkN_t C (by omega) _)
  rw [e2]
theorem fct_pass (C : Cy) : ∀ n, fb_ct (fate (pass C n) 1) (C 0 0 3) = fb_ct (fate C 1) (C 0 0 3) + hapS C n
  | 0 => rfl
  | n + 1 => by
    have h := fct_hour (pass C n)
    rw [pass_0 C (by omega)] at h
    rw [pass, h, fct_pass C n, hapS]; omega
/-! nothing stirs -/
def still (C : Cy) : Prop := (∀ x, x < C 0 0 2 → stirE C x = false) ∧ (∀ w, w < C 0 0 4 → watc C w = false)
theorem walkN_still {C : Cy} : ∀ n, (∀ x, x < n → stirE C x = false) → walkN C n = C ∧ stirW C n = false
  | 0, _ => ⟨rfl, rfl⟩
  | n + 1, h => by
    obtain ⟨e1, e2⟩ := walkN_still n (fun x hx => h x (by omega))
    rw [walkN, stirW, e1, e2, h n (by omega), walk1_still (h n (by omega))]; exact ⟨rfl, rfl⟩
theorem stirW_no {C : Cy} : ∀ n, stirW C n = false → walkN C n = C ∧ ∀ x, x < n → stirE C x = false
  | 0, _ => ⟨rfl, fun x hx => by omega⟩
  | n + 1, h => by
    rw [stirW, Bool.or_eq_false_iff] at h
    obtain ⟨e1, e2⟩ := stirW_no n h.1
    have h2 := h.2
    rw [e1] at h2
    refine ⟨by rw [walkN, e1, walk1_still h2], fun x hx => ?_⟩
    by_cases q : x = n
    · rw [q]; exact h2
    · exact e2 x (by omega)
theorem wat1_no {C : Cy} {h : Nat} (q : watc C h = false) : wat1 C h = C := by unfold wat1; rw [q]; rfl
theorem befN_still {C : Cy} : ∀ n, (∀ x, x < n → befc C x = false) → befN C n = C ∧ stirB C n = false
  | 0, _ => ⟨rfl, rfl⟩
  | n + 1, h => by
    obtain ⟨e1, e2⟩ := befN_still n (fun x hx => h x (by omega))
    rw [befN, stirB, e1, e2, h n (by omega), bef1_no (h n (by omega))]; exact ⟨rfl, rfl⟩
theorem stirB_no {C : Cy} : ∀ n, stirB C n = false → befN C n = C ∧ ∀ x, x < n → befc C x = false
  | 0, _ => ⟨rfl, fun x hx => by omega⟩
  | n + 1, h => by
    rw [stirB, Bool.or_eq_false_iff] at h
    obtain ⟨e1, e2⟩ := stirB_no n h.1
    have h2 := h.2
    rw [e1] at h2
    refine ⟨by rw [befN, e1, bef1_no h2], fun x hx => ?_⟩
    by_cases q : x = n
    · rw [q]; exact h2
    · exact e2 x (by omega)
theorem watN_still {C : Cy} : ∀ n, (∀ x, x < n → watc C x = false) → watN C n = C ∧ stirT C n = false
  | 0, _ => ⟨rfl, rfl⟩
  | n + 1, h => by
    obtain ⟨e1, e2⟩ := watN_still n (fun x hx => h x (by omega))
    rw [watN, stirT, e1, e2, h n (by omega), wat1_no (h n (by omega))]; exact ⟨rfl, rfl⟩
theorem stirT_no {C : Cy} : ∀ n, stirT C n = false → watN C n = C ∧ ∀ x, x < n → watc C x = false
  | 0, _ => ⟨rfl, fun x hx => by omega⟩
  | n + 1, h => by
    rw [stirT, Bool.or_eq_false_iff] at h
    obtain ⟨e1, e2⟩ := stirT_no n h.1
    have h2 := h.2
    rw [e1] at h2
    refine ⟨by rw [watN, e1, wat1_no h2], fun x hx => ?_⟩
    by_cases q : x = n
    · rw [q]; exact h2
    · exact e2 x (by omega)
/-- the clock alone -/
def at8 (C : Cy) (t : Nat) : Cy := setC C 0 0 8 t
theorem at8_t (C : Cy) {v t r c : Nat} (h : t ≠ 0 ∨ c ≠ 8) : at8 C v t r c = C t r c := by unfold at8 setC; rw [if_neg (by omega)]
theorem at8_8 (C : Cy) (v : Nat) : at8 C v 0 0 8 = v := setC_s _ _ _ _ _
theorem at8_at8 (C : Cy) (u v : Nat) : at8 (at8 C u) v = at8 C v := by
  funext t r c; unfold at8 setC
  by_cases h : t = 0 ∧ r = 0 ∧ c = 8
  · rw [if_pos h, if_pos h]
  · rw [if_neg h, if_neg h, if_neg h]
theorem goalS_t {C D : Cy} (h0 : D 0 0 3 = C 0 0 3) (h2 : ∀ r, D 2 r 2 = C 2 r 2) (h3 : ∀ r c, D 3 r c = C 3 r c) (x : Nat) : goalS D x = goalS C x := by
  unfold goalS; rw [h0, h2]
  exact fmin_cong (fun k _ => by unfold bf fate; rw [h3]) (fun k _ => by unfold due; rw [h3])
theorem still_at8 {C : Cy} (h : still C) (t : Nat) : still (at8 C t) := by
  have s : SameS C (at8 C t) := SameS_set (by omega)
  refine ⟨fun x hx => ?_, fun w hw => ?_⟩
  · rw [at8_t C (by omega)] at hx
    have := h.1 x hx
    unfold stirE at this ⊢
    rw [goalS_t (C := C) (at8_t C (by omega)) (fun r => at8_t C (by omega)) (fun r c => at8_t C (by omega))]
    simp only [at8_t C (show (2 : Nat) ≠ 0 ∨ _ from Or.inl (by omega)), at8_t C (show (3 : Nat) ≠ 0 ∨ _ from Or.inl (by omega)), wayS_s s]
    exact this
  · rw [at8_t C (by omega)] at hw
    have := h.2 w hw
    unfold watc cntS at this ⊢
    have e : ∀ c, st (at8 C t) c = st C c := fun c => by
      funext x; unfold st
      simp only [at8_t C (show (2 : Nat) ≠ 0 ∨ _ from Or.inl (by omega))]
    simp only [e, at8_t C (show (4 : Nat) ≠ 0 ∨ _ from Or.inl (by omega)), at8_t C (show _ ∨ (2 : Nat) ≠ 8 from Or.inr (by omega))]
    exact this
theorem hour1_still {C : Cy} (h : still C) (hb : ∀ x, x < C 0 0 3 → befc C x = false) : hour1 C = at8 C (C 0 0 8 + 1) := by
  unfold hour1 hourC hourB
  rw [(walkN_still _ h.1).1, (befN_still _ hb).1, (watN_still _ h.2).1]; rfl
theorem pass_still {C : Cy} (h : still C) : ∀ n, (∀ x, x < C 0 0 3 → C 3 x 3 = 0 → ¬ (C 0 0 8 ≤ C 3 x 1 ∧ C 3 x 1 < C 0 0 8 + n)) → pass C n = at8 C (C 0 0 8 + n)
  | 0, _ => by
    show C = at8 C (C 0 0 8)
    exact (setC_id C 0 0 8).symm
  | n + 1, hb => by
    have ih := pass_still h n (fun x hx h3 => fun q => hb x hx h3 ⟨q.1, by omega⟩)
    have hb2 : ∀ x, x < at8 C (C 0 0 8 + n) 0 0 3 → befc (at8 C (C 0 0 8 + n)) x = false := by
      intro x hx
      rw [at8_t C (by omega)] at hx
      refine decide_eq_false (fun q => ?_)
      rw [at8_t C (by omega), at8_t C (by omega), at8_8] at q
      exact hb x hx q.1 ⟨by omega, by omega⟩
    rw [pass, ih, hour1_still (still_at8 h _) hb2, at8_at8, at8_8]; rfl
/-- the next hour at which something is to come -/
def nd (C : Cy) (t e : Nat) : Nat → Nat
  | 0 => e
  | n + 1 => if C 3 n 3 = 0 ∧ t ≤ C 3 n 1 ∧ C 3 n 1 < nd C t e n then C 3 n 1 else nd C t e n
theorem nd_le (C : Cy) (t e : Nat) : ∀ n, nd C t e n ≤ e
  | 0 => Nat.le_refl _
  | n + 1 => by
    have := nd_le C t e n
    rw [nd]
    by_cases h : C 3 n 3 = 0 ∧ t ≤ C 3 n 1 ∧ C 3 n 1 < nd C t e n
    · rw [if_pos h]; omega
    · rw [if_neg h]; exact this
theorem nd_ge (C : Cy) {t e : Nat} (ht : t ≤ e) : ∀ n, t ≤ nd C t e n
  | 0 => ht
  | n + 1 => by
    have := nd_ge C ht n
    rw [nd]
    by_cases h : C 3 n 3 = 0 ∧ t ≤ C 3 n 1 ∧ C 3 n 1 < nd C t e n
    · rw [if_pos h]; omega
    · rw [if_neg h]; exact this
theorem nd_no (C : Cy) (t e : Nat) : ∀ n x, x < n → C 3 x 3 = 0 → ¬ (t ≤ C 3 x 1 ∧ C 3 x 1 < nd C t e n)
  | 0, x, hx => by omega
  | n + 1, x, hx => by
    intro h3 q
    have ih := nd_no C t e n
    rw [nd] at q
    by_cases h : C 3 n 3 = 0 ∧ t ≤ C 3 n 1 ∧ C 3 n 1 < nd C t e n
    · rw [if_pos h] at q
      by_cases e2 : x = n
      · subst e2; omega
      · exact ih x (by omega) h3 ⟨q.1, by omega⟩
    · rw [if_neg h] at q
      by_cases e2 : x = n
      · subst e2; exact h ⟨h3, q⟩
      · exact ih x (by omega) h3 q
theorem c_nextDue {F : Nat} {C : Cy} {hf : Nat → Int32} {t e : Nat} (ok : Ok C) (hH : CH C hf) (ht : t < 30000) (he : e < 30000) (hF : 100 < F) : X0_nextDue F (nI t) (nI (C 0 0 3)) hf (nI e) = some (nI (nd C t e (C 0 0 3))) := by
  obtain ⟨o0, oR, oE, oH, oW⟩ := ok
  unfold X0_nextDue
  rw [show (nI e, (0 : Int32)) = (nI (nd C t e 0), nI 0) from rfl]
  rw [iter_count (b := X0_nextDue_b4 F (nI t) (nI (C 0 0 3)) hf) (fun i => (nI (nd C t e i), nI i)) (C 0 0 3) (e := nI (nd C t e (C 0 0 3))) ?_ ?_ F (by omega)]; rfl
  · intro i hi
    have e1 := oH i hi
    have b := nd_le C t e i
    by_cases hc : C 3 i 3 = 0 ∧ t ≤ C 3 i 1 ∧ C 3 i 1 < nd C t e i
    · have en : nd C t e (i + 1) = C 3 i 1 := by rw [nd, if_pos hc]
      rw [en]
      obtain ⟨h1, h2, h3⟩ := hc
      unfold X0_nextDue_b4 X0_nextDue_j52
      simp (disch := omega) only [l_0, l_1, l_2, l_3, l_4, l_5, l_6, l_7, l_8, l_9, l_10, l_11, l_12, l_13, l_14, l_15, l_16, l_17, l_18, l_19, l_20, l_21, l_22, l_23, l_24, l_25, l_26, l_27, l_30, l_31, l_32, l_40, l_48, l_57, l_59, l_60, l_61, l_62, l_64, l_83, l_90, l_97, l_99, l_100, l_108, l_115, l_122, l_123, l_127, l_128, l_131, l_135, l_200, l_255, l_256, l_300, l_487, l_495, l_900, l_999, l_1000, l_1700, l_1792, l_1980, l_2048, l_2475, l_2970, l_3121, l_9999, l_10000, l_11351, l_65536, l_100000, l_1000000, ↓l_m1, l_neg, nI_add, pk_mul, pk_sub, q_leT, q_leF, q_ltT, q_ltF, q_eqT, q_eqF, q_m1e, q_m1e2, q_m1lt, q_m1le, q_m1nl, q_m1nle, q_m1s, q_ix, q_jat, q_jput, q_min1, q_min2, q_max1, q_max2, q_or0, q_0or, q_bs, if_true, if_false, true_and, and_true, false_and, and_false, not_true_eq_false, not_false_eq_true, eq_self, Bool.false_eq_true, q_z0, q_z1, q_get, q_set, q_raise, hH i, c_tcT hH]
    · have en : nd C t e (i + 1) = nd C t e i := by rw [nd, if_neg hc]
      rw [en]
      unfold X0_nextDue_b4 X0_nextDue_j52
      by_cases h1 : C 3 i 3 = 0
      case neg => simp (disch := omega) only [l_0, l_1, l_2, l_3, l_4, l_5, l_6, l_7, l_8, l_9, l_10, l_11, l_12, l_13, l_14, l_15, l_16, l_17, l_18, l_19, l_20, l_21, l_22, l_23, l_24, l_25, l_26, l_27, l_30, l_31, l_32, l_40, l_48, l_57, l_59, l_60, l_61, l_62, l_64, l_83, l_90, l_97, l_99, l_100, l_108, l_115, l_122, l_123, l_127, l_128, l_131, l_135, l_200, l_255, l_256, l_300, l_487, l_495, l_900, l_999, l_1000, l_1700, l_1792, l_1980, l_2048, l_2475, l_2970, l_3121, l_9999, l_10000, l_11351, l_65536, l_100000, l_1000000, ↓l_m1, l_neg, nI_add, pk_mul, pk_sub, q_leT, q_leF, q_ltT, q_ltF, q_eqT, q_eqF, q_m1e, q_m1e2, q_m1lt, q_m1le, q_m1nl, q_m1nle, q_m1s, q_ix, q_jat, q_jput, q_min1, q_min2, q_max1, q_max2, q_or0, q_0or, q_bs, if_true, if_false, true_and, and_true, false_and, and_false, not_true_eq_false, not_false_eq_true, eq_self, Bool.false_eq_true, q_z0, q_z1, q_get, q_set, q_raise, hH i, c_tcF hH]
      by_cases h2 : t ≤ C 3 i 1
      case neg => simp (disch := omega) only [l_0, l_1, l_2, l_3, l_4, l_5, l_6, l_7, l_8, l_9, l_10, l_11, l_12, l_13, l_14, l_15, l_16, l_17, l_18, l_19, l_20, l_21, l_22, l_23, l_24, l_25, l_26, l_27, l_30, l_31, l_32, l_40, l_48, l_57, l_59, l_60, l_61, l_62, l_64, l_83, l_90, l_97, l_99, l_100, l_108, l_115, l_122, l_123, l_127, l_128, l_131, l_135, l_200, l_255, l_256, l_300, l_487, l_495, l_900, l_999, l_1000, l_1700, l_1792, l_1980, l_2048, l_2475, l_2970, l_3121, l_9999, l_10000, l_11351, l_65536, l_100000, l_1000000, ↓l_m1, l_neg, nI_add, pk_mul, pk_sub, q_leT, q_leF, q_ltT, q_ltF, q_eqT, q_eqF, q_m1e, q_m1e2, q_m1lt, q_m1le, q_m1nl, q_m1nle, q_m1s, q_ix, q_jat, q_jput, q_min1, q_min2, q_max1, q_max2, q_or0, q_0or, q_bs, if_true, if_false, true_and, and_true, false_and, and_false, not_true_eq_false, not_false_eq_true, eq_self, Bool.false_eq_true, q_z0, q_z1, q_get, q_set, q_raise, hH i, c_tcT hH]
      have h3 : ¬ C 3 i 1 < nd C t e i := fun q => hc ⟨h1, h2, q⟩
      simp (disch := omega) only [l_0, l_1, l_2, l_3, l_4, l_5, l_6, l_7, l_8, l_9, l_10, l_11, l_12, l_13, l_14, l_15, l_16, l_17, l_18, l_19, l_20, l_21, l_22, l_23, l_24, l_25, l_26, l_27, l_30, l_31, l_32, l_40, l_48, l_57, l_59, l_60, l_61, l_62, l_64, l_83, l_90, l_97, l_99, l_100, l_108, l_115, l_122, l_123, l_127, l_128, l_131, l_135, l_200, l_255, l_256, l_300, l_487, l_495, l_900, l_999, l_1000, l_1700, l_1792, l_1980, l_2048, l_2475, l_2970, l_3121, l_9999, l_10000, l_11351, l_65536, l_100000, l_1000000, ↓l_m1, l_neg, nI_add, pk_mul, pk_sub, q_leT, q_leF, q_ltT, q_ltF, q_eqT, q_eqF, q_m1e, q_m1e2, q_m1lt, q_m1le, q_m1nl, q_m1nle, q_m1s, q_ix, q_jat, q_jput, q_min1, q_min2, q_max1, q_max2, q_or0, q_0or, q_bs, if_true, if_false, true_and, and_true, false_and, and_false, not_true_eq_false, not_false_eq_true, eq_self, Bool.false_eq_true, q_z0, q_z1, q_get, q_set, q_raise, hH i, c_tcT hH]
  · unfold X0_nextDue_b4
    simp (disch := omega) only [l_0, l_1, l_2, l_3, l_4, l_5, l_6, l_7, l_8, l_9, l_10, l_11, l_12, l_13, l_14, l_15, l_16, l_17, l_18, l_19, l_20, l_21, l_22, l_23, l_24, l_25, l_26, l_27, l_30, l_31, l_32, l_40, l_48, l_57, l_59, l_60, l_61, l_62, l_64, l_83, l_90, l_97, l_99, l_100, l_108, l_115, l_122, l_123, l_127, l_128, l_131, l_135, l_200, l_255, l_256, l_300, l_487, l_495, l_900, l_999, l_1000, l_1700, l_1792, l_1980, l_2048, l_2475, l_2970, l_3121, l_9999, l_10000, l_11351, l_65536, l_100000, l_1000000, ↓l_m1, l_neg, nI_add, pk_mul, pk_sub, q_leT, q_leF, q_ltT, q_ltF, q_eqT, q_eqF, q_m1e, q_m1e2, q_m1lt, q_m1le, q_m1nl, q_m1nle, q_m1s, q_ix, q_jat, q_jput, q_min1, q_min2, q_max1, q_max2, q_or0, q_0or, q_bs, if_true, if_false, true_and, and_true, false_and, and_false, not_true_eq_false, not_false_eq_true, eq_self, Bool.false_eq_true, q_z0, q_z1]
theorem zb_or (a b : Bool) : zb a ||| zb b = zb (a || b) := by cases a <;> cases b <;> decide
theorem zb_0 (a : Bool) : (zb a = nI 0) = (a = false) := by cases a <;> exact propext (by decide)
/-- hours on the class's side -/
theorem c_pass {F : Nat} {C : Cy} {tf df xf hf wf : Nat → Int32} {n : Nat} (ok : Ok C) (hT : CT C tf) (hD : CF C df) (hX : CX C xf) (hH : CH C hf) (hW : CW C wf) (hn : n ≤ 1000) (h8 : C 0 0 8 + n ≤ 20000) (hF : 2000 < F) :
    ∃ xf2 hf2 wf2, X0_passHours F (nI (C 0 0 5)) (nI (C 0 0 6)) (nI (C 0 0 8)) (nI (C 0 0 0)) tf df (nI (C 0 0 2)) xf (nI (C 0 0 3)) hf (nI (C 0 0 4)) wf (nI n) = some (nI (C 0 0 8 + n), xf2, hf2, wf2) ∧ CX (pass C n) xf2 ∧ CH (pass C n) hf2 ∧ CW (pass C n) wf2 := by
  obtain ⟨e, h1, xf2, hf2, wf2, rfl, h2⟩ := it_rel (b := X0_passHours_b9 F (nI (C 0 0 5)) (nI (C 0 0 6)) (nI (C 0 0 0)) tf df (nI (C 0 0 2)) (nI (C 0 0 3)) (nI (C 0 0 4)) (nI n) (nI (C 0 0 8 + n))) n
    (fun i s => ∃ m f f' f'', i ≤ m ∧ m ≤ n ∧ s = (nI i, nI (C 0 0 8 + m), f, f', f'') ∧ CX (pass C m) f ∧ CH (pass C m) f' ∧ CW (pass C m) f'')
    (fun e => ∃ f f' f'', e = (nI (C 0 0 8 + n), f, f', f'') ∧ CX (pass C n) f ∧ CH (pass C n) f' ∧ CW (pass C n) f'') (fun i s hi hs => by
      obtain ⟨m, f, f', f'', him, hmn, rfl, a1, a2, a3⟩ := hs
      by_cases q : m = n
      · subst q
        refine Or.inr ⟨_, ?_, f, f', f'', rfl, a1, a2, a3⟩
        unfold X0_passHours_b9
        simp (disch := omega) only [l_0, l_1, l_2, l_3, l_4, l_5, l_6, l_7, l_8, l_9, l_10, l_11, l_12, l_13, l_14, l_15, l_16, l_17, l_18, l_19, l_20, l_21, l_22, l_23, l_24, l_25, l_26, l_27, l_30, l_31, l_32, l_40, l_48, l_57, l_59, l_60, l_61, l_62, l_64, l_83, l_90, l_97, l_99, l_100, l_108, l_115, l_122, l_123, l_127, l_128, l_131, l_135, l_200, l_255, l_256, l_300, l_487, l_495, l_900, l_999, l_1000, l_1700, l_1792, l_1980, l_2048, l_2475, l_2970, l_3121, l_9999, l_10000, l_11351, l_65536, l_100000, l_1000000, ↓l_m1, l_neg, nI_add, pk_mul, pk_sub, q_leT, q_leF, q_ltT, q_ltF, q_eqT, q_eqF, q_m1e, q_m1e2, q_m1lt, q_m1le, q_m1nl, q_m1nle, q_m1s, q_ix, q_jat, q_jput, q_min1, q_min2, q_max1, q_max2, q_or0, q_0or, q_bs, if_true, if_false, true_and, and_true, false_and, and_false, not_true_eq_false, not_false_eq_true, eq_self, Bool.false_eq_true, q_z0, q_z1]
      · have okm := pass_ok ok m (by omega)
        have ssm := pass_same C m
        have z8 := pass_8 C m
        have z := fun {k : Nat} (h : k ≠ 8) => pass_0 C h m
        obtain ⟨x1, w1, w2⟩ := c_walk (F := F) okm (CT_s hT ssm) (CF_s hD ssm) a1 a2 (by omega)
        have okw := walkN_ok okm _ (Nat.le_refl (pass C m 0 0 2))
        have zw := fun k => walkN_t (pass C m) (t := 0) (r := 0) (c := k) (by omega) (pass C m 0 0 2)
        have a2' : CH (walkN (pass C m) (pass C m 0 0 2)) f' := CH_t a2 (zw 3) (fun r c => walkN_t _ (by omega) _)
        obtain ⟨x2, y2, b1, b2, b3⟩ := c_befall (F := F) okw w2 a2' (by omega)
        rw [zw, zw, zw, zw] at b1
        rw [zw] at b2 b3
        have okb := befN_ok okw (pass C m 0 0 3)
        have zb0 := fun k => hourB_0 (pass C m) k
        unfold hourB at zb0
        have a3' : CW (befN (walkN (pass C m) (pass C m 0 0 2)) (pass C m 0 0 3)) f'' := CW_t a3 (zb0 4) (fun r c => by rw [befN_t _ (by omega), walkN_t _ (by omega)])
        obtain ⟨y3, v3, c1, c2, c3⟩ := c_watch (F := F) okb b2 b3 a3' (by omega)
        rw [zb0, zb0, zb0, zb0] at c1
        rw [zb0] at c2 c3
        have n4 := okm.1
        simp only [z8, z (show 0 ≠ 8 by omega), z (show 2 ≠ 8 by omega), z (show 3 ≠ 8 by omega), z (show 4 ≠ 8 by omega), z (show 5 ≠ 8 by omega), z (show 6 ≠ 8 by omega)] at w1 b1 c1
        have hx2 : CX (hourC (pass C m)) x2 := CX_t b2 (by unfold hourC hourB; rw [watN_t _ (by omega)]) (fun r c => by unfold hourC hourB; rw [watN_t _ (by omega)])
        have hh3 : CH (hourC (pass C m)) y3 := c2
        have hw3 : CW (hourC (pass C m)) v3 := c3
        by_cases s : (stirW (pass C m) (C 0 0 2) || stirB (walkN (pass C m) (C 0 0 2)) (C 0 0 3) || stirT (befN (walkN (pass C m) (C 0 0 2)) (C 0 0 3)) (C 0 0 4)) = false
        · have s' := s
          rw [Bool.or_eq_false_iff, Bool.or_eq_false_iff] at s'
          obtain ⟨⟨s1, s2⟩, s3⟩ := s'
          obtain ⟨t1, t2⟩ := stirW_no _ s1
          rw [t1] at s2 s3
          obtain ⟨t3, t4⟩ := stirB_no _ s2
          rw [t3] at s3
          obtain ⟨t5, t6⟩ := stirT_no _ s3
          have hst : still (pass C m) := ⟨fun x hx => t2 x (by rw [z (by omega)] at hx; exact hx), fun w hw => t6 w (by rw [z (by omega)] at hw; exact hw)⟩
          have e0 : hourC (pass C m) = pass C m := by
            unfold hourC hourB
            rw [z (by omega), z (by omega), z (by omega), t1, t3, t5]
          rw [e0] at hx2 hh3 hw3
          have g1 := nd_ge (pass C m) (show C 0 0 8 + m + 1 ≤ C 0 0 8 + n by omega) (pass C m 0 0 3)
          have g2 := nd_le (pass C m) (C 0 0 8 + m + 1) (C 0 0 8 + n) (pass C m 0 0 3)
          have g3 := nd_no (pass C m) (C 0 0 8 + m + 1) (C 0 0 8 + n) (pass C m 0 0 3)
          have nx := c_nextDue (F := F) (t := C 0 0 8 + m + 1) (e := C 0 0 8 + n) okm hh3 (by omega) (by omega) (by omega)
          generalize nd (pass C m) (C 0 0 8 + m + 1) (C 0 0 8 + n) (pass C m 0 0 3) = N at g1 g2 g3 nx
          rw [z (by omega)] at nx
          have ps : pass (pass C m) (N - (C 0 0 8 + m)) = at8 (pass C m) (pass C m 0 0 8 + (N - (C 0 0 8 + m))) := by
            refine pass_still hst _ (fun x hx h3 q => ?_)
            rw [z8] at q
            by_cases e5 : pass C m 3 x 1 = C 0 0 8 + m
            · have := t4 x (by rw [z (by omega)] at hx; exact hx)
              exact absurd (decide_eq_true (p := pass C m 3 x 3 = 0 ∧ pass C m 3 x 1 = pass C m 0 0 8) ⟨h3, by omega⟩) (by show ¬ befc (pass C m) x = true; rw [this]; decide)
            · exact g3 x hx h3 ⟨by omega, by omega⟩
          rw [pass_add, z8] at ps
          have e6 : m + (N - (C 0 0 8 + m)) = N - C 0 0 8 := by omega
          rw [e6] at ps
          refine Or.inl ⟨(nI (i + 1), nI (C 0 0 8 + (N - C 0 0 8)), x2, y3, v3), ?_, N - C 0 0 8, x2, y3, v3, by omega, by omega, rfl, ?_, ?_, ?_⟩
          · unfold X0_passHours_b9 X0_passHours_j70
            have e7 : C 0 0 8 + (N - C 0 0 8) = N := by omega
            simp (disch := omega) only [l_0, l_1, l_2, l_3, l_4, l_5, l_6, l_7, l_8, l_9, l_10, l_11, l_12, l_13, l_14, l_15, l_16, l_17, l_18, l_19, l_20, l_21, l_22, l_23, l_24, l_25, l_26, l_27, l_30, l_31, l_32, l_40, l_48, l_57, l_59, l_60, l_61, l_62, l_64, l_83, l_90, l_97, l_99, l_100, l_108, l_115, l_122, l_123, l_127, l_128, l_131, l_135, l_200, l_255, l_256, l_300, l_487, l_495, l_900, l_999, l_1000, l_1700, l_1792, l_1980, l_2048, l_2475, l_2970, l_3121, l_9999, l_10000, l_11351, l_65536, l_100000, l_1000000, ↓l_m1, l_neg, nI_add, pk_mul, pk_sub, q_leT, q_leF, q_ltT, q_ltF, q_eqT, q_eqF, q_m1e, q_m1e2, q_m1lt, q_m1le, q_m1nl, q_m1nle, q_m1s, q_ix, q_jat, q_jput, q_min1, q_min2, q_max1, q_max2, q_or0, q_0or, q_bs, if_true, if_false, true_and, and_true, false_and, and_false, not_true_eq_false, not_false_eq_true, eq_self, Bool.false_eq_true, q_z0, q_z1, w1, b1, c1, zb_or, zb_0, s, nx, e7]
          · rw [ps]; exact CX_o hx2 (by omega) (by omega)
          · rw [ps]; exact CH_o hh3 (by omega) (by omega)
          · rw [ps]; exact CW_o hw3 (by omega) (by omega)
        · have s' : (stirW (pass C m) (C 0 0 2) || stirB (walkN (pass C m) (C 0 0 2)) (C 0 0 3) || stirT (befN (walkN (pass C m) (C 0 0 2)) (C 0 0 3)) (C 0 0 4)) = true := by
            cases hb : (stirW (pass C m) (C 0 0 2) || stirB (walkN (pass C m) (C 0 0 2)) (C 0 0 3) || stirT (befN (walkN (pass C m) (C 0 0 2)) (C 0 0 3)) (C 0 0 4)) with
            | true => rfl
            | false => exact absurd hb s
          refine Or.inl ⟨(nI (i + 1), nI (C 0 0 8 + (m + 1)), x2, y3, v3), ?_, m + 1, x2, y3, v3, by omega, by omega, rfl, ?_, ?_, ?_⟩
          · unfold X0_passHours_b9 X0_passHours_j70
            simp (disch := omega) only [l_0, l_1, l_2, l_3, l_4, l_5, l_6, l_7, l_8, l_9, l_10, l_11, l_12, l_13, l_14, l_15, l_16, l_17, l_18, l_19, l_20, l_21, l_22, l_23, l_24, l_25, l_26, l_27, l_30, l_31, l_32, l_40, l_48, l_57, l_59, l_60, l_61, l_62, l_64, l_83, l_90, l_97, l_99, l_100, l_108, l_115, l_122, l_123, l_127, l_128, l_131, l_135, l_200, l_255, l_256, l_300, l_487, l_495, l_900, l_999, l_1000, l_1700, l_1792, l_1980, l_2048, l_2475, l_2970, l_3121, l_9999, l_10000, l_11351, l_65536, l_100000, l_1000000, ↓l_m1, l_neg, nI_add, pk_mul, pk_sub, q_leT, q_leF, q_ltT, q_ltF, q_eqT, q_eqF, q_m1e, q_m1e2, q_m1lt, q_m1le, q_m1nl, q_m1nle, q_m1s, q_ix, q_jat, q_jput, q_min1, q_min2, q_max1, q_max2, q_or0, q_0or, q_bs, if_true, if_false, true_and, and_true, false_and, and_false, not_true_eq_false, not_false_eq_true, eq_self, Bool.false_eq_true, q_z0, q_z1, w1, b1, c1, zb_or, zb_0, s', Bool.true_eq_false]
            rfl
          · rw [pass]; unfold hour1; exact CX_o hx2 (by omega) (by omega)
          · rw [pass]; unfold hour1; exact CH_o hh3 (by omega) (by omega)
          · rw [pass]; unfold hour1; exact CW_o hw3 (by omega) (by omega)) (fun s hs => by
      obtain ⟨m, f, f', f'', him, hmn, rfl, a1, a2, a3⟩ := hs
      have : m = n := by omega
      subst this
      refine ⟨_, ?_, f, f', f'', rfl, a1, a2, a3⟩
      unfold X0_passHours_b9
      simp (disch := omega) only [l_0, l_1, l_2, l_3, l_4, l_5, l_6, l_7, l_8, l_9, l_10, l_11, l_12, l_13, l_14, l_15, l_16, l_17, l_18, l_19, l_20, l_21, l_22, l_23, l_24, l_25, l_26, l_27, l_30, l_31, l_32, l_40, l_48, l_57, l_59, l_60, l_61, l_62, l_64, l_83, l_90, l_97, l_99, l_100, l_108, l_115, l_122, l_123, l_127, l_128, l_131, l_135, l_200, l_255, l_256, l_300, l_487, l_495, l_900, l_999, l_1000, l_1700, l_1792, l_1980, l_2048, l_2475, l_2970, l_3121, l_9999, l_10000, l_11351, l_65536, l_100000, l_1000000, ↓l_m1, l_neg, nI_add, pk_mul, pk_sub, q_leT, q_leF, q_ltT, q_ltF, q_eqT, q_eqF, q_m1e, q_m1e2, q_m1lt, q_m1le, q_m1nl, q_m1nle, q_m1s, q_ix, q_jat, q_jput, q_min1, q_min2, q_max1, q_max2, q_or0, q_0or, q_bs, if_true, if_false, true_and, and_true, false_and, and_false, not_true_eq_false, not_false_eq_true, eq_self, Bool.false_eq_true, q_z0, q_z1]) (s0 := (0, nI (C 0 0 8), xf, hf, wf)) ⟨0, xf, hf, wf, Nat.le_refl _, Nat.zero_le _, rfl, hX, hH, hW⟩ (show n < F by omega)
  refine ⟨xf2, hf2, wf2, ?_, h2⟩
  unfold X0_passHours
  rw [nI_add, h1]; rfl
