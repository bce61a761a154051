/-! ===== PURE 19.a: weeks: how steps lie within each other; what becomes of a city ===== -/
def WK (C : Cy) (R : Nat → Nat → Nat) (m : Nat) (wk g : Nat → Int32) (dep : Nat → Nat) (enc : Nat → Nat → Nat) : Prop := m ≤ 60 ∧ cls R m ≤ 30 ∧ (∀ q, q < m → RowOk C R q) ∧ (∀ q, q < m → R q 0 ≠ 19 → ClRow R wk q) ∧ g 9 = nI m ∧ (∀ q c, q < m → c < 6 → c ≠ 3 → g (127 + 6 * q + c) = nI (R q c)) ∧ Nest R m dep enc ∧ dep m = 0
theorem cls_s (R : Nat → Nat → Nat) {q : Nat} (h : R q 0 ≠ 19) : cls R (q + 1) = cls R q + 1 := by
  unfold cls; rw [fb_ct_succ]; unfold ncl; rw [decide_eq_true h]; rfl
theorem cls_c (R : Nat → Nat → Nat) {q : Nat} (h : R q 0 = 19) : cls R (q + 1) = cls R q := by
  unfold cls; rw [fb_ct_succ]; unfold ncl; rw [decide_eq_false (fun z => z h)]; rfl
theorem cls_mono (R : Nat → Nat → Nat) {a b : Nat} (h : a ≤ b) : cls R a ≤ cls R b := fb_ct_mono _ h
theorem opn19 {k : Nat} (h : opn k) : k ≠ 19 := by unfold opn at h; omega
/-- what encloses a step begins ahead of it -/
theorem nest_up {R : Nat → Nat → Nat} {m : Nat} {dep : Nat → Nat} {enc : Nat → Nat → Nat} (hN : Nest R m dep enc) : ∀ q, q ≤ m → ∀ d, d < dep q → enc q d < q ∧ opn (R (enc q d) 0) ∧ dep (enc q d) = d ∧ ∀ e, e < d → enc (enc q d) e = enc q e
  | 0, _ => fun d hd => by rw [hN.1] at hd; omega
  | q + 1, hq => by
    have ih := nest_up hN q (by omega)
    obtain ⟨n1, n2, n3, n4⟩ := hN.2 q (by omega)
    intro d hd
    by_cases ho : opn (R q 0)
    · obtain ⟨a1, a2, a3, a4⟩ := n2 ho
      by_cases e : d = dep q
      · subst e
        rw [a3]
        exact ⟨by omega, ho, rfl, fun e he => (a4 e he).symm⟩
      · rw [a4 d (by omega)]
        have i := ih d (by omega)
        exact ⟨by omega, i.2.1, i.2.2.1, fun e he => by rw [a4 e (by omega)]; exact i.2.2.2 e he⟩
    · by_cases hc : R q 0 = 19
      · obtain ⟨a1, a2, a3, a4, a5⟩ := n3 hc
        rw [a5 d (by omega)]
        have i := ih d (by omega)
        exact ⟨by omega, i.2.1, i.2.2.1, fun e he => by rw [a5 e (by omega)]; exact i.2.2.2 e he⟩
      · obtain ⟨a1, a2⟩ := n4 ho hc
        rw [a2 d (by omega)]
        have i := ih d (by omega)
        exact ⟨by omega, i.2.1, i.2.2.1, fun e he => by rw [a2 e (by omega)]; exact i.2.2.2 e he⟩
/-- and ends behind it -/
theorem nest_dn {R : Nat → Nat → Nat} {m : Nat} {dep : Nat → Nat} {enc : Nat → Nat → Nat} (hN : Nest R m dep enc) (h0 : dep m = 0) : ∀ j q, q + j = m → ∀ d, d < dep q → q ≤ R (enc q d) 4 ∧ R (enc q d) 4 < m ∧ R (R (enc q d) 4) 0 = 19 ∧ R (R (enc q d) 4) 4 = enc q d ∧ dep (R (enc q d) 4) = d + 1 ∧ enc (R (enc q d) 4) d = enc q d ∧ ∀ e, e < d → enc (R (enc q d) 4) e = enc q e
  | 0, q, hq => fun d hd => by
    have : q = m := by omega
    subst this; omega
  | j + 1, q, hq => by
    have ih := nest_dn hN h0 j (q + 1) (by omega)
    obtain ⟨n1, n2, n3, n4⟩ := hN.2 q (by omega)
    intro d hd
    by_cases ho : opn (R q 0)
    · obtain ⟨a1, a2, a3, a4⟩ := n2 ho
      have i := ih d (by omega)
      rw [a4 d hd] at i
      exact ⟨by omega, i.2.1, i.2.2.1, i.2.2.2.1, i.2.2.2.2.1, i.2.2.2.2.2.1, fun e he => by rw [i.2.2.2.2.2.2 e he, a4 e (by omega)]⟩
    · by_cases hc : R q 0 = 19
      · obtain ⟨a1, a2, a3, a4, a5⟩ := n3 hc
        by_cases e : d = dep q - 1
        · rw [e, ← a2, a3]
          exact ⟨Nat.le_refl _, by omega, hc, rfl, by omega, a2.symm, fun e he => rfl⟩
        · have i := ih d (by omega)
          rw [a5 d (by omega)] at i
          exact ⟨by omega, i.2.1, i.2.2.1, i.2.2.2.1, i.2.2.2.2.1, i.2.2.2.2.2.1, fun e he => by rw [i.2.2.2.2.2.2 e he, a5 e (by omega)]⟩
      · obtain ⟨a1, a2⟩ := n4 ho hc
        have i := ih d (by omega)
        rw [a2 d hd] at i
        exact ⟨by omega, i.2.1, i.2.2.1, i.2.2.2.1, i.2.2.2.2.1, i.2.2.2.2.2.1, fun e he => by rw [i.2.2.2.2.2.2 e he, a2 e (by omega)]⟩
theorem dep3 {R : Nat → Nat → Nat} {m : Nat} {dep : Nat → Nat} {enc : Nat → Nat → Nat} (hN : Nest R m dep enc) (h0 : dep m = 0) {q : Nat} (hq : q ≤ m) : dep q ≤ 3 := by
  by_cases e : q = m
  · rw [e, h0]; omega
  · exact (hN.2 q (by omega)).1
/-! cities on the way -/
def Dv (C0 C : Cy) : Prop := Ok C ∧ C 0 0 8 ≤ 9999 ∧ WB C ∧ SameS C0 C ∧ ∀ k, k ≠ 8 → C 0 0 k = C0 0 0 k
def fct (C : Cy) : Nat := fb_ct (fate C 1) (C 0 0 3)
def wsm (C : Cy) : Nat := fb_sm (fun w => C 4 w 2) (C 0 0 4)
def TL (C0 C : Cy) (ran : Nat → Int32) : Prop := C0 0 0 8 ≤ C 0 0 8 ∧ fct C0 ≤ fct C ∧ wsm C0 ≤ wsm C ∧ ran 1 = nI (C 0 0 8 - C0 0 0 8) ∧ ran 2 = nI (fct C - fct C0) ∧ ran 3 = nI (wsm C - wsm C0)
theorem sm_bump {f : Nat → Nat} {w : Nat} : ∀ {n : Nat}, w < n → fb_sm (fun k => if k = w then f k + 1 else f k) n = fb_sm f n + 1
  | 0, h => by omega
  | n + 1, h => by
    rw [fb_sm_succ, fb_sm_succ]
    by_cases e : n = w
    · have : fb_sm (fun k => if k = w then f k + 1 else f k) n = fb_sm f n := fb_sm_cong (fun k hk => if_neg (by omega))
      rw [this, if_pos e]; omega
    · rw [sm_bump (by omega), if_neg e]; omega
theorem warn1_4 (C : Cy) (w k : Nat) : warn1 C w 4 k 2 = if k = w then C 4 k 2 + 1 else C 4 k 2 := by
  have b : bump C w 4 k 2 = if k = w then C 4 k 2 + 1 else C 4 k 2 := by
    unfold bump
    by_cases e : k = w
    · rw [e, setC_s, if_pos rfl]
    · rw [setC_r C e, if_neg e]
  unfold warn1
  cases soonAt (bump C w) (C 4 w 0) with
  | none => exact b
  | some h =>
    show putD (bump C w) h 4 k 2 = _
    unfold putD; rw [setC_t _ (by omega)]; exact b
theorem wsm_warn {C : Cy} {w : Nat} (hw : w < C 0 0 4) : wsm (warn1 C w) = wsm C + 1 := by
  unfold wsm
  rw [warn1_t C (t := 0) (r := 0) (c := 4) (by omega), ← sm_bump hw]
  exact fb_sm_cong (fun k _ => warn1_4 C w k)
theorem wsm_watN {C : Cy} : ∀ n, n ≤ C 0 0 4 → wsm C ≤ wsm (watN C n)
  | 0, _ => Nat.le_refl _
  | n + 1, h => by
    have i := wsm_watN (C := C) n (by omega)
    rw [watN]
    unfold wat1
    by_cases q : watc (watN C n) n = true
    · rw [if_pos q, wsm_warn (by rw [watN_t C (by omega)]; omega)]; omega
    · rw [if_neg q]; exact i
theorem wsm_t {C D : Cy} (h0 : D 0 0 4 = C 0 0 4) (h : ∀ w, D 4 w 2 = C 4 w 2) : wsm D = wsm C := by
  unfold wsm; rw [h0]; exact fb_sm_cong (fun k _ => h k)
theorem wsm_hour (C : Cy) : wsm C ≤ wsm (hour1 C) := by
  have a : wsm (hour1 C) = wsm (hourC C) := by
    unfold hour1
    exact wsm_t (setC_c _ (by omega)) (fun w => setC_t _ (by omega))
  have b : wsm (hourB C) = wsm C := by
    unfold hourB
    refine wsm_t ?_ (fun w => ?_)
    · rw [befN_t _ (by omega), walkN_t _ (by omega)]
    · rw [befN_t _ (by omega), walkN_t _ (by omega)]
  have c := wsm_watN (C := hourB C) (C 0 0 4) (by rw [hourB_0]; exact Nat.le_refl _)
  rw [a]
  unfold hourC
  omega
theorem wsm_pass (C : Cy) : ∀ n, wsm C ≤ wsm (pass C n)
  | 0 => Nat.le_refl _
  | n + 1 => Nat.le_trans (wsm_pass C n) (wsm_hour _)
theorem Dv_pass {C0 C : Cy} {n : Nat} (h : Dv C0 C) (hn : C 0 0 8 + n ≤ 9999) : Dv C0 (pass C n) := by
  obtain ⟨a1, a2, a3, a4, a5⟩ := h
  exact ⟨pass_ok a1 n (by omega), by rw [pass_8]; exact hn, WB_pass a1 a3 n (by omega), SameS_t a4 (pass_same C n), fun k hk => by rw [pass_0 C hk]; exact a5 k hk⟩
theorem Dv_set {C0 C : Cy} {t r c v : Nat} (h : Dv C0 C) (hs : Ok (setC C t r c v)) (ht : (t = 2 ∧ c ≠ 3) ∨ (t = 3 ∧ c ≠ 3) ∨ t = 4) : Dv C0 (setC C t r c v) := by
  obtain ⟨a1, a2, a3, a4, a5⟩ := h
  have ch := Chg_set (C := C) hs a3 (by omega)
  exact ⟨hs, by rw [setC_t C (by omega)]; exact a2, ch.2.2.2, SameS_t a4 (Chg_same ch), fun k hk => by rw [setC_t C (by omega)]; exact a5 k hk⟩
theorem Dv_warn {C0 C : Cy} {w : Nat} (h : Dv C0 C) : Dv C0 (warn1 C w) := by
  obtain ⟨a1, a2, a3, a4, a5⟩ := h
  refine ⟨warn1_ok a1, by rw [warn1_t C (by omega)]; exact a2, WB_o a3 (warn1_t C (by omega)) (warn1_t C (by omega)) (fun x => warn1_t C (by omega)) (fun k => warn1_t C (by omega)), SameS_t a4 ⟨warn1_t C (by omega), warn1_t C (by omega), fun r c => warn1_t C (by omega)⟩, fun k hk => by rw [warn1_t C (by omega)]; exact a5 k hk⟩
theorem fct_o {C D : Cy} (h0 : D 0 0 3 = C 0 0 3) (h : ∀ k, D 3 k 3 = C 3 k 3) : fct D = fct C := by
  unfold fct; rw [h0]; exact fb_ct_cong (fun k _ => by unfold fate; rw [h])
theorem TL_same {C0 C D : Cy} {ran : Nat → Int32} (h : TL C0 C ran) (h8 : D 0 0 8 = C 0 0 8) (h3 : fct D = fct C) (h4 : wsm D = wsm C) : TL C0 D ran := by
  unfold TL at h ⊢; rw [h8, h3, h4]; exact h
theorem m_allW {F : Nat} {C : Cy} {g : Nat → Int32} (ok : Ok C) (hM : MS C g) (hF : 100 < F) : X12_allWarned F g = some (nI (wsm C)) := by
  have o0 := ok.1
  have it : iter (X12_allWarned_b4 F g) F (nI (fb_sm (fun w => C 4 w 2) 0), nI 0) = some (nI (fb_sm (fun w => C 4 w 2) (C 0 0 4))) := by
    refine iter_count (b := X12_allWarned_b4 F g) (fun i => (nI (fb_sm (fun w => C 4 w 2) i), nI i)) (C 0 0 4) (fun i hi => ?_) ?_ F (by omega)
    · unfold X12_allWarned_b4
      rw [fb_sm_succ]
      simp (disch := omega) only [l_0, l_1, l_2, l_3, l_4, l_5, l_6, l_7, l_8, l_9, l_10, l_11, l_12, l_13, l_14, l_15, l_16, l_17, l_18, l_19, l_20, l_21, l_22, l_23, l_24, l_25, l_26, l_27, l_30, l_31, l_32, l_40, l_48, l_57, l_59, l_60, l_61, l_62, l_64, l_83, l_90, l_97, l_99, l_100, l_108, l_115, l_122, l_123, l_127, l_128, l_131, l_135, l_200, l_255, l_256, l_300, l_487, l_495, l_900, l_999, l_1000, l_1700, l_1792, l_1980, l_2048, l_2475, l_2970, l_3121, l_9999, l_10000, l_11351, l_65536, l_100000, l_1000000, ↓l_m1, l_neg, nI_add, pk_mul, pk_sub, q_leT, q_leF, q_ltT, q_ltF, q_eqT, q_eqF, q_m1e, q_m1e2, q_m1lt, q_m1le, q_m1nl, q_m1nle, q_m1s, q_ix, q_jat, q_jput, q_min1, q_min2, q_max1, q_max2, q_or0, q_0or, q_bs, if_true, if_false, true_and, and_true, false_and, and_false, not_true_eq_false, not_false_eq_true, eq_self, Bool.false_eq_true, q_z0, q_z1, m_0 hM, m_E hM, m_Es hM, m_Er hM, m_H hM, m_W hM, m_R0 hM, m_R1 hM, m_R2 hM]
    · unfold X12_allWarned_b4
      simp (disch := omega) only [l_0, l_1, l_2, l_3, l_4, l_5, l_6, l_7, l_8, l_9, l_10, l_11, l_12, l_13, l_14, l_15, l_16, l_17, l_18, l_19, l_20, l_21, l_22, l_23, l_24, l_25, l_26, l_27, l_30, l_31, l_32, l_40, l_48, l_57, l_59, l_60, l_61, l_62, l_64, l_83, l_90, l_97, l_99, l_100, l_108, l_115, l_122, l_123, l_127, l_128, l_131, l_135, l_200, l_255, l_256, l_300, l_487, l_495, l_900, l_999, l_1000, l_1700, l_1792, l_1980, l_2048, l_2475, l_2970, l_3121, l_9999, l_10000, l_11351, l_65536, l_100000, l_1000000, ↓l_m1, l_neg, nI_add, pk_mul, pk_sub, q_leT, q_leF, q_ltT, q_ltF, q_eqT, q_eqF, q_m1e, q_m1e2, q_m1lt, q_m1le, q_m1nl, q_m1nle, q_m1s, q_ix, q_jat, q_jput, q_min1, q_min2, q_max1, q_max2, q_or0, q_0or, q_bs, if_true, if_false, true_and, and_true, false_and, and_false, not_true_eq_false, not_false_eq_true, eq_self, Bool.false_eq_true, q_z0, q_z1, m_0 hM, m_E hM, m_Es hM, m_Er hM, m_H hM, m_W hM, m_R0 hM, m_R1 hM, m_R2 hM]
  unfold X12_allWarned
  rw [show ((0 : Int32), (0 : Int32)) = (nI (fb_sm (fun w => C 4 w 2) 0), nI 0) from rfl, it, q_bs]; rfl
theorem c_allW {F : Nat} {C : Cy} {wf : Nat → Int32} (ok : Ok C) (hW : CW C wf) (hF : 100 < F) : X7_sum F 12 (nI 3) (nI (C 0 0 4)) wf (nI 2) = some (nI (wsm C)) := by
  have o0 := ok.1
  rw [tsum_e (w := 3) (c := 2) rfl rfl (by omega) (by omega) (by omega) (by omega) (by omega)]
  congr 1
  have : ∀ n, n ≤ C 0 0 4 → sumI (fun r => wf (r * 3 + 2)) n = nI (fb_sm (fun w => C 4 w 2) n) := by
    intro n
    induction n with
    | zero => exact fun _ => rfl
    | succ n ih => intro hn; rw [sumI, ih (by omega), fb_sm_succ, hW n 2 (by omega) (by omega), nI_add]
  exact this _ (Nat.le_refl _)
