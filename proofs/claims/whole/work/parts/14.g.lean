/-! ===== PURE 14.g: trays, the tape; plan, bear ===== -/
theorem R_ci_gen {S S' T T' : vS} {j i : Nat} (h : R_ci S T j i) (h1 : ∀ k, k < 12 → S'.1 (6 + 12 * j + k) = S.1 (6 + 12 * j + k)) (h2 : ∀ k, k < 9 → S'.2.2.1 (9 * j + k) = S.2.2.1 (9 * j + k)) (h3 : S'.2.2.2 j = S.2.2.2 j) (h4 : ∀ k, k < 495 → T'.2.2.1 0 (495 * i + k) = T.2.2.1 0 (495 * i + k)) (h5 : ∀ k, k < 27 → T'.2.2.2 0 (27 * i + k) = T.2.2.2 0 (27 * i + k)) : R_ci S' T' j i := by
  obtain ⟨C, h⟩ := h
  exact ⟨C, CityOK_cong h h1 h2 h3 h4 h5⟩
theorem R_mk_gen {S S' T T' : vS} (h : R_mk S T) (h0 : S'.1 0 = S.1 0) (h1 : ∀ k, 30 ≤ k → k < 66 → S'.1 k = S.1 k) (h2 : ∀ k, 18 ≤ k → k < 45 → S'.2.2.1 k = S.2.2.1 k) (h3 : ∀ k, 2 ≤ k → k < 5 → S'.2.2.2 k = S.2.2.2 k) (t0 : T'.1 19 = T.1 19) (h4 : ∀ k, 495 ≤ k → k < 1980 → T'.2.2.1 0 k = T.2.2.1 0 k) (h5 : ∀ k, 27 ≤ k → k < 108 → T'.2.2.2 0 k = T.2.2.2 0 k) : R_mk S' T' := by
  obtain ⟨m, a1, a2, a3, a4⟩ := h
  exact ⟨m, a1, by rw [h0]; exact a2, by rw [t0]; exact a3, fun i hi => R_ci_gen (a4 i hi) (fun k hk => h1 _ (by omega) (by omega)) (fun k hk => h2 _ (by omega) (by omega)) (h3 _ (by omega) (by omega)) (fun k hk => h4 _ (by omega) (by omega)) (fun k hk => h5 _ (by omega) (by omega))⟩
theorem Rel_tr {S T : vS} {st : Int32} {f : Nat → Int64} {so sz : Nat → Int32} (h : Rel S T) (hk : TrOk sz so) : Rel (sA (sA (sB (sI S 5 st) 6 f) 57 so) 58 sz) (sB (sA (sA (sI T 0 st) 1 so) 2 sz) 1 f) := by
  obtain ⟨a1, a2, a3, a4, a5, a6, a7, a8⟩ := h
  refine ⟨rfl, a2, ⟨rfl, rfl, rfl, hk⟩, a4, a5, a6, R_mk_gen a7 rfl (fun k h1 h2 => ?_) (fun k h1 h2 => ?_) (fun k h1 h2 => ?_) rfl (fun _ _ _ => rfl) (fun _ _ _ => rfl), R_ci_gen a8 (fun k h1 => ?_) (fun k h1 => ?_) rfl (fun _ _ => rfl) (fun _ _ => rfl)⟩
  · simp (disch := omega) only [sI, sA, sB, up_n]
  · simp (disch := omega) only [sI, sA, sB, up_n]
  · simp (disch := omega) only [sI, sA, sB, up_n]
  · simp (disch := omega) only [sI, sA, sB, up_n]
  · simp (disch := omega) only [sI, sA, sB, up_n]
theorem Rel_tw {S T : vS} {st : Int32} {f : Nat → Int64} (h : Rel S T) : Rel (sB (sI S 5 st) 6 f) (sB (sI T 0 st) 1 f) := by
  obtain ⟨a1, a2, a3, a4, a5, a6, a7, a8⟩ := h
  refine ⟨rfl, a2, ⟨rfl, a3.2.1, a3.2.2.1, a3.2.2.2⟩, a4, a5, a6, R_mk_gen a7 rfl (fun k h1 h2 => ?_) (fun k h1 h2 => ?_) (fun k h1 h2 => ?_) rfl (fun _ _ _ => rfl) (fun _ _ _ => rfl), R_ci_gen a8 (fun k h1 => ?_) (fun k h1 => ?_) rfl (fun _ _ => rfl) (fun _ _ => rfl)⟩
  · simp (disch := omega) only [sI, sA, sB, up_n]
  · simp (disch := omega) only [sI, sA, sB, up_n]
  · simp (disch := omega) only [sI, sA, sB, up_n]
  · simp (disch := omega) only [sI, sA, sB, up_n]
  · simp (disch := omega) only [sI, sA, sB, up_n]
theorem ok_tray' {F : Nat} (hF : 2000 < F) : ok_tray F Rel := fun S T v1 v2 v3 h => by
  obtain ⟨e1, e2, e3, hk⟩ := h.2.2.1
  unfold xx_tray xm_tray
  rw [← e1, ← e2, ← e3]
  rcases tray_e (F := F) (s := S.1 5) (s' := T.1 0) (f := S.2.2.2 6) (so := S.2.2.1 57) (sz := S.2.2.1 58) v1 v2 v3 (by omega) hk with ⟨a, b⟩ | ⟨f2, so2, sz2, a, b, hk2⟩
  · rw [a, b]; exact ⟨0, _, _, rfl, rfl, Rel_tr h hk⟩
  · rw [a, b]; exact ⟨1, _, _, rfl, rfl, Rel_tr h hk2⟩
theorem ok_write' {F : Nat} : ok_write F Rel := fun S T v1 v2 v3 h => by
  obtain ⟨e1, e2, e3, hk⟩ := h.2.2.1
  unfold xx_write xm_write
  rw [← e1, ← e2, ← e3]
  obtain ⟨r, w, f2, a, b⟩ := write_e (s := S.1 5) (s' := T.1 0) (f := S.2.2.2 6) (so := S.2.2.1 57) (sz := S.2.2.1 58) v1 v2 v3 hk
  rw [a, b]; exact ⟨r, _, _, rfl, rfl, Rel_tw h⟩
theorem ok_read' {F : Nat} : ok_read F Rel := fun S T v1 v2 h => by
  obtain ⟨e1, e2, e3, hk⟩ := h.2.2.1
  unfold xx_read xm_read
  rw [← e1, ← e3]
  obtain ⟨r, w, a, b⟩ := read_e (s := S.1 5) (s' := T.1 0) (f := S.2.2.2 6) (so := S.2.2.1 57) (sz := S.2.2.1 58) v1 v2 hk
  rw [a, b]; exact ⟨r, _, _, rfl, rfl, Rel_st w h⟩
theorem ok_pour' {F : Nat} (hF : 2000 < F) : ok_pour F Rel := fun S T v1 v2 v3 v4 v5 h => by
  obtain ⟨e1, e2, e3, hk⟩ := h.2.2.1
  unfold xx_pour xm_pour
  rw [← e1, ← e2, ← e3]
  obtain ⟨r, w, f2, a, b⟩ := pour_e (F := F) (s := S.1 5) (s' := T.1 0) (f := S.2.2.2 6) (so := S.2.2.1 57) (sz := S.2.2.1 58) v1 v2 v3 v4 v5 (by omega) hk
  rw [a, b]; exact ⟨r, _, _, rfl, rfl, Rel_tw h⟩
theorem ok_feed' {F : Nat} (hF : 2000 < F) : ok_feed F Rel := fun S T v1 v2 v3 v4 v5 h => by
  obtain ⟨a1, a2, a3, ⟨n, n1, n2, n3, n4⟩, a5, a6, a7, a8⟩ := h
  unfold xx_feed xm_feed
  rw [n2, n3]
  obtain ⟨r, m, f2, g2, m1', a, b, tp⟩ := feed_e (F := F) v1 v2 v3 v4 v5 n1 (by omega) n4
  rw [a, b]
  refine ⟨r, _, _, rfl, rfl, a1, a2, a3, ⟨m, m1', rfl, rfl, tp⟩, a5, ?_, R_mk_gen a7 rfl (fun k h1 h2 => ?_) (fun k h1 h2 => ?_) (fun k h1 h2 => rfl) rfl (fun _ _ _ => rfl) (fun _ _ _ => rfl), R_ci_gen a8 (fun k h1 => ?_) (fun k h1 => ?_) rfl (fun _ _ => rfl) (fun _ _ => rfl)⟩
  · exact a6
  · simp (disch := omega) only [sI, sA, sB, up_n]
  · simp (disch := omega) only [sI, sA, sB, up_n]
  · simp (disch := omega) only [sI, sA, sB, up_n]
  · simp (disch := omega) only [sI, sA, sB, up_n]
/-! one row more -/
theorem add_e {F n w m : Nat} {f : Nat → Int32} (hw : 0 < w) (hm : (m + 1) * w ≤ n) (hn : n < 2 ^ 31) (hwF : w < F) : X7_add F n (nI w) (nI m) f = some (nI m, nI (m + 1), putN f (fun _ => nI 0) (m * w) w) := by
  have q1 : m + 1 ≤ (m + 1) * w := Nat.le_mul_of_pos_right _ hw
  have q2 : w ≤ (m + 1) * w := Nat.le_mul_of_pos_left w (by omega)
  unfold X7_add X7_isFull
  have it : iter (X7_add_b21 F n (nI w) (nI (m + 1))) F (nI 0, putN f (fun _ => nI 0) (m * w) 0) = some (putN f (fun _ => nI 0) (m * w) w) := by
    refine iter_count (b := X7_add_b21 F n (nI w) (nI (m + 1))) (fun i => (nI i, putN f (fun _ => nI 0) (m * w) i)) w (fun i hi => ?_) ?_ F hwF
    · have s := q_set (n := n) (w := w) (m := m + 1) (r := m) (c := i) (f := putN f (fun _ => nI 0) (m * w) i) (nI 0) (by omega) hi hm hn
      have e : m + 1 - 1 = m := by omega
      have e2 := putN_s f (fun _ => nI 0) (m * w) i
      unfold X7_add_b21
      simp (disch := omega) only [l_0, l_1, l_2, l_3, l_4, l_5, l_6, l_7, l_8, l_9, l_10, l_11, l_12, l_13, l_14, l_15, l_16, l_17, l_18, l_19, l_20, l_21, l_22, l_23, l_24, l_25, l_26, l_27, l_30, l_31, l_32, l_40, l_48, l_57, l_59, l_60, l_61, l_62, l_64, l_83, l_90, l_97, l_99, l_100, l_108, l_115, l_122, l_123, l_127, l_128, l_131, l_135, l_200, l_255, l_256, l_300, l_487, l_495, l_900, l_999, l_1000, l_1700, l_1792, l_1980, l_2048, l_2475, l_2970, l_3121, l_9999, l_10000, l_11351, l_65536, l_100000, l_1000000, ↓l_m1, l_neg, nI_add, pk_mul, pk_sub, q_leT, q_leF, q_ltT, q_ltF, q_eqT, q_eqF, q_m1e, q_m1e2, q_m1lt, q_m1le, q_m1nl, q_m1nle, q_m1s, q_ix, q_jat, q_jput, q_min1, q_min2, q_max1, q_max2, q_or0, q_0or, q_bs, if_true, if_false, true_and, and_true, false_and, and_false, not_true_eq_false, not_false_eq_true, eq_self, Bool.false_eq_true, q_z0, q_z1, e, s, e2]
    · unfold X7_add_b21
      simp (disch := omega) only [l_0, l_1, l_2, l_3, l_4, l_5, l_6, l_7, l_8, l_9, l_10, l_11, l_12, l_13, l_14, l_15, l_16, l_17, l_18, l_19, l_20, l_21, l_22, l_23, l_24, l_25, l_26, l_27, l_30, l_31, l_32, l_40, l_48, l_57, l_59, l_60, l_61, l_62, l_64, l_83, l_90, l_97, l_99, l_100, l_108, l_115, l_122, l_123, l_127, l_128, l_131, l_135, l_200, l_255, l_256, l_300, l_487, l_495, l_900, l_999, l_1000, l_1700, l_1792, l_1980, l_2048, l_2475, l_2970, l_3121, l_9999, l_10000, l_11351, l_65536, l_100000, l_1000000, ↓l_m1, l_neg, nI_add, pk_mul, pk_sub, q_leT, q_leF, q_ltT, q_ltF, q_eqT, q_eqF, q_m1e, q_m1e2, q_m1lt, q_m1le, q_m1nl, q_m1nle, q_m1s, q_ix, q_jat, q_jput, q_min1, q_min2, q_max1, q_max2, q_or0, q_0or, q_bs, if_true, if_false, true_and, and_true, false_and, and_false, not_true_eq_false, not_false_eq_true, eq_self, Bool.false_eq_true, q_z0, q_z1]
  rw [putN_0] at it
  have e : m + 1 - 1 = m := by omega
  rw [show (Int32.ofNat n : Int32) = nI n from rfl]
  simp (disch := omega) only [l_0, l_1, l_2, l_3, l_4, l_5, l_6, l_7, l_8, l_9, l_10, l_11, l_12, l_13, l_14, l_15, l_16, l_17, l_18, l_19, l_20, l_21, l_22, l_23, l_24, l_25, l_26, l_27, l_30, l_31, l_32, l_40, l_48, l_57, l_59, l_60, l_61, l_62, l_64, l_83, l_90, l_97, l_99, l_100, l_108, l_115, l_122, l_123, l_127, l_128, l_131, l_135, l_200, l_255, l_256, l_300, l_487, l_495, l_900, l_999, l_1000, l_1700, l_1792, l_1980, l_2048, l_2475, l_2970, l_3121, l_9999, l_10000, l_11351, l_65536, l_100000, l_1000000, ↓l_m1, l_neg, nI_add, pk_mul, pk_sub, q_leT, q_leF, q_ltT, q_ltF, q_eqT, q_eqF, q_m1e, q_m1e2, q_m1lt, q_m1le, q_m1nl, q_m1nle, q_m1s, q_ix, q_jat, q_jput, q_min1, q_min2, q_max1, q_max2, q_or0, q_0or, q_bs, if_true, if_false, true_and, and_true, false_and, and_false, not_true_eq_false, not_false_eq_true, eq_self, Bool.false_eq_true, q_z0, q_z1, it, e]
def addH (C : Cy) (a d k : Nat) : Cy := fun t r c => if t = 0 ∧ r = 0 ∧ c = 3 then C 0 0 3 + 1 else if t = 3 ∧ r = C 0 0 3 then (if c = 0 then a else if c = 1 then d else if c = 2 then k else 0) else C t r c
def addE (C : Cy) (a : Nat) : Cy := fun t r c => if t = 0 ∧ r = 0 ∧ c = 2 then C 0 0 2 + 1 else if t = 2 ∧ r = C 0 0 2 then (if c = 0 then a else 0) else C t r c
theorem addH_n (C : Cy) (a d k : Nat) : addH C a d k 0 0 3 = C 0 0 3 + 1 := if_pos ⟨rfl, rfl, rfl⟩
theorem addH_t (C : Cy) {a d k t r c : Nat} (h : t ≠ 3) (h2 : t = 0 → c ≠ 3) : addH C a d k t r c = C t r c := by
  unfold addH; rw [if_neg (fun q => h2 q.1 q.2.2), if_neg (fun q => h q.1)]
theorem addH_o (C : Cy) {a d k r c : Nat} (h : r ≠ C 0 0 3) : addH C a d k 3 r c = C 3 r c := by
  unfold addH; rw [if_neg (by omega), if_neg (fun q => h q.2)]
theorem addH_r (C : Cy) {a d k c : Nat} : addH C a d k 3 (C 0 0 3) c = (if c = 0 then a else if c = 1 then d else if c = 2 then k else 0) := by
  unfold addH; rw [if_neg (by omega), if_pos ⟨rfl, rfl⟩]
theorem addE_n (C : Cy) (a : Nat) : addE C a 0 0 2 = C 0 0 2 + 1 := if_pos ⟨rfl, rfl, rfl⟩
theorem addE_t (C : Cy) {a t r c : Nat} (h : t ≠ 2) (h2 : t = 0 → c ≠ 2) : addE C a t r c = C t r c := by
  unfold addE; rw [if_neg (fun q => h2 q.1 q.2.2), if_neg (fun q => h q.1)]
theorem addE_o (C : Cy) {a r c : Nat} (h : r ≠ C 0 0 2) : addE C a 2 r c = C 2 r c := by
  unfold addE; rw [if_neg (by omega), if_neg (fun q => h q.2)]
theorem addE_r (C : Cy) {a c : Nat} : addE C a 2 (C 0 0 2) c = (if c = 0 then a else 0) := by
  unfold addE; rw [if_neg (by omega), if_pos ⟨rfl, rfl⟩]
theorem NR_add {C D : Cy} {nN : Int32} {co : Nat → Int64} {so nu : Nat → Int32} {mn mn' : Nat → Int64} {s0 : Nat} (h : NR C nN co so nu mn) (ok : Ok D) (hs : s0 = 2 ∨ s0 = 3) (hn : cnt D s0 = cnt C s0 + 1) (ho : ∀ s, 1 ≤ s → s ≤ 4 → s ≠ s0 → cnt D s = cnt C s) (h0 : mn' (nb s0 + cnt C s0) = lN 0) (hm : ∀ k, k < 27 → k ≠ nb s0 + cnt C s0 → mn' k = mn k) : NR D nN co so nu mn' := by
  obtain ⟨n, nm, a1, a2, a3, a4, a5, a6⟩ := h
  have le : ∀ s, 1 ≤ s → s ≤ 4 → cnt C s ≤ cnt D s := by
    intro s h1 h4
    by_cases e : s = s0
    · rw [e, hn]; omega
    · rw [ho s h1 h4 e]; exact Nat.le_refl _
  have old : ∀ s k, 1 ≤ s → s ≤ 4 → k < cnt D s → ¬ (s = s0 ∧ k = cnt C s0) → k < cnt C s := by
    intro s k h1 h4 hk q
    by_cases e : s = s0
    · subst e; rw [hn] at hk; omega
    · rw [ho s h1 h4 e] at hk; exact hk
  have w0 : w8 8 0 := Or.inl rfl
  refine ⟨n, fun s k => if s = s0 ∧ k = cnt C s0 then 0 else nm s k, a1, a2, fun i hi => ?_, fun s k h1 h4 hk hz => ?_, fun s k h1 h4 hk => ?_, fun s k s' k' h1 h2 hk h3 h4 hk' hz he => ?_⟩
  · obtain ⟨s, k, b1, b2, b3, b4, b5, b6, b7⟩ := a3 i hi
    have q : ¬ (s = s0 ∧ k = cnt C s0) := by rintro ⟨rfl, rfl⟩; omega
    exact ⟨s, k, b1, b2, Nat.lt_of_lt_of_le b3 (le s b1 b2), by dsimp only; rw [if_neg q]; exact b4, b5, b6, by dsimp only; rw [if_neg q]; exact b7⟩
  · dsimp only at hz ⊢
    by_cases q : s = s0 ∧ k = cnt C s0
    · rw [if_pos q] at hz; exact absurd rfl hz
    · rw [if_neg q] at hz ⊢; exact a4 s k h1 h4 (old s k h1 h4 hk q) hz
  · dsimp only
    by_cases q : s = s0 ∧ k = cnt C s0
    · rw [if_pos q, q.1, q.2]; exact ⟨w0, h0⟩
    · rw [if_neg q]
      have ol := old s k h1 h4 hk q
      have c1 := cnt_le ok h1 h4
      have c2 := cnt_le ok (s := s0) (by omega) (by omega)
      have ne : nb s + k ≠ nb s0 + cnt C s0 := by
        have b : ∀ s, 1 ≤ s → s ≤ 4 → (s = 1 ∧ nb s = 0) ∨ (s = 2 ∧ nb s = 8) ∨ (s = 3 ∧ nb s = 15) ∨ (s = 4 ∧ nb s = 23) := by
          intro s h1 h4
          rcases (show s = 1 ∨ s = 2 ∨ s = 3 ∨ s = 4 by omega) with rfl | rfl | rfl | rfl <;> decide
        have d0 : D 0 0 0 ≤ 8 ∧ D 0 0 2 ≤ 7 ∧ D 0 0 3 ≤ 8 := ⟨ok.1.1, ok.1.2.2.1, ok.1.2.2.2.1⟩
        have c3 : cnt D 1 = D 0 0 0 := rfl
        have c4 : cnt D 2 = D 0 0 2 := rfl
        have c5 : cnt D 3 = D 0 0 3 := rfl
        intro e
        rcases b s h1 h4 with ⟨e1, e2⟩ | ⟨e1, e2⟩ | ⟨e1, e2⟩ | ⟨e1, e2⟩ <;> rcases b s0 (by omega) (by omega) with ⟨f1, f2⟩ | ⟨f1, f2⟩ | ⟨f1, f2⟩ | ⟨f1, f2⟩ <;> first | omega | (subst e1; subst f1; first | omega | exact q ⟨rfl, by omega⟩)
      rw [hm _ (by omega) ne]; exact a5 s k h1 h4 ol
  · dsimp only at hz he
    have q : ¬ (s = s0 ∧ k = cnt C s0) := fun q => by rw [if_pos q] at hz; exact hz rfl
    rw [if_neg q] at hz he
    have q' : ¬ (s' = s0 ∧ k' = cnt C s0) := fun q => by rw [if_pos q] at he; exact hz he
    rw [if_neg q'] at he
    exact a6 s k s' k' h1 h2 (old s k h1 h2 hk q) h3 h4 (old s' k' h3 h4 hk' q') hz he
