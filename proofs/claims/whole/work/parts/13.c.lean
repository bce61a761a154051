/-! ===== PURE 13.c: the soonest of a set, goals ===== -/
theorem oI_n : oI none = m1 := rfl
theorem oI_s (k : Nat) : oI (some k) = nI k := rfl
/-- of those with p that with the least d, of several the first -/
def fmin (p : Nat → Bool) (d : Nat → Nat) : Nat → Option Nat
  | 0 => none
  | n + 1 => if p n then (match fmin p d n with | none => some n | some j => if d n < d j then some n else some j) else fmin p d n
theorem fmin_no {p : Nat → Bool} {d : Nat → Nat} {n : Nat} (h : p n = false) : fmin p d (n + 1) = fmin p d n := by rw [fmin, h]; rfl
theorem fmin_new {p : Nat → Bool} {d : Nat → Nat} {n : Nat} (h : p n = true) (h2 : fmin p d n = none) : fmin p d (n + 1) = some n := by rw [fmin, if_pos h, h2]
theorem fmin_lt {p : Nat → Bool} {d : Nat → Nat} {n j : Nat} (h : p n = true) (h2 : fmin p d n = some j) (h3 : d n < d j) : fmin p d (n + 1) = some n := by rw [fmin, if_pos h, h2]; exact if_pos h3
theorem fmin_ge {p : Nat → Bool} {d : Nat → Nat} {n j : Nat} (h : p n = true) (h2 : fmin p d n = some j) (h3 : d j ≤ d n) : fmin p d (n + 1) = some j := by rw [fmin, if_pos h, h2]; exact if_neg (by omega)
theorem fmin_in {p : Nat → Bool} {d : Nat → Nat} : ∀ {n k : Nat}, fmin p d n = some k → k < n ∧ p k = true
  | 0, k, h => by cases h
  | n + 1, k, h => by
    by_cases hp : p n = true
    · cases hq : fmin p d n with
      | none => rw [fmin_new hp hq] at h; cases h; exact ⟨by omega, hp⟩
      | some j =>
        have ih := fmin_in hq
        by_cases h3 : d n < d j
        · rw [fmin_lt hp hq h3] at h; cases h; exact ⟨by omega, hp⟩
        · rw [fmin_ge hp hq (by omega)] at h; cases h; exact ⟨by omega, ih.2⟩
    · rw [fmin_no (ts_nt hp)] at h
      have ih := fmin_in h
      exact ⟨by omega, ih.2⟩
theorem fmin_cong {p q : Nat → Bool} {d e : Nat → Nat} : ∀ {n : Nat}, (∀ k, k < n → p k = q k) → (∀ k, k < n → d k = e k) → fmin p d n = fmin q e n
  | 0, _, _ => rfl
  | n + 1, h, h2 => by
    have ih := fmin_cong (n := n) (fun k hk => h k (by omega)) (fun k hk => h2 k (by omega))
    by_cases hp : p n = true
    · have hq : q n = true := by rw [← h n (by omega)]; exact hp
      cases hf : fmin q e n with
      | none => rw [fmin_new hq hf, fmin_new hp (by rw [ih, hf])]
      | some j =>
        have hj := (fmin_in hf).1
        by_cases h3 : e n < e j
        · rw [fmin_lt hq hf h3, fmin_lt hp (ih.trans hf) (by rw [h2 n (by omega), h2 j (by omega)]; exact h3)]
        · rw [fmin_ge hq hf (by omega), fmin_ge hp (ih.trans hf) (by rw [h2 n (by omega), h2 j (by omega)]; omega)]
    · have hq : q n = false := by rw [← h n (by omega)]; exact ts_nt hp
      rw [fmin_no hq, fmin_no (ts_nt hp), ih]
/-- none is sooner, of those as soon none is ahead -/
theorem fmin_best {p : Nat → Bool} {d : Nat → Nat} : ∀ {n k : Nat}, fmin p d n = some k → ∀ j, j < n → p j = true → d k ≤ d j ∧ (j < k → d k < d j)
  | 0, k, h => by cases h
  | n + 1, k, h => by
    intro j hj hpj
    by_cases hp : p n = true
    · cases hq : fmin p d n with
      | none =>
        rw [fmin_new hp hq] at h; cases h
        by_cases e : j = n
        · subst e; exact ⟨Nat.le_refl _, fun z => absurd z (by omega)⟩
        · exfalso
          have : ∀ m, j < m → fmin p d m ≠ none := by
            intro m
            induction m with
            | zero => intro z; omega
            | succ m ih =>
              intro z hz
              by_cases hm : p m = true
              · cases hf : fmin p d m with
                | none => rw [fmin_new hm hf] at hz; cases hz
                | some i =>
                  by_cases h3 : d m < d i
                  · rw [fmin_lt hm hf h3] at hz; cases hz
                  · rw [fmin_ge hm hf (by omega)] at hz; cases hz
              · rw [fmin_no (ts_nt hm)] at hz
                by_cases e2 : j = m
                · subst e2; exact hm hpj
                · exact ih (by omega) hz
          exact this n (by omega) hq
      | some i =>
        have ih := fmin_best hq
        have hi := fmin_in hq
        by_cases h3 : d n < d i
        · rw [fmin_lt hp hq h3] at h; cases h
          by_cases e : j = n
          · subst e; exact ⟨Nat.le_refl _, fun z => absurd z (by omega)⟩
          · have := ih j (by omega) hpj; exact ⟨by omega, fun _ => by omega⟩
        · rw [fmin_ge hp hq (by omega)] at h; cases h
          by_cases e : j = n
          · subst e; exact ⟨by omega, fun z => absurd z (by omega)⟩
          · exact ih j (by omega) hpj
    · rw [fmin_no (ts_nt hp)] at h
      have e : j ≠ n := fun e => by subst e; exact hp hpj
      exact fmin_best h j (by omega) hpj
theorem fmin_none {p : Nat → Bool} {d : Nat → Nat} {n : Nat} (h : fmin p d n = none) : ∀ j, j < n → p j = false := by
  intro j hj
  by_cases hp : p j = true
  · exfalso
    have : ∀ m, j < m → fmin p d m ≠ none := by
      intro m
      induction m with
      | zero => intro z; omega
      | succ m ih =>
        intro z hz
        by_cases hm : p m = true
        · cases hf : fmin p d m with
          | none => rw [fmin_new hm hf] at hz; cases hz
          | some i =>
            by_cases h3 : d m < d i
            · rw [fmin_lt hm hf h3] at hz; cases hz
            · rw [fmin_ge hm hf (by omega)] at hz; cases hz
        · rw [fmin_no (ts_nt hm)] at hz
          by_cases e2 : j = m
          · subst e2; exact hm hp
          · exact ih (by omega) hz
    exact this n hj h
  · exact ts_nt hp
def due (C : Cy) (h : Nat) : Nat := C 3 h 1
theorem c_soonest {F : Nat} {C : Cy} {hf : Nat → Int32} {s : Nat} (ok : Ok C) (hH : CH C hf) (hs : s < 2 ^ 31) (hF : 100 < F) : X0_soonest F (nI (C 0 0 3)) hf (nI s) = some (oI (fmin s.testBit (due C) (C 0 0 3))) := by
  obtain ⟨o0, oR, oE, oH, oW⟩ := ok
  unfold X0_soonest
  rw [show ((-1 : Int32), (0 : Int32)) = (oI (fmin s.testBit (due C) 0), nI 0) from rfl]
  rw [iter_count (b := X0_soonest_b4 F (nI (C 0 0 3)) hf (nI s)) (fun i => (oI (fmin s.testBit (due C) i), nI i)) (C 0 0 3) (e := oI (fmin s.testBit (due C) (C 0 0 3))) ?_ ?_ F (by omega)]; rfl
  · intro i hi
    have e1 := oH i hi
    unfold X0_soonest_b4 X0_soonest_j50 X0_soonest_j52
    cases hb : s.testBit i with
    | false =>
      rw [fmin_no hb]
      simp (disch := omega) only [l_0, l_1, l_2, l_3, l_4, l_5, l_6, l_7, l_8, l_9, l_10, l_11, l_12, l_13, l_14, l_15, l_16, l_17, l_18, l_19, l_20, l_21, l_22, l_23, l_24, l_25, l_26, l_27, l_30, l_31, l_32, l_40, l_48, l_57, l_59, l_60, l_61, l_62, l_64, l_83, l_90, l_97, l_99, l_100, l_108, l_115, l_122, l_123, l_127, l_128, l_131, l_135, l_200, l_255, l_256, l_300, l_487, l_495, l_900, l_999, l_1000, l_1700, l_1792, l_1980, l_2048, l_2475, l_2970, l_3121, l_9999, l_10000, l_11351, l_65536, l_100000, l_1000000, ↓l_m1, l_neg, nI_add, pk_mul, pk_sub, q_leT, q_leF, q_ltT, q_ltF, q_eqT, q_eqF, q_m1e, q_m1e2, q_m1lt, q_m1le, q_m1nl, q_m1nle, q_m1s, q_ix, q_jat, q_jput, q_min1, q_min2, q_max1, q_max2, q_or0, q_0or, Option.bind_some, if_true, if_false, true_and, and_true, false_and, and_false, not_true_eq_false, not_false_eq_true, eq_self, Bool.false_eq_true, q_z0, q_z1, q_bitF hb hs]
    | true =>
      cases hq : fmin s.testBit (due C) i with
      | none =>
        rw [fmin_new hb hq]
        simp (disch := omega) only [l_0, l_1, l_2, l_3, l_4, l_5, l_6, l_7, l_8, l_9, l_10, l_11, l_12, l_13, l_14, l_15, l_16, l_17, l_18, l_19, l_20, l_21, l_22, l_23, l_24, l_25, l_26, l_27, l_30, l_31, l_32, l_40, l_48, l_57, l_59, l_60, l_61, l_62, l_64, l_83, l_90, l_97, l_99, l_100, l_108, l_115, l_122, l_123, l_127, l_128, l_131, l_135, l_200, l_255, l_256, l_300, l_487, l_495, l_900, l_999, l_1000, l_1700, l_1792, l_1980, l_2048, l_2475, l_2970, l_3121, l_9999, l_10000, l_11351, l_65536, l_100000, l_1000000, ↓l_m1, l_neg, nI_add, pk_mul, pk_sub, q_leT, q_leF, q_ltT, q_ltF, q_eqT, q_eqF, q_m1e, q_m1e2, q_m1lt, q_m1le, q_m1nl, q_m1nle, q_m1s, q_ix, q_jat, q_jput, q_min1, q_min2, q_max1, q_max2, q_or0, q_0or, Option.bind_some, if_true, if_false, true_and, and_true, false_and, and_false, not_true_eq_false, not_false_eq_true, eq_self, Bool.false_eq_true, q_z0, q_z1, q_bitT hb hs, oI_n, oI_s]
      | some j =>
        have hj := (fmin_in hq).1
        have e2 := oH j (by omega)
        by_cases h3 : due C i < due C j
        · rw [fmin_lt hb hq h3]
          unfold due at h3
          simp (disch := omega) only [l_0, l_1, l_2, l_3, l_4, l_5, l_6, l_7, l_8, l_9, l_10, l_11, l_12, l_13, l_14, l_15, l_16, l_17, l_18, l_19, l_20, l_21, l_22, l_23, l_24, l_25, l_26, l_27, l_30, l_31, l_32, l_40, l_48, l_57, l_59, l_60, l_61, l_62, l_64, l_83, l_90, l_97, l_99, l_100, l_108, l_115, l_122, l_123, l_127, l_128, l_131, l_135, l_200, l_255, l_256, l_300, l_487, l_495, l_900, l_999, l_1000, l_1700, l_1792, l_1980, l_2048, l_2475, l_2970, l_3121, l_9999, l_10000, l_11351, l_65536, l_100000, l_1000000, ↓l_m1, l_neg, nI_add, pk_mul, pk_sub, q_leT, q_leF, q_ltT, q_ltF, q_eqT, q_eqF, q_m1e, q_m1e2, q_m1lt, q_m1le, q_m1nl, q_m1nle, q_m1s, q_ix, q_jat, q_jput, q_min1, q_min2, q_max1, q_max2, q_or0, q_0or, Option.bind_some, if_true, if_false, true_and, and_true, false_and, and_false, not_true_eq_false, not_false_eq_true, eq_self, Bool.false_eq_true, q_z0, q_z1, q_get, q_set, q_raise, q_bitT hb hs, oI_s, hH i, hH j]
        · rw [fmin_ge hb hq (by omega)]
          unfold due at h3
          simp (disch := omega) only [l_0, l_1, l_2, l_3, l_4, l_5, l_6, l_7, l_8, l_9, l_10, l_11, l_12, l_13, l_14, l_15, l_16, l_17, l_18, l_19, l_20, l_21, l_22, l_23, l_24, l_25, l_26, l_27, l_30, l_31, l_32, l_40, l_48, l_57, l_59, l_60, l_61, l_62, l_64, l_83, l_90, l_97, l_99, l_100, l_108, l_115, l_122, l_123, l_127, l_128, l_131, l_135, l_200, l_255, l_256, l_300, l_487, l_495, l_900, l_999, l_1000, l_1700, l_1792, l_1980, l_2048, l_2475, l_2970, l_3121, l_9999, l_10000, l_11351, l_65536, l_100000, l_1000000, ↓l_m1, l_neg, nI_add, pk_mul, pk_sub, q_leT, q_leF, q_ltT, q_ltF, q_eqT, q_eqF, q_m1e, q_m1e2, q_m1lt, q_m1le, q_m1nl, q_m1nle, q_m1s, q_ix, q_jat, q_jput, q_min1, q_min2, q_max1, q_max2, q_or0, q_0or, Option.bind_some, if_true, if_false, true_and, and_true, false_and, and_false, not_true_eq_false, not_false_eq_true, eq_self, Bool.false_eq_true, q_z0, q_z1, q_get, q_set, q_raise, q_bitT hb hs, oI_s, hH i, hH j]
  · unfold X0_soonest_b4
    simp (disch := omega) only [l_0, l_1, l_2, l_3, l_4, l_5, l_6, l_7, l_8, l_9, l_10, l_11, l_12, l_13, l_14, l_15, l_16, l_17, l_18, l_19, l_20, l_21, l_22, l_23, l_24, l_25, l_26, l_27, l_30, l_31, l_32, l_40, l_48, l_57, l_59, l_60, l_61, l_62, l_64, l_83, l_90, l_97, l_99, l_100, l_108, l_115, l_122, l_123, l_127, l_128, l_131, l_135, l_200, l_255, l_256, l_300, l_487, l_495, l_900, l_999, l_1000, l_1700, l_1792, l_1980, l_2048, l_2475, l_2970, l_3121, l_9999, l_10000, l_11351, l_65536, l_100000, l_1000000, ↓l_m1, l_neg, nI_add, pk_mul, pk_sub, q_leT, q_leF, q_ltT, q_ltF, q_eqT, q_eqF, q_m1e, q_m1e2, q_m1lt, q_m1le, q_m1nl, q_m1nle, q_m1s, q_ix, q_jat, q_jput, q_min1, q_min2, q_max1, q_max2, q_or0, q_0or, Option.bind_some, if_true, if_false, true_and, and_true, false_and, and_false, not_true_eq_false, not_false_eq_true, eq_self, Bool.false_eq_true, q_z0, q_z1]
def bf (C : Cy) (s h : Nat) : Bool := s.testBit h && fate C 0 h
theorem bf_0 {C : Cy} {s h : Nat} (q : s.testBit h = false) : bf C s h = false := by unfold bf; rw [q, Bool.false_and]
theorem bf_1 {C : Cy} {s h : Nat} (q : ¬ C 3 h 3 = 0) : bf C s h = false := by unfold bf fate; rw [decide_eq_false q, Bool.and_false]
theorem bf_2 {C : Cy} {s h : Nat} (q : s.testBit h = true) (q2 : C 3 h 3 = 0) : bf C s h = true := by unfold bf fate; rw [decide_eq_true q2, q]; rfl
theorem m_soon_no {F : Nat} {C : Cy} {g : Nat → Int32} {s i : Nat} (ok : Ok C) (hM : MS C g) (hs : s < 2 ^ 31) (hi : i < C 0 0 3) (v : Int32) (h : bf C s i = false) : X12_soonestOf_b4 F g (nI s) (v, nI i) = some (.inl (v, nI (i + 1))) := by
  obtain ⟨o0, oR, oE, oH, oW⟩ := ok
  have e1 := oH i hi
  unfold X12_soonestOf_b4 X12_soonestOf_j51 X12_soonestOf_j53
  cases hb : s.testBit i with
  | false => simp (disch := omega) only [l_0, l_1, l_2, l_3, l_4, l_5, l_6, l_7, l_8, l_9, l_10, l_11, l_12, l_13, l_14, l_15, l_16, l_17, l_18, l_19, l_20, l_21, l_22, l_23, l_24, l_25, l_26, l_27, l_30, l_31, l_32, l_40, l_48, l_57, l_59, l_60, l_61, l_62, l_64, l_83, l_90, l_97, l_99, l_100, l_108, l_115, l_122, l_123, l_127, l_128, l_131, l_135, l_200, l_255, l_256, l_300, l_487, l_495, l_900, l_999, l_1000, l_1700, l_1792, l_1980, l_2048, l_2475, l_2970, l_3121, l_9999, l_10000, l_11351, l_65536, l_100000, l_1000000, ↓l_m1, l_neg, nI_add, pk_mul, pk_sub, q_leT, q_leF, q_ltT, q_ltF, q_eqT, q_eqF, q_m1e, q_m1e2, q_m1lt, q_m1le, q_m1nl, q_m1nle, q_m1s, q_ix, q_jat, q_jput, q_min1, q_min2, q_max1, q_max2, q_or0, q_0or, Option.bind_some, if_true, if_false, true_and, and_true, false_and, and_false, not_true_eq_false, not_false_eq_true, eq_self, Bool.false_eq_true, q_z0, q_z1, m_0 hM, m_E hM, m_Es hM, m_Er hM, m_H hM, m_W hM, m_R0 hM, m_R1 hM, m_R2 hM, q_isInF hb hs]
  | true =>
    by_cases hz : C 3 i 3 = 0
    · rw [bf_2 hb hz] at h; cases h
    · simp (disch := omega) only [l_0, l_1, l_2, l_3, l_4, l_5, l_6, l_7, l_8, l_9, l_10, l_11, l_12, l_13, l_14, l_15, l_16, l_17, l_18, l_19, l_20, l_21, l_22, l_23, l_24, l_25, l_26, l_27, l_30, l_31, l_32, l_40, l_48, l_57, l_59, l_60, l_61, l_62, l_64, l_83, l_90, l_97, l_99, l_100, l_108, l_115, l_122, l_123, l_127, l_128, l_131, l_135, l_200, l_255, l_256, l_300, l_487, l_495, l_900, l_999, l_1000, l_1700, l_1792, l_1980, l_2048, l_2475, l_2970, l_3121, l_9999, l_10000, l_11351, l_65536, l_100000, l_1000000, ↓l_m1, l_neg, nI_add, pk_mul, pk_sub, q_leT, q_leF, q_ltT, q_ltF, q_eqT, q_eqF, q_m1e, q_m1e2, q_m1lt, q_m1le, q_m1nl, q_m1nle, q_m1s, q_ix, q_jat, q_jput, q_min1, q_min2, q_max1, q_max2, q_or0, q_0or, Option.bind_some, if_true, if_false, true_and, and_true, false_and, and_false, not_true_eq_false, not_false_eq_true, eq_self, Bool.false_eq_true, q_z0, q_z1, m_0 hM, m_E hM, m_Es hM, m_Er hM, m_H hM, m_W hM, m_R0 hM, m_R1 hM, m_R2 hM, q_isInT hb hs, m_tcF hM]
theorem m_soon_new {F : Nat} {C : Cy} {g : Nat → Int32} {s i : Nat} {v : Int32} (ok : Ok C) (hM : MS C g) (hs : s < 2 ^ 31) (hi : i < C 0 0 3) (hb : s.testBit i = true) (hz : C 3 i 3 = 0) (hv : v = -1) : X12_soonestOf_b4 F g (nI s) (v, nI i) = some (.inl (nI i, nI (i + 1))) := by
  obtain ⟨o0, oR, oE, oH, oW⟩ := ok
  have e1 := oH i hi
  unfold X12_soonestOf_b4 X12_soonestOf_j51 X12_soonestOf_j53
  simp only [if_pos hv]
  clear hv
  simp (disch := omega) only [l_0, l_1, l_2, l_3, l_4, l_5, l_6, l_7, l_8, l_9, l_10, l_11, l_12, l_13, l_14, l_15, l_16, l_17, l_18, l_19, l_20, l_21, l_22, l_23, l_24, l_25, l_26, l_27, l_30, l_31, l_32, l_40, l_48, l_57, l_59, l_60, l_61, l_62, l_64, l_83, l_90, l_97, l_99, l_100, l_108, l_115, l_122, l_123, l_127, l_128, l_131, l_135, l_200, l_255, l_256, l_300, l_487, l_495, l_900, l_999, l_1000, l_1700, l_1792, l_1980, l_2048, l_2475, l_2970, l_3121, l_9999, l_10000, l_11351, l_65536, l_100000, l_1000000, ↓l_m1, l_neg, nI_add, pk_mul, pk_sub, q_leT, q_leF, q_ltT, q_ltF, q_eqT, q_eqF, q_m1e, q_m1e2, q_m1lt, q_m1le, q_m1nl, q_m1nle, q_m1s, q_ix, q_jat, q_jput, q_min1, q_min2, q_max1, q_max2, q_or0, q_0or, Option.bind_some, if_true, if_false, true_and, and_true, false_and, and_false, not_true_eq_false, not_false_eq_true, eq_self, Bool.false_eq_true, q_z0, q_z1, m_0 hM, m_E hM, m_Es hM, m_Er hM, m_H hM, m_W hM, m_R0 hM, m_R1 hM, m_R2 hM, q_isInT hb hs, m_tcT hM]
theorem m_soon_old {F : Nat} {C : Cy} {g : Nat → Int32} {s i j : Nat} (ok : Ok C) (hM : MS C g) (hs : s < 2 ^ 31) (hi : i < C 0 0 3) (hj : j < i) (hb : s.testBit i = true) (hz : C 3 i 3 = 0) : X12_soonestOf_b4 F g (nI s) (nI j, nI i) = some (.inl (if C 3 i 1 < C 3 j 1 then nI i else nI j, nI (i + 1))) := by
  obtain ⟨o0, oR, oE, oH, oW⟩ := ok
  have e1 := oH i hi
  have e2 := oH j (by omega)
  unfold X12_soonestOf_b4 X12_soonestOf_j51 X12_soonestOf_j53
  by_cases h3 : C 3 i 1 < C 3 j 1
  · rw [if_pos h3]
    simp (disch := omega) only [l_0, l_1, l_2, l_3, l_4, l_5, l_6, l_7, l_8, l_9, l_10, l_11, l_12, l_13, l_14, l_15, l_16, l_17, l_18, l_19, l_20, l_21, l_22, l_23, l_24, l_25, l_26, l_27, l_30, l_31, l_32, l_40, l_48, l_57, l_59, l_60, l_61, l_62, l_64, l_83, l_90, l_97, l_99, l_100, l_108, l_115, l_122, l_123, l_127, l_128, l_131, l_135, l_200, l_255, l_256, l_300, l_487, l_495, l_900, l_999, l_1000, l_1700, l_1792, l_1980, l_2048, l_2475, l_2970, l_3121, l_9999, l_10000, l_11351, l_65536, l_100000, l_1000000, ↓l_m1, l_neg, nI_add, pk_mul, pk_sub, q_leT, q_leF, q_ltT, q_ltF, q_eqT, q_eqF, q_m1e, q_m1e2, q_m1lt, q_m1le, q_m1nl, q_m1nle, q_m1s, q_ix, q_jat, q_jput, q_min1, q_min2, q_max1, q_max2, q_or0, q_0or, Option.bind_some, if_true, if_false, true_and, and_true, false_and, and_false, not_true_eq_false, not_false_eq_true, eq_self, Bool.false_eq_true, q_z0, q_z1, m_0 hM, m_E hM, m_Es hM, m_Er hM, m_H hM, m_W hM, m_R0 hM, m_R1 hM, m_R2 hM, q_isInT hb hs, m_tcT hM]
  · rw [if_neg h3]
    simp (disch := omega) only [l_0, l_1, l_2, l_3, l_4, l_5, l_6, l_7, l_8, l_9, l_10, l_11, l_12, l_13, l_14, l_15, l_16, l_17, l_18, l_19, l_20, l_21, l_22, l_23, l_24, l_25, l_26, l_27, l_30, l_31, l_32, l_40, l_48, l_57, l_59, l_60, l_61, l_62, l_64, l_83, l_90, l_97, l_99, l_100, l_108, l_115, l_122, l_123, l_127, l_128, l_131, l_135, l_200, l_255, l_256, l_300, l_487, l_495, l_900, l_999, l_1000, l_1700, l_1792, l_1980, l_2048, l_2475, l_2970, l_3121, l_9999, l_10000, l_11351, l_65536, l_100000, l_1000000, ↓l_m1, l_neg, nI_add, pk_mul, pk_sub, q_leT, q_leF, q_ltT, q_ltF, q_eqT, q_eqF, q_m1e, q_m1e2, q_m1lt, q_m1le, q_m1nl, q_m1nle, q_m1s, q_ix, q_jat, q_jput, q_min1, q_min2, q_max1, q_max2, q_or0, q_0or, Option.bind_some, if_true, if_false, true_and, and_true, false_and, and_false, not_true_eq_false, not_false_eq_true, eq_self, Bool.false_eq_true, q_z0, q_z1, m_0 hM, m_E hM, m_Es hM, m_Er hM, m_H hM, m_W hM, m_R0 hM, m_R1 hM, m_R2 hM, q_isInT hb hs, m_tcT hM]
theorem m_soonest {F : Nat} {C : Cy} {g : Nat → Int32} {s : Nat} (ok : Ok C) (hM : MS C g) (hs : s < 2 ^ 31) (hF : 100 < F) : X12_soonestOf F g (nI s) = some (oI (fmin (bf C s) (due C) (C 0 0 3))) := by
  have n8 := ok.1
  have key : iter (X12_soonestOf_b4 F g (nI s)) F (oI (fmin (bf C s) (due C) 0), nI 0) = some (oI (fmin (bf C s) (due C) (C 0 0 3))) := by
    refine iter_count (b := X12_soonestOf_b4 F g (nI s)) (fun i => (oI (fmin (bf C s) (due C) i), nI i)) (C 0 0 3) (fun i hi => ?_) ?_ F (by omega)
    · cases hb : bf C s i with
      | false => rw [fmin_no hb, m_soon_no ok hM hs hi _ hb]
      | true =>
        have hb1 : s.testBit i = true := by
          cases q : s.testBit i with
          | true => rfl
          | false => rw [bf_0 q] at hb; cases hb
        have hz : C 3 i 3 = 0 := by
          by_cases q : C 3 i 3 = 0
          · exact q
          · rw [bf_1 q] at hb; cases hb
        cases hq : fmin (bf C s) (due C) i with
        | none => rw [fmin_new hb hq, m_soon_new ok hM hs hi hb1 hz (show oI none = -1 from rfl), oI_s]
        | some j =>
          have hj := (fmin_in hq).1
          rw [oI_s, m_soon_old ok hM hs hi hj hb1 hz]
          by_cases h3 : C 3 i 1 < C 3 j 1
          · rw [if_pos h3, fmin_lt hb hq h3, oI_s]
          · rw [if_neg h3, fmin_ge hb hq (show C 3 j 1 ≤ C 3 i 1 by omega), oI_s]
    · unfold X12_soonestOf_b4
      simp (disch := omega) only [l_0, l_1, l_2, l_3, l_4, l_5, l_6, l_7, l_8, l_9, l_10, l_11, l_12, l_13, l_14, l_15, l_16, l_17, l_18, l_19, l_20, l_21, l_22, l_23, l_24, l_25, l_26, l_27, l_30, l_31, l_32, l_40, l_48, l_57, l_59, l_60, l_61, l_62, l_64, l_83, l_90, l_97, l_99, l_100, l_108, l_115, l_122, l_123, l_127, l_128, l_131, l_135, l_200, l_255, l_256, l_300, l_487, l_495, l_900, l_999, l_1000, l_1700, l_1792, l_1980, l_2048, l_2475, l_2970, l_3121, l_9999, l_10000, l_11351, l_65536, l_100000, l_1000000, ↓l_m1, l_neg, nI_add, pk_mul, pk_sub, q_leT, q_leF, q_ltT, q_ltF, q_eqT, q_eqF, q_m1e, q_m1e2, q_m1lt, q_m1le, q_m1nl, q_m1nle, q_m1s, q_ix, q_jat, q_jput, q_min1, q_min2, q_max1, q_max2, q_or0, q_0or, Option.bind_some, if_true, if_false, true_and, and_true, false_and, and_false, not_true_eq_false, not_false_eq_true, eq_self, Bool.false_eq_true, q_z0, q_z1, m_0 hM, m_E hM, m_Es hM, m_Er hM, m_H hM, m_W hM, m_R0 hM, m_R1 hM, m_R2 hM]
  unfold X12_soonestOf
  rw [show ((-1 : Int32), (0 : Int32)) = (oI (fmin (bf C s) (due C) 0), nI 0) from rfl, key]; rfl
def goalS (C : Cy) (x : Nat) : Option Nat := fmin (bf C (C 2 x 2)) (due C) (C 0 0 3)
theorem and_setOf (s : Nat) (p d) (n : Nat) : fmin (s &&& setOf p n).testBit d n = fmin (fun h => s.testBit h && p h) d n :=
  fmin_cong (fun k hk => by rw [Nat.testBit_and, setOf_bit, decide_eq_true hk, Bool.true_and]) (fun _ _ => rfl)
theorem and_lt31 {a b : Nat} (h : a < 2 ^ 31) : a &&& b < 2 ^ 31 := Nat.lt_of_le_of_lt Nat.and_le_left h
theorem setOf31 {p : Nat → Bool} {n : Nat} (h : n ≤ 30) : setOf p n < 2 ^ 31 := Nat.lt_of_lt_of_le (setOf_lt p n) (Nat.pow_le_pow_right (by omega) (by omega))
theorem c_goal {F : Nat} {C : Cy} {xf hf : Nat → Int32} {x : Nat} (ok : Ok C) (hX : CX C xf) (hH : CH C hf) (hx : x < C 0 0 2) (hF : 100 < F) : X0_goalOf F (nI (C 0 0 2)) xf (nI (C 0 0 3)) hf (nI x) = some (oI (goalS C x)) := by
  have ok' := ok
  obtain ⟨o0, oR, oE, oH, oW⟩ := ok
  have e1 := oE x hx
  unfold X0_goalOf
  simp (disch := omega) only [l_0, l_1, l_2, l_3, l_4, l_5, l_6, l_7, l_8, l_9, l_10, l_11, l_12, l_13, l_14, l_15, l_16, l_17, l_18, l_19, l_20, l_21, l_22, l_23, l_24, l_25, l_26, l_27, l_30, l_31, l_32, l_40, l_48, l_57, l_59, l_60, l_61, l_62, l_64, l_83, l_90, l_97, l_99, l_100, l_108, l_115, l_122, l_123, l_127, l_128, l_131, l_135, l_200, l_255, l_256, l_300, l_487, l_495, l_900, l_999, l_1000, l_1700, l_1792, l_1980, l_2048, l_2475, l_2970, l_3121, l_9999, l_10000, l_11351, l_65536, l_100000, l_1000000, ↓l_m1, l_neg, nI_add, pk_mul, pk_sub, q_leT, q_leF, q_ltT, q_ltF, q_eqT, q_eqF, q_m1e, q_m1e2, q_m1lt, q_m1le, q_m1nl, q_m1nle, q_m1s, q_ix, q_jat, q_jput, q_min1, q_min2, q_max1, q_max2, q_or0, q_0or, Option.bind_some, if_true, if_false, true_and, and_true, false_and, and_false, not_true_eq_false, not_false_eq_true, eq_self, Bool.false_eq_true, q_z0, q_z1, q_get, q_set, q_raise, hX x, c_withFate ok' hH, fa_and]
  rw [c_soonest ok' hH (and_lt31 (by omega)) hF, and_setOf]; rfl
theorem m_goal {F : Nat} {C : Cy} {g : Nat → Int32} {x : Nat} (ok : Ok C) (hM : MS C g) (hx : x < C 0 0 2) (hF : 100 < F) : X12_goalOf F g (nI x) = some (oI (goalS C x)) := by
  have ok' := ok
  obtain ⟨o0, oR, oE, oH, oW⟩ := ok
  have e1 := oE x hx
  unfold X12_goalOf
  simp (disch := omega) only [l_0, l_1, l_2, l_3, l_4, l_5, l_6, l_7, l_8, l_9, l_10, l_11, l_12, l_13, l_14, l_15, l_16, l_17, l_18, l_19, l_20, l_21, l_22, l_23, l_24, l_25, l_26, l_27, l_30, l_31, l_32, l_40, l_48, l_57, l_59, l_60, l_61, l_62, l_64, l_83, l_90, l_97, l_99, l_100, l_108, l_115, l_122, l_123, l_127, l_128, l_131, l_135, l_200, l_255, l_256, l_300, l_487, l_495, l_900, l_999, l_1000, l_1700, l_1792, l_1980, l_2048, l_2475, l_2970, l_3121, l_9999, l_10000, l_11351, l_65536, l_100000, l_1000000, ↓l_m1, l_neg, nI_add, pk_mul, pk_sub, q_leT, q_leF, q_ltT, q_ltF, q_eqT, q_eqF, q_m1e, q_m1e2, q_m1lt, q_m1le, q_m1nl, q_m1nle, q_m1s, q_ix, q_jat, q_jput, q_min1, q_min2, q_max1, q_max2, q_or0, q_0or, Option.bind_some, if_true, if_false, true_and, and_true, false_and, and_false, not_true_eq_false, not_false_eq_true, eq_self, Bool.false_eq_true, q_z0, q_z1, m_0 hM, m_E hM, m_Es hM, m_Er hM, m_H hM, m_W hM, m_R0 hM, m_R1 hM, m_R2 hM, m_soonest ok' hM]; rfl
