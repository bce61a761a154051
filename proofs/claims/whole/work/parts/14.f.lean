/-! ===== PURE 14.f: overIn, becomes ===== -/
theorem bef1_row {C : Cy} {h k c : Nat} (hk : k ≠ h) : bef1 C h 3 k c = C 3 k c := by
  cases q : befc C h with
  | false => rw [bef1_no q]
  | true =>
    by_cases q3 : C 3 h 2 ≤ cntS C (C 3 h 0)
    · rw [bef1_hap q q3, payN_t _ (by omega), setF_r C hk]
    · rw [bef1_fail q q3, setF_r C hk]
theorem befN_lo {C : Cy} {k c : Nat} : ∀ n, n ≤ k → befN C n 3 k c = C 3 k c
  | 0, _ => rfl
  | n + 1, h => by rw [befN, bef1_row (by omega), befN_lo n (by omega)]
theorem befN_hi {C : Cy} {k c : Nat} : ∀ n, k < n → befN C n 3 k c = bef1 (befN C k) k 3 k c
  | 0, h => by omega
  | n + 1, h => by
    by_cases e : k = n
    · rw [e, befN]
    · rw [befN, bef1_row e, befN_hi n (by omega)]
/-- a happening's fate in one hour -/
theorem hour1_row (C : Cy) {k c : Nat} (hk : k < C 0 0 3) (hc : 3 ≤ c) : ∃ D : Cy, hour1 C 3 k c = bef1 D k 3 k c ∧ D 3 k 3 = C 3 k 3 ∧ D 3 k 4 = C 3 k 4 ∧ D 0 0 8 = C 0 0 8 ∧ ∀ d, 3 ≤ d → hour1 C 3 k d = bef1 D k 3 k d := by
  have key : ∀ d, 3 ≤ d → hour1 C 3 k d = bef1 (befN (walkN C (C 0 0 2)) k) k 3 k d := by
    intro d hd
    unfold hour1 hourC hourB
    rw [setC_t _ (by omega), watN_t _ (by omega), befN_hi _ hk]
  exact ⟨befN (walkN C (C 0 0 2)) k, key c hc, by rw [befN_lo _ (Nat.le_refl _), walkN_t _ (by omega)], by rw [befN_lo _ (Nat.le_refl _), walkN_t _ (by omega)], by rw [befN_t _ (by omega), walkN_t _ (by omega)], key⟩
theorem hour1_done {C : Cy} {k : Nat} (hk : k < C 0 0 3) (h : C 3 k 3 ≠ 0) : hour1 C 3 k 3 = C 3 k 3 ∧ hour1 C 3 k 4 = C 3 k 4 := by
  obtain ⟨D, _, d3, d4, _, key⟩ := hour1_row C hk (Nat.le_refl 3)
  have q : befc D k = false := decide_eq_false (fun z => h (by rw [← d3]; exact z.1))
  rw [key 3 (by omega), key 4 (by omega), bef1_no q]; exact ⟨d3, d4⟩
theorem hour1_new {C : Cy} {k : Nat} (hk : k < C 0 0 3) (h : C 3 k 3 = 0) (h2 : hour1 C 3 k 3 ≠ 0) : hour1 C 3 k 4 = C 0 0 8 := by
  obtain ⟨D, _, d3, d4, d8, key⟩ := hour1_row C hk (Nat.le_refl 3)
  rw [key 3 (by omega)] at h2
  rw [key 4 (by omega)]
  cases q : befc D k with
  | false => rw [bef1_no q, d3] at h2; exact absurd h h2
  | true =>
    by_cases q3 : D 3 k 2 ≤ cntS D (D 3 k 0)
    · rw [bef1_hap q q3, payN_t _ (by omega), setF_4, d8]
    · rw [bef1_fail q q3, setF_4, d8]
theorem pass_done {C : Cy} {k m : Nat} (hk : k < C 0 0 3) (h : pass C m 3 k 3 ≠ 0) : ∀ n, pass C (m + n) 3 k 3 = pass C m 3 k 3 ∧ pass C (m + n) 3 k 4 = pass C m 3 k 4
  | 0 => ⟨rfl, rfl⟩
  | n + 1 => by
    obtain ⟨i1, i2⟩ := pass_done hk h n
    have d := hour1_done (C := pass C (m + n)) (k := k) (by rw [pass_0 C (by omega)]; exact hk) (by rw [i1]; exact h)
    rw [show m + (n + 1) = (m + n) + 1 by omega, pass, d.1, d.2]; exact ⟨i1, i2⟩
/-- the first hour behind which it is over -/
def FI (C : Cy) (k n : Nat) : Prop := 1 ≤ n ∧ pass C n 3 k 3 ≠ 0 ∧ pass C (n - 1) 3 k 3 = 0
theorem FI_ends {C : Cy} {k n : Nat} (hk : k < C 0 0 3) (h : FI C k n) : pass C n 3 k 4 + 1 = C 0 0 8 + n := by
  obtain ⟨h1, h2, h3⟩ := h
  obtain ⟨m, rfl⟩ : ∃ m, n = m + 1 := ⟨n - 1, by omega⟩
  rw [Nat.add_sub_cancel] at h3
  have := hour1_new (C := pass C m) (k := k) (by rw [pass_0 C (by omega)]; exact hk) h3 h2
  rw [pass, this, pass_8]; omega
theorem m_over_it {F k : Nat} {C : Cy} {g f : Nat → Int32} (b : Int32) (ok : Ok C) (hM : MS C g) (hf : FB C f) (hk : k < C 0 0 3) (h8 : C 0 0 8 ≤ 9999) (h0 : C 3 k 3 = 0) (hF : 2000 < F) :
    ∃ e, iter (X12_overOf_b27 F b f (nI k)) F (m1, nI 1, g) = some e ∧ ((∃ g2, e = (m1, g2) ∧ MS (pass C 300) g2 ∧ Fr g g2 ∧ pass C 300 3 k 3 = 0) ∨ (∃ n g2, n ≤ 300 ∧ FI C k n ∧ e = (nI n, g2) ∧ MS (pass C n) g2 ∧ Fr g g2)) := by
  refine it_rel (b := X12_overOf_b27 F b f (nI k)) 301 (fun i s => (∃ g2, s = (m1, nI (i + 1), g2) ∧ i ≤ 300 ∧ MS (pass C i) g2 ∧ Fr g g2 ∧ pass C i 3 k 3 = 0) ∨ (∃ g2, s = (nI i, nI (i + 1), g2) ∧ i ≤ 300 ∧ FI C k i ∧ MS (pass C i) g2 ∧ Fr g g2)) _ (fun i s hi hs => ?_) (fun s hs => ?_) (Or.inl ⟨g, rfl, by omega, hM, Fr_r g, h0⟩) (by omega)
  · rcases hs with ⟨g2, rfl, hi2, hM2, hF2, hz⟩ | ⟨g2, rfl, hi2, hfi, hM2, hF2⟩
    · by_cases e : i = 300
      · subst e
        refine Or.inr ⟨(m1, g2), ?_, Or.inl ⟨g2, rfl, hM2, hF2, hz⟩⟩
        unfold X12_overOf_b27
        simp (disch := omega) only [l_0, l_1, l_2, l_3, l_4, l_5, l_6, l_7, l_8, l_9, l_10, l_11, l_12, l_13, l_14, l_15, l_16, l_17, l_18, l_19, l_20, l_21, l_22, l_23, l_24, l_25, l_26, l_27, l_30, l_31, l_32, l_40, l_48, l_57, l_59, l_60, l_61, l_62, l_64, l_83, l_90, l_97, l_99, l_100, l_108, l_115, l_122, l_123, l_127, l_128, l_131, l_135, l_200, l_255, l_256, l_300, l_487, l_495, l_900, l_999, l_1000, l_1700, l_1792, l_1980, l_2048, l_2475, l_2970, l_3121, l_9999, l_10000, l_11351, l_65536, l_100000, l_1000000, ↓l_m1, l_neg, nI_add, pk_mul, pk_sub, q_leT, q_leF, q_ltT, q_ltF, q_eqT, q_eqF, q_m1e, q_m1e2, q_m1lt, q_m1le, q_m1nl, q_m1nle, q_m1s, q_ix, q_jat, q_jput, q_min1, q_min2, q_max1, q_max2, q_or0, q_0or, q_bs, if_true, if_false, true_and, and_true, false_and, and_false, not_true_eq_false, not_false_eq_true, eq_self, Bool.false_eq_true, q_z0, q_z1]
      · have okp := pass_ok ok i (by omega)
        obtain ⟨g3, a1, a2, a3⟩ := m_hour (F := F) okp hM2 (FB_s hf (pass_same C i)) (by omega)
        have okq : Ok (pass C (i + 1)) := pass_ok ok (i + 1) (by omega)
        have a2' : MS (pass C (i + 1)) g3 := a2
        have hk' : k < pass C (i + 1) 0 0 3 := by rw [pass_0 C (by omega)]; exact hk
        have e1 := okq.2.2.2.1 k hk'
        have o1 := okq.1
        refine Or.inl ?_
        by_cases q : pass C (i + 1) 3 k 3 = 0
        · refine ⟨(m1, nI (i + 1 + 1), g3), ?_, Or.inl ⟨g3, rfl, by omega, a2', Fr_t hF2 a3, q⟩⟩
          have t := m_tcT a2' hk' (by omega) q
          unfold X12_overOf_b27 X12_overOf_j57
          simp (disch := omega) only [l_0, l_1, l_2, l_3, l_4, l_5, l_6, l_7, l_8, l_9, l_10, l_11, l_12, l_13, l_14, l_15, l_16, l_17, l_18, l_19, l_20, l_21, l_22, l_23, l_24, l_25, l_26, l_27, l_30, l_31, l_32, l_40, l_48, l_57, l_59, l_60, l_61, l_62, l_64, l_83, l_90, l_97, l_99, l_100, l_108, l_115, l_122, l_123, l_127, l_128, l_131, l_135, l_200, l_255, l_256, l_300, l_487, l_495, l_900, l_999, l_1000, l_1700, l_1792, l_1980, l_2048, l_2475, l_2970, l_3121, l_9999, l_10000, l_11351, l_65536, l_100000, l_1000000, ↓l_m1, l_neg, nI_add, pk_mul, pk_sub, q_leT, q_leF, q_ltT, q_ltF, q_eqT, q_eqF, q_m1e, q_m1e2, q_m1lt, q_m1le, q_m1nl, q_m1nle, q_m1s, q_ix, q_jat, q_jput, q_min1, q_min2, q_max1, q_max2, q_or0, q_0or, q_bs, if_true, if_false, true_and, and_true, false_and, and_false, not_true_eq_false, not_false_eq_true, eq_self, Bool.false_eq_true, q_z0, q_z1, a1, t]
        · refine ⟨(nI (i + 1), nI (i + 1 + 1), g3), ?_, Or.inr ⟨g3, rfl, by omega, ⟨by omega, q, hz⟩, a2', Fr_t hF2 a3⟩⟩
          have t := m_tcF a2' hk' (by omega) q (by omega)
          unfold X12_overOf_b27 X12_overOf_j57
          simp (disch := omega) only [l_0, l_1, l_2, l_3, l_4, l_5, l_6, l_7, l_8, l_9, l_10, l_11, l_12, l_13, l_14, l_15, l_16, l_17, l_18, l_19, l_20, l_21, l_22, l_23, l_24, l_25, l_26, l_27, l_30, l_31, l_32, l_40, l_48, l_57, l_59, l_60, l_61, l_62, l_64, l_83, l_90, l_97, l_99, l_100, l_108, l_115, l_122, l_123, l_127, l_128, l_131, l_135, l_200, l_255, l_256, l_300, l_487, l_495, l_900, l_999, l_1000, l_1700, l_1792, l_1980, l_2048, l_2475, l_2970, l_3121, l_9999, l_10000, l_11351, l_65536, l_100000, l_1000000, ↓l_m1, l_neg, nI_add, pk_mul, pk_sub, q_leT, q_leF, q_ltT, q_ltF, q_eqT, q_eqF, q_m1e, q_m1e2, q_m1lt, q_m1le, q_m1nl, q_m1nle, q_m1s, q_ix, q_jat, q_jput, q_min1, q_min2, q_max1, q_max2, q_or0, q_0or, q_bs, if_true, if_false, true_and, and_true, false_and, and_false, not_true_eq_false, not_false_eq_true, eq_self, Bool.false_eq_true, q_z0, q_z1, a1, t]
    · refine Or.inr ⟨(nI i, g2), ?_, Or.inr ⟨i, g2, hi2, hfi, rfl, hM2, hF2⟩⟩
      unfold X12_overOf_b27
      by_cases e : i = 300
      · simp (disch := omega) only [l_0, l_1, l_2, l_3, l_4, l_5, l_6, l_7, l_8, l_9, l_10, l_11, l_12, l_13, l_14, l_15, l_16, l_17, l_18, l_19, l_20, l_21, l_22, l_23, l_24, l_25, l_26, l_27, l_30, l_31, l_32, l_40, l_48, l_57, l_59, l_60, l_61, l_62, l_64, l_83, l_90, l_97, l_99, l_100, l_108, l_115, l_122, l_123, l_127, l_128, l_131, l_135, l_200, l_255, l_256, l_300, l_487, l_495, l_900, l_999, l_1000, l_1700, l_1792, l_1980, l_2048, l_2475, l_2970, l_3121, l_9999, l_10000, l_11351, l_65536, l_100000, l_1000000, ↓l_m1, l_neg, nI_add, pk_mul, pk_sub, q_leT, q_leF, q_ltT, q_ltF, q_eqT, q_eqF, q_m1e, q_m1e2, q_m1lt, q_m1le, q_m1nl, q_m1nle, q_m1s, q_ix, q_jat, q_jput, q_min1, q_min2, q_max1, q_max2, q_or0, q_0or, q_bs, if_true, if_false, true_and, and_true, false_and, and_false, not_true_eq_false, not_false_eq_true, eq_self, Bool.false_eq_true, q_z0, q_z1]
      · simp (disch := omega) only [l_0, l_1, l_2, l_3, l_4, l_5, l_6, l_7, l_8, l_9, l_10, l_11, l_12, l_13, l_14, l_15, l_16, l_17, l_18, l_19, l_20, l_21, l_22, l_23, l_24, l_25, l_26, l_27, l_30, l_31, l_32, l_40, l_48, l_57, l_59, l_60, l_61, l_62, l_64, l_83, l_90, l_97, l_99, l_100, l_108, l_115, l_122, l_123, l_127, l_128, l_131, l_135, l_200, l_255, l_256, l_300, l_487, l_495, l_900, l_999, l_1000, l_1700, l_1792, l_1980, l_2048, l_2475, l_2970, l_3121, l_9999, l_10000, l_11351, l_65536, l_100000, l_1000000, ↓l_m1, l_neg, nI_add, pk_mul, pk_sub, q_leT, q_leF, q_ltT, q_ltF, q_eqT, q_eqF, q_m1e, q_m1e2, q_m1lt, q_m1le, q_m1nl, q_m1nle, q_m1s, q_ix, q_jat, q_jput, q_min1, q_min2, q_max1, q_max2, q_or0, q_0or, q_bs, if_true, if_false, true_and, and_true, false_and, and_false, not_true_eq_false, not_false_eq_true, eq_self, Bool.false_eq_true, q_z0, q_z1]
  · rcases hs with ⟨g2, _, hi2, _⟩ | ⟨g2, _, hi2, _⟩
    · omega
    · omega
/-- overOf: none, or the first hour and what it became -/
theorem m_overOf {F k : Nat} {C : Cy} {g f : Nat → Int32} (b : Int32) (ok : Ok C) (hM : MS C g) (hk : k < C 0 0 3) (h8 : C 0 0 8 ≤ 9999) (hF : 2000 < F) :
    ∃ g3 f2, (∀ j, j < 2970 → g3 j = g j) ∧ ((C 3 k 3 ≠ 0 ∧ X12_overOf F b g f (nI k) = some (nI 0, nI (C 3 k 3), g3, f2)) ∨ (C 3 k 3 = 0 ∧ pass C 300 3 k 3 = 0 ∧ ∃ v, X12_overOf F b g f (nI k) = some (m1, v, g3, f2)) ∨ (C 3 k 3 = 0 ∧ ∃ n, n ≤ 300 ∧ FI C k n ∧ X12_overOf F b g f (nI k) = some (nI n, nI (pass C n 3 k 3), g3, f2))) := by
  have o0 := ok.1
  have e1 := ok.2.2.2.1 k hk
  have hM1 := MS_kept (b := 2970) ok (by omega) hM
  obtain ⟨f2, l1, l2⟩ := m_laysFar (F := F) (f := f) ok hM1 (by omega)
  by_cases h0 : C 3 k 3 = 0
  · obtain ⟨e, i1, i2⟩ := m_over_it (F := F) b ok hM1 l2 hk h8 h0 hF
    have i1' : iter (X12_overOf_b27 F b f2 (nI k)) F (m1, nI 1, putN g g 2970 127) = some e := i1
    have t := m_tcT hM1 hk (by omega) h0
    rcases i2 with ⟨g2, rfl, hM2, hF2, hz⟩ | ⟨n, g2, hn, hfi, rfl, hM2, hF2⟩
    · refine ⟨_, f2, kept (b := 2970) (by omega) hF2 (fun _ _ _ => trivial), Or.inr (Or.inl ⟨h0, hz, nI (pass C 300 3 k 3), ?_⟩)⟩
      have hh := m_H (x := k) (c := 3) hM2 (by rw [pass_0 C (by omega)]; exact hk) (by rw [pass_0 C (by omega)]; omega) (by omega)
      unfold X12_overOf X12_overOf_j24 X12_overOf_j64
      simp (disch := omega) only [l_0, l_1, l_2, l_3, l_4, l_5, l_6, l_7, l_8, l_9, l_10, l_11, l_12, l_13, l_14, l_15, l_16, l_17, l_18, l_19, l_20, l_21, l_22, l_23, l_24, l_25, l_26, l_27, l_30, l_31, l_32, l_40, l_48, l_57, l_59, l_60, l_61, l_62, l_64, l_83, l_90, l_97, l_99, l_100, l_108, l_115, l_122, l_123, l_127, l_128, l_131, l_135, l_200, l_255, l_256, l_300, l_487, l_495, l_900, l_999, l_1000, l_1700, l_1792, l_1980, l_2048, l_2475, l_2970, l_3121, l_9999, l_10000, l_11351, l_65536, l_100000, l_1000000, ↓l_m1, l_neg, nI_add, pk_mul, pk_sub, q_leT, q_leF, q_ltT, q_ltF, q_eqT, q_eqF, q_m1e, q_m1e2, q_m1lt, q_m1le, q_m1nl, q_m1nle, q_m1s, q_ix, q_jat, q_jput, q_min1, q_min2, q_max1, q_max2, q_or0, q_0or, q_bs, if_true, if_false, true_and, and_true, false_and, and_false, not_true_eq_false, not_false_eq_true, eq_self, Bool.false_eq_true, q_z0, q_z1, keeps_e, l1, t, i1', hh, restores_e]
    · refine ⟨_, f2, kept (b := 2970) (by omega) hF2 (fun _ _ _ => trivial), Or.inr (Or.inr ⟨h0, n, hn, hfi, ?_⟩)⟩
      have hh := m_H (x := k) (c := 3) hM2 (by rw [pass_0 C (by omega)]; exact hk) (by rw [pass_0 C (by omega)]; omega) (by omega)
      unfold X12_overOf X12_overOf_j24 X12_overOf_j64
      simp (disch := omega) only [l_0, l_1, l_2, l_3, l_4, l_5, l_6, l_7, l_8, l_9, l_10, l_11, l_12, l_13, l_14, l_15, l_16, l_17, l_18, l_19, l_20, l_21, l_22, l_23, l_24, l_25, l_26, l_27, l_30, l_31, l_32, l_40, l_48, l_57, l_59, l_60, l_61, l_62, l_64, l_83, l_90, l_97, l_99, l_100, l_108, l_115, l_122, l_123, l_127, l_128, l_131, l_135, l_200, l_255, l_256, l_300, l_487, l_495, l_900, l_999, l_1000, l_1700, l_1792, l_1980, l_2048, l_2475, l_2970, l_3121, l_9999, l_10000, l_11351, l_65536, l_100000, l_1000000, ↓l_m1, l_neg, nI_add, pk_mul, pk_sub, q_leT, q_leF, q_ltT, q_ltF, q_eqT, q_eqF, q_m1e, q_m1e2, q_m1lt, q_m1le, q_m1nl, q_m1nle, q_m1s, q_ix, q_jat, q_jput, q_min1, q_min2, q_max1, q_max2, q_or0, q_0or, q_bs, if_true, if_false, true_and, and_true, false_and, and_false, not_true_eq_false, not_false_eq_true, eq_self, Bool.false_eq_true, q_z0, q_z1, keeps_e, l1, t, i1', hh, restores_e]
  · have t := m_tcF hM1 hk (by omega) h0 (by omega)
    have i1 : iter (X12_overOf_b27 F b f2 (nI k)) F (nI 0, nI 1, putN g g 2970 127) = some (nI 0, putN g g 2970 127) := by
      obtain ⟨G, rfl⟩ : ∃ G, F = G + 1 := ⟨F - 1, by omega⟩
      rw [iter]
      have : X12_overOf_b27 (G + 1) b f2 (nI k) (nI 0, nI 1, putN g g 2970 127) = some (.inr (nI 0, putN g g 2970 127)) := by
        unfold X12_overOf_b27
        simp (disch := omega) only [l_0, l_1, l_2, l_3, l_4, l_5, l_6, l_7, l_8, l_9, l_10, l_11, l_12, l_13, l_14, l_15, l_16, l_17, l_18, l_19, l_20, l_21, l_22, l_23, l_24, l_25, l_26, l_27, l_30, l_31, l_32, l_40, l_48, l_57, l_59, l_60, l_61, l_62, l_64, l_83, l_90, l_97, l_99, l_100, l_108, l_115, l_122, l_123, l_127, l_128, l_131, l_135, l_200, l_255, l_256, l_300, l_487, l_495, l_900, l_999, l_1000, l_1700, l_1792, l_1980, l_2048, l_2475, l_2970, l_3121, l_9999, l_10000, l_11351, l_65536, l_100000, l_1000000, ↓l_m1, l_neg, nI_add, pk_mul, pk_sub, q_leT, q_leF, q_ltT, q_ltF, q_eqT, q_eqF, q_m1e, q_m1e2, q_m1lt, q_m1le, q_m1nl, q_m1nle, q_m1s, q_ix, q_jat, q_jput, q_min1, q_min2, q_max1, q_max2, q_or0, q_0or, q_bs, if_true, if_false, true_and, and_true, false_and, and_false, not_true_eq_false, not_false_eq_true, eq_self, Bool.false_eq_true, q_z0, q_z1]
      rw [this]
    have hh := m_H (x := k) (c := 3) hM1 hk (by omega) (by omega)
    refine ⟨_, f2, kept (b := 2970) (by omega) (Fr_r _) (fun _ _ _ => trivial), Or.inl ⟨h0, ?_⟩⟩
    unfold X12_overOf X12_overOf_j24 X12_overOf_j64
    simp (disch := omega) only [l_0, l_1, l_2, l_3, l_4, l_5, l_6, l_7, l_8, l_9, l_10, l_11, l_12, l_13, l_14, l_15, l_16, l_17, l_18, l_19, l_20, l_21, l_22, l_23, l_24, l_25, l_26, l_27, l_30, l_31, l_32, l_40, l_48, l_57, l_59, l_60, l_61, l_62, l_64, l_83, l_90, l_97, l_99, l_100, l_108, l_115, l_122, l_123, l_127, l_128, l_131, l_135, l_200, l_255, l_256, l_300, l_487, l_495, l_900, l_999, l_1000, l_1700, l_1792, l_1980, l_2048, l_2475, l_2970, l_3121, l_9999, l_10000, l_11351, l_65536, l_100000, l_1000000, ↓l_m1, l_neg, nI_add, pk_mul, pk_sub, q_leT, q_leF, q_ltT, q_ltF, q_eqT, q_eqF, q_m1e, q_m1e2, q_m1lt, q_m1le, q_m1nl, q_m1nle, q_m1s, q_ix, q_jat, q_jput, q_min1, q_min2, q_max1, q_max2, q_or0, q_0or, q_bs, if_true, if_false, true_and, and_true, false_and, and_false, not_true_eq_false, not_false_eq_true, eq_self, Bool.false_eq_true, q_z0, q_z1, keeps_e, l1, t, i1, hh, restores_e]
theorem over_lift {S T : vS} (h : Rel S T) {x : Option vS} {y : Option (Int32 × Int32 × Int32 × (Nat → Int32) × (Nat → Int32))} (hxy : ∃ U b g f, x = some U ∧ y = some (U.1 0, U.1 1, b, g, f) ∧ ∀ k, k < 2970 → g k = T.2.2.1 0 k) :
    ∃ (r : Int32) (S2 T2 : vS), x.map (fun u => ((u.1 0), (sA (sI (sA (sI (sA (sI (sA (sI (sA (sA (sB (sI (sA (sA (sA (sI (sI (sI (sI (sI (sI (sI (sI S 5 (u.1 1)) 18 (u.1 2)) 19 (u.1 3)) 20 (u.1 4)) 21 (u.1 5)) 22 (u.1 6)) 23 (u.1 7)) 24 (u.1 8)) 9 (u.2.2.1 0)) 10 (u.2.2.1 1)) 11 (u.2.2.1 2)) 25 (u.1 9)) 1 (u.2.2.2 0)) 12 (u.2.2.1 3)) 13 (u.2.2.1 4)) 26 (u.1 10)) 14 (u.2.2.1 5)) 27 (u.1 11)) 15 (u.2.2.1 6)) 28 (u.1 12)) 16 (u.2.2.1 7)) 29 (u.1 13)) 17 (u.2.2.1 8)))) = some (r, S2) ∧ y.map (fun u => (u.1, (sA (sA (sI (sI T 0 u.2.1) 14 u.2.2.1) 0 u.2.2.2.1) 6 u.2.2.2.2))) = some (r, T2) ∧ Rel S2 T2 := by
  obtain ⟨U, b, g, f, rfl, rfl, hg⟩ := hxy
  refine ⟨U.1 0, _, _, rfl, rfl, Rel_ask h ⟨fun k hk => ?_, ⟨rfl, rfl⟩, fun k hk => ?_, fun k hk => up_n _ _ (by omega)⟩ ⟨fun k hk => ?_, ⟨rfl, rfl⟩, fun k h1 h2 => ?_, fun k hk => ?_, fun _ _ _ => rfl, rfl⟩ ⟨fun k h1 h2 => ?_, fun k hk => ?_, rfl⟩ ⟨fun k hk => hg k (by omega), fun _ _ => rfl⟩ rfl⟩
  · simp (disch := omega) only [sI, sA, sB, up_n]
  · simp (disch := omega) only [sI, sA, sB, up_n]
  · simp (disch := omega) only [sI, sA, sB, up_n]
  · exact hg k (by omega)
  · simp (disch := omega) only [sI, sA, sB, up_n]
  · simp (disch := omega) only [sI, sA, sB, up_n]
  · simp (disch := omega) only [sI, sA, sB, up_n]
theorem ok_overIn' {F : Nat} (hF : 2000 < F) : ok_overIn F Rel := fun S T v1 h => by
  obtain ⟨C, hC⟩ := Rel_city h
  have hC' := hC
  obtain ⟨ok, h8, wb, ⟨⟨c0, c1, c2, c3, c5, c6, c8, c9, c10⟩, cR, cT, cF, cX, cH, cW⟩, hM, nr, wr⟩ := hC'
  have c0 : S.1 6 = nI (C 0 0 5) := c0; have c1 : S.1 7 = nI (C 0 0 6) := c1; have c2 : S.1 8 = nI (C 0 0 7) := c2; have c3 : S.1 9 = nI (C 0 0 8) := c3; have c5 : S.1 11 = nI (C 0 0 0) := c5; have c6 : S.1 12 = nI (C 0 0 1) := c6; have c8 : S.1 14 = nI (C 0 0 2) := c8; have c9 : S.1 15 = nI (C 0 0 3) := c9; have c10 : S.1 16 = nI (C 0 0 4) := c10; have cT : CT C (S.2.2.1 1) := cT; have cF : CF C (S.2.2.1 2) := cF; have cX : CX C (S.2.2.1 5) := cX; have cH : CH C (S.2.2.1 6) := cH; have cW : CW C (S.2.2.1 7) := cW
  have o0 := ok.1
  refine over_lift h ?_
  unfold X11_overIn X12_overIn X11_none X11_answer X12_refuse X12_orNone X12_gives
  rcases rng v1 (n := C 0 0 3) (by omega) with ⟨x, hx, rfl⟩ | hv
  case inr =>
    have i1 : X11_isHappening (S.1 15) v1 = some (nI 0) := by rw [c9]; exact q_iHF hv (by omega)
    exact ⟨_, T.1 14, T.2.2.1 0, T.2.2.1 6, by simp (disch := omega) only [l_0, l_1, l_2, l_3, l_4, l_5, l_6, l_7, l_8, l_9, l_10, l_11, l_12, l_13, l_14, l_15, l_16, l_17, l_18, l_19, l_20, l_21, l_22, l_23, l_24, l_25, l_26, l_27, l_30, l_31, l_32, l_40, l_48, l_57, l_59, l_60, l_61, l_62, l_64, l_83, l_90, l_97, l_99, l_100, l_108, l_115, l_122, l_123, l_127, l_128, l_131, l_135, l_200, l_255, l_256, l_300, l_487, l_495, l_900, l_999, l_1000, l_1700, l_1792, l_1980, l_2048, l_2475, l_2970, l_3121, l_9999, l_10000, l_11351, l_65536, l_100000, l_1000000, ↓l_m1, l_neg, nI_add, pk_mul, pk_sub, q_leT, q_leF, q_ltT, q_ltF, q_eqT, q_eqF, q_m1e, q_m1e2, q_m1lt, q_m1le, q_m1nl, q_m1nle, q_m1s, q_ix, q_jat, q_jput, q_min1, q_min2, q_max1, q_max2, q_or0, q_0or, q_bs, if_true, if_false, true_and, and_true, false_and, and_false, not_true_eq_false, not_false_eq_true, eq_self, Bool.false_eq_true, q_z0, q_z1, i1]; rfl, by simp (disch := omega) only [l_0, l_1, l_2, l_3, l_4, l_5, l_6, l_7, l_8, l_9, l_10, l_11, l_12, l_13, l_14, l_15, l_16, l_17, l_18, l_19, l_20, l_21, l_22, l_23, l_24, l_25, l_26, l_27, l_30, l_31, l_32, l_40, l_48, l_57, l_59, l_60, l_61, l_62, l_64, l_83, l_90, l_97, l_99, l_100, l_108, l_115, l_122, l_123, l_127, l_128, l_131, l_135, l_200, l_255, l_256, l_300, l_487, l_495, l_900, l_999, l_1000, l_1700, l_1792, l_1980, l_2048, l_2475, l_2970, l_3121, l_9999, l_10000, l_11351, l_65536, l_100000, l_1000000, ↓l_m1, l_neg, nI_add, pk_mul, pk_sub, q_leT, q_leF, q_ltT, q_ltF, q_eqT, q_eqF, q_m1e, q_m1e2, q_m1lt, q_m1le, q_m1nl, q_m1nle, q_m1s, q_ix, q_jat, q_jput, q_min1, q_min2, q_max1, q_max2, q_or0, q_0or, q_bs, if_true, if_false, true_and, and_true, false_and, and_false, not_true_eq_false, not_false_eq_true, eq_self, Bool.false_eq_true, q_z0, q_z1, m_iHF hM hv, X12_refuse]; rfl, fun _ _ => rfl⟩
  have i1 : X11_isHappening (S.1 15) (nI x) = some (nI 1) := by rw [c9]; exact q_iHT hx (by omega)
  have e1 := ok.2.2.2.1 x hx
  obtain ⟨U, u0, u8, u9, u10, uX, uH, uW⟩ := ahead_e (n := 300) hF hC (by omega)
  have okp := pass_ok ok 300 (by omega)
  have hx' : x < pass C 300 0 0 3 := by rw [pass_0 C (by omega)]; exact hx
  have e2 := okp.2.2.2.1 x hx'
  have o2 := okp.1
  rw [← pass_0 C (show 3 ≠ 8 by omega) 300] at u9
  obtain ⟨g3, f2, hg, hh⟩ := m_overOf (F := F) (f := T.2.2.1 6) (T.1 14) ok hM hx h8 hF
  rcases hh with ⟨h0, m⟩ | ⟨h0, hz, v, m⟩ | ⟨h0, n, hn, hfi, m⟩
  · have t1 : X0_isToCome (S.1 15) (S.2.2.1 6) (nI x) = some (nI 0) := by rw [c9]; exact c_tcF cH hx (by omega) h0 (by omega)
    exact ⟨_, nI (C 3 x 3), g3, f2, by simp (disch := omega) only [l_0, l_1, l_2, l_3, l_4, l_5, l_6, l_7, l_8, l_9, l_10, l_11, l_12, l_13, l_14, l_15, l_16, l_17, l_18, l_19, l_20, l_21, l_22, l_23, l_24, l_25, l_26, l_27, l_30, l_31, l_32, l_40, l_48, l_57, l_59, l_60, l_61, l_62, l_64, l_83, l_90, l_97, l_99, l_100, l_108, l_115, l_122, l_123, l_127, l_128, l_131, l_135, l_200, l_255, l_256, l_300, l_487, l_495, l_900, l_999, l_1000, l_1700, l_1792, l_1980, l_2048, l_2475, l_2970, l_3121, l_9999, l_10000, l_11351, l_65536, l_100000, l_1000000, ↓l_m1, l_neg, nI_add, pk_mul, pk_sub, q_leT, q_leF, q_ltT, q_ltF, q_eqT, q_eqF, q_m1e, q_m1e2, q_m1lt, q_m1le, q_m1nl, q_m1nle, q_m1s, q_ix, q_jat, q_jput, q_min1, q_min2, q_max1, q_max2, q_or0, q_0or, q_bs, if_true, if_false, true_and, and_true, false_and, and_false, not_true_eq_false, not_false_eq_true, eq_self, Bool.false_eq_true, q_z0, q_z1, i1, t1]; rfl, by simp (disch := omega) only [l_0, l_1, l_2, l_3, l_4, l_5, l_6, l_7, l_8, l_9, l_10, l_11, l_12, l_13, l_14, l_15, l_16, l_17, l_18, l_19, l_20, l_21, l_22, l_23, l_24, l_25, l_26, l_27, l_30, l_31, l_32, l_40, l_48, l_57, l_59, l_60, l_61, l_62, l_64, l_83, l_90, l_97, l_99, l_100, l_108, l_115, l_122, l_123, l_127, l_128, l_131, l_135, l_200, l_255, l_256, l_300, l_487, l_495, l_900, l_999, l_1000, l_1700, l_1792, l_1980, l_2048, l_2475, l_2970, l_3121, l_9999, l_10000, l_11351, l_65536, l_100000, l_1000000, ↓l_m1, l_neg, nI_add, pk_mul, pk_sub, q_leT, q_leF, q_ltT, q_ltF, q_eqT, q_eqF, q_m1e, q_m1e2, q_m1lt, q_m1le, q_m1nl, q_m1nle, q_m1s, q_ix, q_jat, q_jput, q_min1, q_min2, q_max1, q_max2, q_or0, q_0or, q_bs, if_true, if_false, true_and, and_true, false_and, and_false, not_true_eq_false, not_false_eq_true, eq_self, Bool.false_eq_true, q_z0, q_z1, m_iHT hM, m]; rfl, hg⟩
  · have t1 : X0_isToCome (S.1 15) (S.2.2.1 6) (nI x) = some (nI 1) := by rw [c9]; exact c_tcT cH hx (by omega) h0
    have t2 : X0_isToCome (U.1 9) (U.2.2.1 6) (nI x) = some (nI 1) := by rw [u9]; exact c_tcT uH hx' (by omega) hz
    rw [show (300 : Int32) = nI 300 from rfl]
    exact ⟨_, v, g3, f2, by simp (disch := omega) only [l_0, l_1, l_2, l_3, l_4, l_5, l_6, l_7, l_8, l_9, l_10, l_11, l_12, l_13, l_14, l_15, l_16, l_17, l_18, l_19, l_20, l_21, l_22, l_23, l_24, l_25, l_26, l_27, l_30, l_31, l_32, l_40, l_48, l_57, l_59, l_60, l_61, l_62, l_64, l_83, l_90, l_97, l_99, l_100, l_108, l_115, l_122, l_123, l_127, l_128, l_131, l_135, l_200, l_255, l_256, l_300, l_487, l_495, l_900, l_999, l_1000, l_1700, l_1792, l_1980, l_2048, l_2475, l_2970, l_3121, l_9999, l_10000, l_11351, l_65536, l_100000, l_1000000, ↓l_m1, l_neg, nI_add, pk_mul, pk_sub, q_leT, q_leF, q_ltT, q_ltF, q_eqT, q_eqF, q_m1e, q_m1e2, q_m1lt, q_m1le, q_m1nl, q_m1nle, q_m1s, q_ix, q_jat, q_jput, q_min1, q_min2, q_max1, q_max2, q_or0, q_0or, q_bs, if_true, if_false, true_and, and_true, false_and, and_false, not_true_eq_false, not_false_eq_true, eq_self, Bool.false_eq_true, q_z0, q_z1, i1, t1, u0, t2]; rfl, by simp (disch := omega) only [l_0, l_1, l_2, l_3, l_4, l_5, l_6, l_7, l_8, l_9, l_10, l_11, l_12, l_13, l_14, l_15, l_16, l_17, l_18, l_19, l_20, l_21, l_22, l_23, l_24, l_25, l_26, l_27, l_30, l_31, l_32, l_40, l_48, l_57, l_59, l_60, l_61, l_62, l_64, l_83, l_90, l_97, l_99, l_100, l_108, l_115, l_122, l_123, l_127, l_128, l_131, l_135, l_200, l_255, l_256, l_300, l_487, l_495, l_900, l_999, l_1000, l_1700, l_1792, l_1980, l_2048, l_2475, l_2970, l_3121, l_9999, l_10000, l_11351, l_65536, l_100000, l_1000000, ↓l_m1, l_neg, nI_add, pk_mul, pk_sub, q_leT, q_leF, q_ltT, q_ltF, q_eqT, q_eqF, q_m1e, q_m1e2, q_m1lt, q_m1le, q_m1nl, q_m1nle, q_m1s, q_ix, q_jat, q_jput, q_min1, q_min2, q_max1, q_max2, q_or0, q_0or, q_bs, if_true, if_false, true_and, and_true, false_and, and_false, not_true_eq_false, not_false_eq_true, eq_self, Bool.false_eq_true, q_z0, q_z1, m_iHT hM, m, X12_refuse]; rfl, hg⟩
  · have t1 : X0_isToCome (S.1 15) (S.2.2.1 6) (nI x) = some (nI 1) := by rw [c9]; exact c_tcT cH hx (by omega) h0
    have pd := pass_done (m := n) hx hfi.2.1 (300 - n)
    rw [show n + (300 - n) = 300 by omega] at pd
    have hnz : pass C 300 3 x 3 ≠ 0 := by rw [pd.1]; exact hfi.2.1
    have en := FI_ends hx hfi
    have t2 : X0_isToCome (U.1 9) (U.2.2.1 6) (nI x) = some (nI 0) := by rw [u9]; exact c_tcF uH hx' (by omega) hnz (by omega)
    have t3 : X7_get 40 (nI 5) (U.1 9) (U.2.2.1 6) (nI x) (nI 4) = some (nI (pass C n 3 x 4)) := by
      rw [u9, q_get hx' (by omega) (by omega) (by omega), uH x 4 hx' (by omega), pd.2]
    have c3' : S.1 9 = nI (C 0 0 8) := c3
    have e9 : nI (pass C n 3 x 4 + 1) - nI (C 0 0 8) = nI n := by rw [en, pk_sub (by omega)]; congr 1; omega
    have nn := hfi.1
    rw [show (300 : Int32) = nI 300 from rfl]
    refine ⟨_, nI (pass C n 3 x 3), g3, f2, by
      simp (disch := omega) only [l_0, l_1, l_2, l_3, l_4, l_5, l_6, l_7, l_8, l_9, l_10, l_11, l_12, l_13, l_14, l_15, l_16, l_17, l_18, l_19, l_20, l_21, l_22, l_23, l_24, l_25, l_26, l_27, l_30, l_31, l_32, l_40, l_48, l_57, l_59, l_60, l_61, l_62, l_64, l_83, l_90, l_97, l_99, l_100, l_108, l_115, l_122, l_123, l_127, l_128, l_131, l_135, l_200, l_255, l_256, l_300, l_487, l_495, l_900, l_999, l_1000, l_1700, l_1792, l_1980, l_2048, l_2475, l_2970, l_3121, l_9999, l_10000, l_11351, l_65536, l_100000, l_1000000, ↓l_m1, l_neg, nI_add, pk_mul, pk_sub, q_leT, q_leF, q_ltT, q_ltF, q_eqT, q_eqF, q_m1e, q_m1e2, q_m1lt, q_m1le, q_m1nl, q_m1nle, q_m1s, q_ix, q_jat, q_jput, q_min1, q_min2, q_max1, q_max2, q_or0, q_0or, q_bs, if_true, if_false, true_and, and_true, false_and, and_false, not_true_eq_false, not_false_eq_true, eq_self, Bool.false_eq_true, q_z0, q_z1, i1, t1, u0, t2, t3]
      rfl, ?_, hg⟩
    show _ = some (nI (pass C n 3 x 4 + 1) - S.1 9, (0 : Int32), _, g3, f2)
    rw [c3', e9]
    simp (disch := omega) only [l_0, l_1, l_2, l_3, l_4, l_5, l_6, l_7, l_8, l_9, l_10, l_11, l_12, l_13, l_14, l_15, l_16, l_17, l_18, l_19, l_20, l_21, l_22, l_23, l_24, l_25, l_26, l_27, l_30, l_31, l_32, l_40, l_48, l_57, l_59, l_60, l_61, l_62, l_64, l_83, l_90, l_97, l_99, l_100, l_108, l_115, l_122, l_123, l_127, l_128, l_131, l_135, l_200, l_255, l_256, l_300, l_487, l_495, l_900, l_999, l_1000, l_1700, l_1792, l_1980, l_2048, l_2475, l_2970, l_3121, l_9999, l_10000, l_11351, l_65536, l_100000, l_1000000, ↓l_m1, l_neg, nI_add, pk_mul, pk_sub, q_leT, q_leF, q_ltT, q_ltF, q_eqT, q_eqF, q_m1e, q_m1e2, q_m1lt, q_m1le, q_m1nl, q_m1nle, q_m1s, q_ix, q_jat, q_jput, q_min1, q_min2, q_max1, q_max2, q_or0, q_0or, q_bs, if_true, if_false, true_and, and_true, false_and, and_false, not_true_eq_false, not_false_eq_true, eq_self, Bool.false_eq_true, q_z0, q_z1, m_iHT hM, m]
theorem ok_becomes' {F : Nat} (hF : 2000 < F) : ok_becomes F Rel := fun S T v1 h => by
  obtain ⟨C, hC⟩ := Rel_city h
  have hC' := hC
  obtain ⟨ok, h8, wb, ⟨⟨c0, c1, c2, c3, c5, c6, c8, c9, c10⟩, cR, cT, cF, cX, cH, cW⟩, hM, nr, wr⟩ := hC'
  have c0 : S.1 6 = nI (C 0 0 5) := c0; have c1 : S.1 7 = nI (C 0 0 6) := c1; have c2 : S.1 8 = nI (C 0 0 7) := c2; have c3 : S.1 9 = nI (C 0 0 8) := c3; have c5 : S.1 11 = nI (C 0 0 0) := c5; have c6 : S.1 12 = nI (C 0 0 1) := c6; have c8 : S.1 14 = nI (C 0 0 2) := c8; have c9 : S.1 15 = nI (C 0 0 3) := c9; have c10 : S.1 16 = nI (C 0 0 4) := c10; have cT : CT C (S.2.2.1 1) := cT; have cF : CF C (S.2.2.1 2) := cF; have cX : CX C (S.2.2.1 5) := cX; have cH : CH C (S.2.2.1 6) := cH; have cW : CW C (S.2.2.1 7) := cW
  have o0 := ok.1
  refine over_lift h ?_
  unfold X11_becomes X12_becomes X11_none X11_answer X12_refuse X12_gives
  rcases rng v1 (n := C 0 0 3) (by omega) with ⟨x, hx, rfl⟩ | hv
  case inr =>
    have i1 : X11_isHappening (S.1 15) v1 = some (nI 0) := by rw [c9]; exact q_iHF hv (by omega)
    exact ⟨_, T.1 14, T.2.2.1 0, T.2.2.1 6, by simp (disch := omega) only [l_0, l_1, l_2, l_3, l_4, l_5, l_6, l_7, l_8, l_9, l_10, l_11, l_12, l_13, l_14, l_15, l_16, l_17, l_18, l_19, l_20, l_21, l_22, l_23, l_24, l_25, l_26, l_27, l_30, l_31, l_32, l_40, l_48, l_57, l_59, l_60, l_61, l_62, l_64, l_83, l_90, l_97, l_99, l_100, l_108, l_115, l_122, l_123, l_127, l_128, l_131, l_135, l_200, l_255, l_256, l_300, l_487, l_495, l_900, l_999, l_1000, l_1700, l_1792, l_1980, l_2048, l_2475, l_2970, l_3121, l_9999, l_10000, l_11351, l_65536, l_100000, l_1000000, ↓l_m1, l_neg, nI_add, pk_mul, pk_sub, q_leT, q_leF, q_ltT, q_ltF, q_eqT, q_eqF, q_m1e, q_m1e2, q_m1lt, q_m1le, q_m1nl, q_m1nle, q_m1s, q_ix, q_jat, q_jput, q_min1, q_min2, q_max1, q_max2, q_or0, q_0or, q_bs, if_true, if_false, true_and, and_true, false_and, and_false, not_true_eq_false, not_false_eq_true, eq_self, Bool.false_eq_true, q_z0, q_z1, i1]; rfl, by simp (disch := omega) only [l_0, l_1, l_2, l_3, l_4, l_5, l_6, l_7, l_8, l_9, l_10, l_11, l_12, l_13, l_14, l_15, l_16, l_17, l_18, l_19, l_20, l_21, l_22, l_23, l_24, l_25, l_26, l_27, l_30, l_31, l_32, l_40, l_48, l_57, l_59, l_60, l_61, l_62, l_64, l_83, l_90, l_97, l_99, l_100, l_108, l_115, l_122, l_123, l_127, l_128, l_131, l_135, l_200, l_255, l_256, l_300, l_487, l_495, l_900, l_999, l_1000, l_1700, l_1792, l_1980, l_2048, l_2475, l_2970, l_3121, l_9999, l_10000, l_11351, l_65536, l_100000, l_1000000, ↓l_m1, l_neg, nI_add, pk_mul, pk_sub, q_leT, q_leF, q_ltT, q_ltF, q_eqT, q_eqF, q_m1e, q_m1e2, q_m1lt, q_m1le, q_m1nl, q_m1nle, q_m1s, q_ix, q_jat, q_jput, q_min1, q_min2, q_max1, q_max2, q_or0, q_0or, q_bs, if_true, if_false, true_and, and_true, false_and, and_false, not_true_eq_false, not_false_eq_true, eq_self, Bool.false_eq_true, q_z0, q_z1, m_iHF hM hv]; rfl, fun _ _ => rfl⟩
  have i1 : X11_isHappening (S.1 15) (nI x) = some (nI 1) := by rw [c9]; exact q_iHT hx (by omega)
  have e1 := ok.2.2.2.1 x hx
  obtain ⟨U, u0, u8, u9, u10, uX, uH, uW⟩ := ahead_e (n := 300) hF hC (by omega)
  have okp := pass_ok ok 300 (by omega)
  have hx' : x < pass C 300 0 0 3 := by rw [pass_0 C (by omega)]; exact hx
  have e2 := okp.2.2.2.1 x hx'
  have o2 := okp.1
  rw [← pass_0 C (show 3 ≠ 8 by omega) 300] at u9
  obtain ⟨g3, f2, hg, hh⟩ := m_overOf (F := F) (f := T.2.2.1 6) (T.1 14) ok hM hx h8 hF
  rw [show (300 : Int32) = nI 300 from rfl]
  have t3 : X7_get 40 (nI 5) (U.1 9) (U.2.2.1 6) (nI x) (nI 3) = some (nI (pass C 300 3 x 3)) := by
    rw [u9, q_get hx' (by omega) (by omega) (by omega), uH x 3 hx' (by omega)]
  rcases hh with ⟨h0, m⟩ | ⟨h0, hz, v, m⟩ | ⟨h0, n, hn, hfi, m⟩
  · have pd := pass_done (m := 0) hx h0 300
    rw [Nat.zero_add] at pd
    have pd1 : pass C 300 3 x 3 = C 3 x 3 := pd.1
    have t2 : X0_isToCome (U.1 9) (U.2.2.1 6) (nI x) = some (nI 0) := by rw [u9]; exact c_tcF uH hx' (by omega) (by rw [pd1]; exact h0) (by omega)
    rw [pd1] at t3
    exact ⟨_, nI (C 3 x 3), g3, f2, by simp (disch := omega) only [l_0, l_1, l_2, l_3, l_4, l_5, l_6, l_7, l_8, l_9, l_10, l_11, l_12, l_13, l_14, l_15, l_16, l_17, l_18, l_19, l_20, l_21, l_22, l_23, l_24, l_25, l_26, l_27, l_30, l_31, l_32, l_40, l_48, l_57, l_59, l_60, l_61, l_62, l_64, l_83, l_90, l_97, l_99, l_100, l_108, l_115, l_122, l_123, l_127, l_128, l_131, l_135, l_200, l_255, l_256, l_300, l_487, l_495, l_900, l_999, l_1000, l_1700, l_1792, l_1980, l_2048, l_2475, l_2970, l_3121, l_9999, l_10000, l_11351, l_65536, l_100000, l_1000000, ↓l_m1, l_neg, nI_add, pk_mul, pk_sub, q_leT, q_leF, q_ltT, q_ltF, q_eqT, q_eqF, q_m1e, q_m1e2, q_m1lt, q_m1le, q_m1nl, q_m1nle, q_m1s, q_ix, q_jat, q_jput, q_min1, q_min2, q_max1, q_max2, q_or0, q_0or, q_bs, if_true, if_false, true_and, and_true, false_and, and_false, not_true_eq_false, not_false_eq_true, eq_self, Bool.false_eq_true, q_z0, q_z1, i1, u0, t2, t3]; rfl, by simp (disch := omega) only [l_0, l_1, l_2, l_3, l_4, l_5, l_6, l_7, l_8, l_9, l_10, l_11, l_12, l_13, l_14, l_15, l_16, l_17, l_18, l_19, l_20, l_21, l_22, l_23, l_24, l_25, l_26, l_27, l_30, l_31, l_32, l_40, l_48, l_57, l_59, l_60, l_61, l_62, l_64, l_83, l_90, l_97, l_99, l_100, l_108, l_115, l_122, l_123, l_127, l_128, l_131, l_135, l_200, l_255, l_256, l_300, l_487, l_495, l_900, l_999, l_1000, l_1700, l_1792, l_1980, l_2048, l_2475, l_2970, l_3121, l_9999, l_10000, l_11351, l_65536, l_100000, l_1000000, ↓l_m1, l_neg, nI_add, pk_mul, pk_sub, q_leT, q_leF, q_ltT, q_ltF, q_eqT, q_eqF, q_m1e, q_m1e2, q_m1lt, q_m1le, q_m1nl, q_m1nle, q_m1s, q_ix, q_jat, q_jput, q_min1, q_min2, q_max1, q_max2, q_or0, q_0or, q_bs, if_true, if_false, true_and, and_true, false_and, and_false, not_true_eq_false, not_false_eq_true, eq_self, Bool.false_eq_true, q_z0, q_z1, m_iHT hM, m]; rfl, hg⟩
  · have t2 : X0_isToCome (U.1 9) (U.2.2.1 6) (nI x) = some (nI 1) := by rw [u9]; exact c_tcT uH hx' (by omega) hz
    exact ⟨_, v, g3, f2, by simp (disch := omega) only [l_0, l_1, l_2, l_3, l_4, l_5, l_6, l_7, l_8, l_9, l_10, l_11, l_12, l_13, l_14, l_15, l_16, l_17, l_18, l_19, l_20, l_21, l_22, l_23, l_24, l_25, l_26, l_27, l_30, l_31, l_32, l_40, l_48, l_57, l_59, l_60, l_61, l_62, l_64, l_83, l_90, l_97, l_99, l_100, l_108, l_115, l_122, l_123, l_127, l_128, l_131, l_135, l_200, l_255, l_256, l_300, l_487, l_495, l_900, l_999, l_1000, l_1700, l_1792, l_1980, l_2048, l_2475, l_2970, l_3121, l_9999, l_10000, l_11351, l_65536, l_100000, l_1000000, ↓l_m1, l_neg, nI_add, pk_mul, pk_sub, q_leT, q_leF, q_ltT, q_ltF, q_eqT, q_eqF, q_m1e, q_m1e2, q_m1lt, q_m1le, q_m1nl, q_m1nle, q_m1s, q_ix, q_jat, q_jput, q_min1, q_min2, q_max1, q_max2, q_or0, q_0or, q_bs, if_true, if_false, true_and, and_true, false_and, and_false, not_true_eq_false, not_false_eq_true, eq_self, Bool.false_eq_true, q_z0, q_z1, i1, u0, t2]; rfl, by simp (disch := omega) only [l_0, l_1, l_2, l_3, l_4, l_5, l_6, l_7, l_8, l_9, l_10, l_11, l_12, l_13, l_14, l_15, l_16, l_17, l_18, l_19, l_20, l_21, l_22, l_23, l_24, l_25, l_26, l_27, l_30, l_31, l_32, l_40, l_48, l_57, l_59, l_60, l_61, l_62, l_64, l_83, l_90, l_97, l_99, l_100, l_108, l_115, l_122, l_123, l_127, l_128, l_131, l_135, l_200, l_255, l_256, l_300, l_487, l_495, l_900, l_999, l_1000, l_1700, l_1792, l_1980, l_2048, l_2475, l_2970, l_3121, l_9999, l_10000, l_11351, l_65536, l_100000, l_1000000, ↓l_m1, l_neg, nI_add, pk_mul, pk_sub, q_leT, q_leF, q_ltT, q_ltF, q_eqT, q_eqF, q_m1e, q_m1e2, q_m1lt, q_m1le, q_m1nl, q_m1nle, q_m1s, q_ix, q_jat, q_jput, q_min1, q_min2, q_max1, q_max2, q_or0, q_0or, q_bs, if_true, if_false, true_and, and_true, false_and, and_false, not_true_eq_false, not_false_eq_true, eq_self, Bool.false_eq_true, q_z0, q_z1, m_iHT hM, m]; rfl, hg⟩
  · have pd := pass_done (m := n) hx hfi.2.1 (300 - n)
    rw [show n + (300 - n) = 300 by omega] at pd
    have hnz : pass C 300 3 x 3 ≠ 0 := by rw [pd.1]; exact hfi.2.1
    have t2 : X0_isToCome (U.1 9) (U.2.2.1 6) (nI x) = some (nI 0) := by rw [u9]; exact c_tcF uH hx' (by omega) hnz (by omega)
    rw [pd.1] at t3
    exact ⟨_, nI (pass C n 3 x 3), g3, f2, by simp (disch := omega) only [l_0, l_1, l_2, l_3, l_4, l_5, l_6, l_7, l_8, l_9, l_10, l_11, l_12, l_13, l_14, l_15, l_16, l_17, l_18, l_19, l_20, l_21, l_22, l_23, l_24, l_25, l_26, l_27, l_30, l_31, l_32, l_40, l_48, l_57, l_59, l_60, l_61, l_62, l_64, l_83, l_90, l_97, l_99, l_100, l_108, l_115, l_122, l_123, l_127, l_128, l_131, l_135, l_200, l_255, l_256, l_300, l_487, l_495, l_900, l_999, l_1000, l_1700, l_1792, l_1980, l_2048, l_2475, l_2970, l_3121, l_9999, l_10000, l_11351, l_65536, l_100000, l_1000000, ↓l_m1, l_neg, nI_add, pk_mul, pk_sub, q_leT, q_leF, q_ltT, q_ltF, q_eqT, q_eqF, q_m1e, q_m1e2, q_m1lt, q_m1le, q_m1nl, q_m1nle, q_m1s, q_ix, q_jat, q_jput, q_min1, q_min2, q_max1, q_max2, q_or0, q_0or, q_bs, if_true, if_false, true_and, and_true, false_and, and_false, not_true_eq_false, not_false_eq_true, eq_self, Bool.false_eq_true, q_z0, q_z1, i1, u0, t2, t3]; rfl, by simp (disch := omega) only [l_0, l_1, l_2, l_3, l_4, l_5, l_6, l_7, l_8, l_9, l_10, l_11, l_12, l_13, l_14, l_15, l_16, l_17, l_18, l_19, l_20, l_21, l_22, l_23, l_24, l_25, l_26, l_27, l_30, l_31, l_32, l_40, l_48, l_57, l_59, l_60, l_61, l_62, l_64, l_83, l_90, l_97, l_99, l_100, l_108, l_115, l_122, l_123, l_127, l_128, l_131, l_135, l_200, l_255, l_256, l_300, l_487, l_495, l_900, l_999, l_1000, l_1700, l_1792, l_1980, l_2048, l_2475, l_2970, l_3121, l_9999, l_10000, l_11351, l_65536, l_100000, l_1000000, ↓l_m1, l_neg, nI_add, pk_mul, pk_sub, q_leT, q_leF, q_ltT, q_ltF, q_eqT, q_eqF, q_m1e, q_m1e2, q_m1lt, q_m1le, q_m1nl, q_m1nle, q_m1s, q_ix, q_jat, q_jput, q_min1, q_min2, q_max1, q_max2, q_or0, q_0or, q_bs, if_true, if_false, true_and, and_true, false_and, and_false, not_true_eq_false, not_false_eq_true, eq_self, Bool.false_eq_true, q_z0, q_z1, m_iHT hM, m]; rfl, hg⟩
