/-! ===== PURE 18.e: fewest: the class's side ===== -/
def ndc (C : Cy) (r : Nat) : Nat := if r < 8 then C 3 r 0 else C 2 (r - 8) 0
def ndu (C : Cy) (r : Nat) : Nat := if r < 8 then C 3 r 1 + 1 else C 0 0 8 + C 2 (r - 8) 1
/-- one who comes from r can stand at h -/
def EC (C : Cy) (h r : Nat) : Bool := cmT C (ndc C r) (ndu C r) h
theorem EC_h {C : Cy} {h r : Nat} (hr : r < 8) : EC C h r = cmT C (C 3 r 0) (C 3 r 1 + 1) h := by unfold EC ndc ndu; rw [if_pos hr, if_pos hr]
theorem EC_x {C : Cy} {h x : Nat} : EC C h (8 + x) = cmT C (C 2 x 0) (C 0 0 8 + C 2 x 1) h := by unfold EC ndc ndu; rw [if_neg (by omega), if_neg (by omega), show 8 + x - 8 = x by omega]
def cfA (C : Cy) (L : Nat → Nat) (i : Nat) : Nat → Nat
  | 0 => 0
  | k + 1 => if EC C (L i) (L k) then cfA C L i k ||| 2 ^ L k else cfA C L i k
def cfB (C : Cy) (L : Nat → Nat) (i : Nat) : Nat → Nat
  | 0 => cfA C L i i
  | x + 1 => if EC C (L i) (8 + x) then cfB C L i x ||| 2 ^ (8 + x) else cfB C L i x
theorem cfA_lt {C : Cy} {L : Nat → Nat} {i n : Nat} (h8 : ∀ j, j < n → L j < 8) : ∀ k, k ≤ n → cfA C L i k < 2 ^ 8
  | 0, _ => (by show 0 < 2 ^ 8; decide)
  | k + 1, hk => by
    have ih := cfA_lt (C := C) (i := i) h8 k (by omega)
    rw [cfA]
    by_cases q : EC C (L i) (L k) = true
    · rw [if_pos q]; exact or_lt ih (h8 k (by omega))
    · rw [if_neg q]; exact ih
theorem cfA_bit {C : Cy} {L : Nat → Nat} {i r : Nat} : ∀ k, (cfA C L i k).testBit r = true ↔ ∃ j, j < k ∧ L j = r ∧ EC C (L i) r = true
  | 0 => by
    rw [cfA, Nat.zero_testBit]
    exact ⟨fun h => (by cases h), fun ⟨j, hj, _⟩ => by omega⟩
  | k + 1 => by
    have ih := cfA_bit (C := C) (L := L) (i := i) (r := r) k
    rw [cfA]
    by_cases q : EC C (L i) (L k) = true
    · rw [if_pos q, Nat.testBit_or, Bool.or_eq_true, ih, Nat.testBit_two_pow, decide_eq_true_eq]
      constructor
      · rintro (⟨j, h1, h2⟩ | h)
        · exact ⟨j, by omega, h2⟩
        · exact ⟨k, by omega, h, by rw [← h]; exact q⟩
      · rintro ⟨j, h1, h2, h3⟩
        by_cases e : j = k
        · subst e; exact Or.inr h2
        · exact Or.inl ⟨j, by omega, h2, h3⟩
    · rw [if_neg q, ih]
      constructor
      · rintro ⟨j, h1, h2⟩; exact ⟨j, by omega, h2⟩
      · rintro ⟨j, h1, h2, h3⟩
        by_cases e : j = k
        · subst e; rw [h2] at q; exact absurd h3 q
        · exact ⟨j, by omega, h2, h3⟩
theorem cfB_lt {C : Cy} {L : Nat → Nat} {i n : Nat} (h8 : ∀ j, j < n → L j < 8) (hi : i < n) : ∀ k, k ≤ 7 → cfB C L i k < 2 ^ 15
  | 0, _ => Nat.lt_of_lt_of_le (cfA_lt h8 i (by omega)) (by decide)
  | k + 1, hk => by
    have ih := cfB_lt (C := C) (i := i) h8 hi k (by omega)
    rw [cfB]
    by_cases q : EC C (L i) (8 + k) = true
    · rw [if_pos q]; exact or_lt ih (by omega)
    · rw [if_neg q]; exact ih
theorem cfB_bit {C : Cy} {L : Nat → Nat} {i r : Nat} : ∀ k, (cfB C L i k).testBit r = true ↔ ((∃ j, j < i ∧ L j = r) ∨ (∃ x, x < k ∧ r = 8 + x)) ∧ EC C (L i) r = true
  | 0 => by
    rw [cfB, cfA_bit]
    constructor
    · rintro ⟨j, h1, h2, h3⟩; exact ⟨Or.inl ⟨j, h1, h2⟩, h3⟩
    · rintro ⟨⟨j, h1, h2⟩ | ⟨x, h1, _⟩, h3⟩
      · exact ⟨j, h1, h2, h3⟩
      · omega
  | k + 1 => by
    have ih := cfB_bit (C := C) (L := L) (i := i) (r := r) k
    rw [cfB]
    by_cases q : EC C (L i) (8 + k) = true
    · rw [if_pos q, Nat.testBit_or, Bool.or_eq_true, ih, Nat.testBit_two_pow, decide_eq_true_eq]
      constructor
      · rintro (⟨h1 | ⟨x, h1, h2⟩, h3⟩ | h)
        · exact ⟨Or.inl h1, h3⟩
        · exact ⟨Or.inr ⟨x, by omega, h2⟩, h3⟩
        · exact ⟨Or.inr ⟨k, by omega, h.symm⟩, by rw [← h]; exact q⟩
      · rintro ⟨h1 | ⟨x, h1, h2⟩, h3⟩
        · exact Or.inl ⟨Or.inl h1, h3⟩
        · by_cases e : x = k
          · subst e; exact Or.inr h2.symm
          · exact Or.inl ⟨Or.inr ⟨x, by omega, h2⟩, h3⟩
    · rw [if_neg q, ih]
      constructor
      · rintro ⟨h1 | ⟨x, h1, h2⟩, h3⟩
        · exact ⟨Or.inl h1, h3⟩
        · exact ⟨Or.inr ⟨x, by omega, h2⟩, h3⟩
      · rintro ⟨h1 | ⟨x, h1, h2⟩, h3⟩
        · exact ⟨Or.inl h1, h3⟩
        · by_cases e : x = k
          · subst e; rw [h2] at h3; exact absurd h3 q
          · exact ⟨Or.inr ⟨x, by omega, h2⟩, h3⟩
theorem c_from {F : Nat} {C : Cy} {df xf hf lf : Nat → Int32} {n i : Nat} {L : Nat → Nat} (ok : Ok C) (hD : CF C df) (hX : CX C xf) (hH : CH C hf) (hL : LineOK C (C 0 0 3) n L) (hl : ∀ j, j < n → lf j = nI (L j)) (hi : i < n) (hF : 100 < F) : X4_comesFrom F lf (nI (C 0 0 8)) df (nI (C 0 0 2)) xf (nI (C 0 0 3)) hf (nI i) = some (nI (cfB C L i (C 0 0 2))) := by
  have o0 := ok.1
  have n8 := hL.1
  have li := (hL.2.1 i hi).1
  have it1 : iter (X4_comesFrom_b13 F lf (nI (C 0 0 8)) df (nI (C 0 0 2)) xf (nI (C 0 0 3)) hf (nI i) (nI (L i))) F (nI (cfA C L i 0), nI 0) = some (nI (cfA C L i i)) := by
    refine iter_count (b := X4_comesFrom_b13 F lf (nI (C 0 0 8)) df (nI (C 0 0 2)) xf (nI (C 0 0 3)) hf (nI i) (nI (L i))) (fun k => (nI (cfA C L i k), nI k)) i (fun k hk => ?_) ?_ F (by omega)
    · have lk := (hL.2.1 k (by omega)).1
      have ek := ok.2.2.2.1 (L k) lk
      have g := hl k (by omega)
      have ct := c_comesTo (C := C) (c := C 3 (L k) 0) (u := C 3 (L k) 1 + 1) (h := L i) ok hD hH (by omega) li (by omega)
      rw [← hI_s, ← EC_h (show L k < 8 by omega)] at ct
      rw [cfA]
      unfold X4_comesFrom_b13 X4_comesFrom_j69
      cases q : EC C (L i) (L k) with
      | true =>
        rw [q, zb_t] at ct
        simp (disch := omega) only [l_0, l_1, l_2, l_3, l_4, l_5, l_6, l_7, l_8, l_9, l_10, l_11, l_12, l_13, l_14, l_15, l_16, l_17, l_18, l_19, l_20, l_21, l_22, l_23, l_24, l_25, l_26, l_27, l_30, l_31, l_32, l_40, l_48, l_57, l_59, l_60, l_61, l_62, l_64, l_83, l_90, l_97, l_99, l_100, l_108, l_115, l_122, l_123, l_127, l_128, l_131, l_135, l_200, l_255, l_256, l_300, l_487, l_495, l_900, l_999, l_1000, l_1700, l_1792, l_1980, l_2048, l_2475, l_2970, l_3121, l_9999, l_10000, l_11351, l_65536, l_100000, l_1000000, ↓l_m1, l_neg, nI_add, pk_mul, pk_sub, q_leT, q_leF, q_ltT, q_ltF, q_eqT, q_eqF, q_m1e, q_m1e2, q_m1lt, q_m1le, q_m1nl, q_m1nle, q_m1s, q_ix, q_jat, q_jput, q_min1, q_min2, q_max1, q_max2, q_or0, q_0or, q_bs, if_true, if_false, true_and, and_true, false_and, and_false, not_true_eq_false, not_false_eq_true, eq_self, Bool.false_eq_true, q_z0, q_z1, q_get, q_set, q_raise, g, hH (L k), ct, q_shl1, fa_or]
      | false =>
        rw [q, zb_f] at ct
        simp (disch := omega) only [l_0, l_1, l_2, l_3, l_4, l_5, l_6, l_7, l_8, l_9, l_10, l_11, l_12, l_13, l_14, l_15, l_16, l_17, l_18, l_19, l_20, l_21, l_22, l_23, l_24, l_25, l_26, l_27, l_30, l_31, l_32, l_40, l_48, l_57, l_59, l_60, l_61, l_62, l_64, l_83, l_90, l_97, l_99, l_100, l_108, l_115, l_122, l_123, l_127, l_128, l_131, l_135, l_200, l_255, l_256, l_300, l_487, l_495, l_900, l_999, l_1000, l_1700, l_1792, l_1980, l_2048, l_2475, l_2970, l_3121, l_9999, l_10000, l_11351, l_65536, l_100000, l_1000000, ↓l_m1, l_neg, nI_add, pk_mul, pk_sub, q_leT, q_leF, q_ltT, q_ltF, q_eqT, q_eqF, q_m1e, q_m1e2, q_m1lt, q_m1le, q_m1nl, q_m1nle, q_m1s, q_ix, q_jat, q_jput, q_min1, q_min2, q_max1, q_max2, q_or0, q_0or, q_bs, if_true, if_false, true_and, and_true, false_and, and_false, not_true_eq_false, not_false_eq_true, eq_self, Bool.false_eq_true, q_z0, q_z1, q_get, q_set, q_raise, g, hH (L k), ct]
    · unfold X4_comesFrom_b13
      simp (disch := omega) only [l_0, l_1, l_2, l_3, l_4, l_5, l_6, l_7, l_8, l_9, l_10, l_11, l_12, l_13, l_14, l_15, l_16, l_17, l_18, l_19, l_20, l_21, l_22, l_23, l_24, l_25, l_26, l_27, l_30, l_31, l_32, l_40, l_48, l_57, l_59, l_60, l_61, l_62, l_64, l_83, l_90, l_97, l_99, l_100, l_108, l_115, l_122, l_123, l_127, l_128, l_131, l_135, l_200, l_255, l_256, l_300, l_487, l_495, l_900, l_999, l_1000, l_1700, l_1792, l_1980, l_2048, l_2475, l_2970, l_3121, l_9999, l_10000, l_11351, l_65536, l_100000, l_1000000, ↓l_m1, l_neg, nI_add, pk_mul, pk_sub, q_leT, q_leF, q_ltT, q_ltF, q_eqT, q_eqF, q_m1e, q_m1e2, q_m1lt, q_m1le, q_m1nl, q_m1nle, q_m1s, q_ix, q_jat, q_jput, q_min1, q_min2, q_max1, q_max2, q_or0, q_0or, q_bs, if_true, if_false, true_and, and_true, false_and, and_false, not_true_eq_false, not_false_eq_true, eq_self, Bool.false_eq_true, q_z0, q_z1]
  have it2 : iter (X4_comesFrom_b78 F lf (nI (C 0 0 8)) df (nI (C 0 0 2)) xf (nI (C 0 0 3)) hf (nI (L i))) F (nI (cfB C L i 0), nI 0) = some (nI (cfB C L i (C 0 0 2))) := by
    refine iter_count (b := X4_comesFrom_b78 F lf (nI (C 0 0 8)) df (nI (C 0 0 2)) xf (nI (C 0 0 3)) hf (nI (L i))) (fun k => (nI (cfB C L i k), nI k)) (C 0 0 2) (fun x hx => ?_) ?_ F (by omega)
    · have ex := ok.2.2.1 x hx
      have ct := c_comesTo (C := C) (c := C 2 x 0) (u := C 0 0 8 + C 2 x 1) (h := L i) ok hD hH (by omega) li (by omega)
      rw [← EC_x] at ct
      have r1 : X4_stoodAt (nI (C 0 0 8)) (nI (C 0 0 2)) xf (nI x) = some (hI (C 0 0 8 + C 2 x 1)) := by
        have := q_get (n := 35) (w := 5) (c := 1) (f := xf) hx (by omega) (by omega) (by omega)
        rw [hX x 1 hx (by omega)] at this
        unfold X4_stoodAt
        rw [show X7_get 35 5 (nI (C 0 0 2)) xf (nI x) 1 = some (nI (C 2 x 1)) from this, q_bs, nI_add]; rfl
      rw [cfB]
      unfold X4_comesFrom_b78 X4_comesFrom_j126
      cases q : EC C (L i) (8 + x) with
      | true =>
        rw [q, zb_t] at ct
        simp (disch := omega) only [l_0, l_1, l_2, l_3, l_4, l_5, l_6, l_7, l_8, l_9, l_10, l_11, l_12, l_13, l_14, l_15, l_16, l_17, l_18, l_19, l_20, l_21, l_22, l_23, l_24, l_25, l_26, l_27, l_30, l_31, l_32, l_40, l_48, l_57, l_59, l_60, l_61, l_62, l_64, l_83, l_90, l_97, l_99, l_100, l_108, l_115, l_122, l_123, l_127, l_128, l_131, l_135, l_200, l_255, l_256, l_300, l_487, l_495, l_900, l_999, l_1000, l_1700, l_1792, l_1980, l_2048, l_2475, l_2970, l_3121, l_9999, l_10000, l_11351, l_65536, l_100000, l_1000000, ↓l_m1, l_neg, nI_add, pk_mul, pk_sub, q_leT, q_leF, q_ltT, q_ltF, q_eqT, q_eqF, q_m1e, q_m1e2, q_m1lt, q_m1le, q_m1nl, q_m1nle, q_m1s, q_ix, q_jat, q_jput, q_min1, q_min2, q_max1, q_max2, q_or0, q_0or, q_bs, if_true, if_false, true_and, and_true, false_and, and_false, not_true_eq_false, not_false_eq_true, eq_self, Bool.false_eq_true, q_z0, q_z1, q_get, q_set, q_raise, hX x, r1, ct, q_shl1, fa_or]
      | false =>
        rw [q, zb_f] at ct
        simp (disch := omega) only [l_0, l_1, l_2, l_3, l_4, l_5, l_6, l_7, l_8, l_9, l_10, l_11, l_12, l_13, l_14, l_15, l_16, l_17, l_18, l_19, l_20, l_21, l_22, l_23, l_24, l_25, l_26, l_27, l_30, l_31, l_32, l_40, l_48, l_57, l_59, l_60, l_61, l_62, l_64, l_83, l_90, l_97, l_99, l_100, l_108, l_115, l_122, l_123, l_127, l_128, l_131, l_135, l_200, l_255, l_256, l_300, l_487, l_495, l_900, l_999, l_1000, l_1700, l_1792, l_1980, l_2048, l_2475, l_2970, l_3121, l_9999, l_10000, l_11351, l_65536, l_100000, l_1000000, ↓l_m1, l_neg, nI_add, pk_mul, pk_sub, q_leT, q_leF, q_ltT, q_ltF, q_eqT, q_eqF, q_m1e, q_m1e2, q_m1lt, q_m1le, q_m1nl, q_m1nle, q_m1s, q_ix, q_jat, q_jput, q_min1, q_min2, q_max1, q_max2, q_or0, q_0or, q_bs, if_true, if_false, true_and, and_true, false_and, and_false, not_true_eq_false, not_false_eq_true, eq_self, Bool.false_eq_true, q_z0, q_z1, q_get, q_set, q_raise, hX x, r1, ct]
    · unfold X4_comesFrom_b78
      simp (disch := omega) only [l_0, l_1, l_2, l_3, l_4, l_5, l_6, l_7, l_8, l_9, l_10, l_11, l_12, l_13, l_14, l_15, l_16, l_17, l_18, l_19, l_20, l_21, l_22, l_23, l_24, l_25, l_26, l_27, l_30, l_31, l_32, l_40, l_48, l_57, l_59, l_60, l_61, l_62, l_64, l_83, l_90, l_97, l_99, l_100, l_108, l_115, l_122, l_123, l_127, l_128, l_131, l_135, l_200, l_255, l_256, l_300, l_487, l_495, l_900, l_999, l_1000, l_1700, l_1792, l_1980, l_2048, l_2475, l_2970, l_3121, l_9999, l_10000, l_11351, l_65536, l_100000, l_1000000, ↓l_m1, l_neg, nI_add, pk_mul, pk_sub, q_leT, q_leF, q_ltT, q_ltF, q_eqT, q_eqF, q_m1e, q_m1e2, q_m1lt, q_m1le, q_m1nl, q_m1nle, q_m1s, q_ix, q_jat, q_jput, q_min1, q_min2, q_max1, q_max2, q_or0, q_0or, q_bs, if_true, if_false, true_and, and_true, false_and, and_false, not_true_eq_false, not_false_eq_true, eq_self, Bool.false_eq_true, q_z0, q_z1]
  have g := hl i hi
  unfold X4_comesFrom
  simp (disch := omega) only [l_0, l_1, l_2, l_3, l_4, l_5, l_6, l_7, l_8, l_9, l_10, l_11, l_12, l_13, l_14, l_15, l_16, l_17, l_18, l_19, l_20, l_21, l_22, l_23, l_24, l_25, l_26, l_27, l_30, l_31, l_32, l_40, l_48, l_57, l_59, l_60, l_61, l_62, l_64, l_83, l_90, l_97, l_99, l_100, l_108, l_115, l_122, l_123, l_127, l_128, l_131, l_135, l_200, l_255, l_256, l_300, l_487, l_495, l_900, l_999, l_1000, l_1700, l_1792, l_1980, l_2048, l_2475, l_2970, l_3121, l_9999, l_10000, l_11351, l_65536, l_100000, l_1000000, ↓l_m1, l_neg, nI_add, pk_mul, pk_sub, q_leT, q_leF, q_ltT, q_ltF, q_eqT, q_eqF, q_m1e, q_m1e2, q_m1lt, q_m1le, q_m1nl, q_m1nle, q_m1s, q_ix, q_jat, q_jput, q_min1, q_min2, q_max1, q_max2, q_or0, q_0or, q_bs, if_true, if_false, true_and, and_true, false_and, and_false, not_true_eq_false, not_false_eq_true, eq_self, Bool.false_eq_true, q_z0, q_z1, g]
  rw [show (nI 0, nI 0) = (nI (cfA C L i 0), nI 0) from rfl, it1, q_bs, show nI (cfA C L i i) = nI (cfB C L i 0) from rfl, it2]; rfl
/-! sets: the lowest bit -/
def lb (s : Nat) : Nat := fa_first s.testBit 8
theorem lb_all : ∀ s, s < 256 → 0 < s → lb s < 8 ∧ s.testBit (lb s) = true ∧ 2 ^ lb s ≤ s ∧ (nI s &&& -(nI s)) = nI (2 ^ lb s) := by decide +kernel
theorem lb_rest : ∀ s, s < 256 → 0 < s → ∀ k, k < 8 → (s - 2 ^ lb s).testBit k = (s.testBit k && !decide (k = lb s)) := by decide +kernel
theorem pow_inj {a b : Nat} (h : 2 ^ a = 2 ^ b) : a = b := by
  have : (2 ^ a).testBit b = true := by rw [h, Nat.testBit_two_pow]; exact decide_eq_true rfl
  rw [Nat.testBit_two_pow] at this; exact of_decide_eq_true this
theorem sub_iff {s d : Nat} : sub s d = true ↔ ∀ k, s.testBit k = true → d.testBit k = true := by
  unfold sub
  rw [decide_eq_true_eq]
  constructor
  · intro h k hk
    rw [← h, Nat.testBit_and, Bool.and_eq_true] at hk; exact hk.2
  · intro h
    refine Nat.eq_of_testBit_eq (fun k => ?_)
    rw [Nat.testBit_and]
    cases q : s.testBit k with
    | false => rfl
    | true => rw [h k q]; rfl
theorem open_bit {C : Cy} {n h : Nat} {L : Nat → Nat} (hL : LineOK C (C 0 0 3) n L) : (openS C).testBit h = true ↔ ∃ j, j < n ∧ L j = h := by
  unfold openS
  rw [setOf_bit, Bool.and_eq_true]
  constructor
  · rintro ⟨h1, h2⟩; exact hL.2.2.2 h (of_decide_eq_true h1) h2
  · rintro ⟨j, h1, rfl⟩
    have := hL.2.1 j h1
    exact ⟨decide_eq_true this.1, this.2⟩
theorem L8 {C : Cy} {n : Nat} {L : Nat → Nat} (ok : Ok C) (hL : LineOK C (C 0 0 3) n L) : ∀ j, j < n → L j < 8 := fun j hj => by
  have := (hL.2.1 j hj).1; have := ok.1; omega
def posOf (L : Nat → Nat) (n h : Nat) : Nat := fa_first (fun j => decide (L j = h)) n
theorem posOf_L {C : Cy} {n j : Nat} {L : Nat → Nat} (hL : LineOK C (C 0 0 3) n L) (hj : j < n) : posOf L n (L j) = j := by
  have a : posOf L n (L j) ≤ j := by
    refine Nat.not_lt.mp fun z => ?_
    have := fa_first_no _ n j z
    rw [decide_eq_true rfl] at this; cases this
  have b := fa_first_yes (fun k => decide (L k = L j)) n (show posOf L n (L j) < n by omega)
  exact L_inj hL (by unfold posOf at a ⊢; omega) hj (of_decide_eq_true b)
/-- what comes from where, happening by happening -/
def EB (C : Cy) (L : Nat → Nat) (n h r : Nat) : Bool := (cfB C L (posOf L n h) (C 0 0 2)).testBit r
def rv (f : Nat → Int32) (s : Nat) : Nat := (f s).toBitVec.toNat
theorem rv_e (f : Nat → Int32) (s : Nat) : f s = nI (rv f s) := nI_any _
theorem rv_of {f : Nat → Int32} {s v : Nat} (h : f s = nI v) (hv : v < 2 ^ 31) : rv f s = v := by
  unfold rv; rw [h, pk_tn (by omega)]
def RI (C : Cy) (L : Nat → Nat) (n b : Nat) (f : Nat → Int32) : Prop := ∀ s, s < b → sub s (openS C) = true → rv f s < 2 ^ 15 ∧ ∀ r, (rv f s).testBit r = anyB (fun h => s.testBit h && EB C L n h r) 8
theorem c_gather {F : Nat} {C : Cy} {df xf hf lf f0 : Nat → Int32} {n : Nat} {L : Nat → Nat} (op : Int32) (ok : Ok C) (hD : CF C df) (hX : CX C xf) (hH : CH C hf) (hL : LineOK C (C 0 0 3) n L) (hl : ∀ j, j < n → lf j = nI (L j)) (hop : op = nI (openS C)) (hF : 2000 < F) :
    ∃ f2, X4_gatherReached F (nI n) op lf f0 (nI (C 0 0 8)) df (nI (C 0 0 2)) xf (nI (C 0 0 3)) hf = some f2 ∧ RI C L n (openS C + 1) f2 := by
  subst hop
  have o0 := ok.1
  have n8 := hL.1
  have p8 := pow_nH ok
  have h8 := L8 ok hL
  have ol : openS C < 2 ^ C 0 0 3 := setOf_lt _ _
  obtain ⟨f1, h1, h2, h3⟩ := it_rel (b := X4_gatherReached_b9 F (nI n) (nI (openS C)) lf (nI (C 0 0 8)) df (nI (C 0 0 2)) xf (nI (C 0 0 3)) hf) n
    (fun i s => ∃ f, s = (nI i, f) ∧ f 0 = nI 0 ∧ ∀ j, j < i → f (2 ^ L j) = nI (cfB C L j (C 0 0 2)))
    (fun f => f 0 = nI 0 ∧ ∀ j, j < n → f (2 ^ L j) = nI (cfB C L j (C 0 0 2))) (fun i s hi hs => by
      obtain ⟨f, rfl, z0, z1⟩ := hs
      have cf := c_from (F := F) ok hD hX hH hL hl hi (by omega)
      have g := hl i hi
      have l8 := h8 i hi
      have pl : 2 ^ L i < 2 ^ 8 := Nat.pow_lt_pow_right (by omega) l8
      have pp := Nat.two_pow_pos (L i)
      refine Or.inl ⟨(nI (i + 1), upd f (2 ^ L i) (nI (cfB C L i (C 0 0 2)))), ?_, _, rfl, ?_, fun j hj => ?_⟩
      · unfold X4_gatherReached_b9
        simp (disch := omega) only [l_0, l_1, l_2, l_3, l_4, l_5, l_6, l_7, l_8, l_9, l_10, l_11, l_12, l_13, l_14, l_15, l_16, l_17, l_18, l_19, l_20, l_21, l_22, l_23, l_24, l_25, l_26, l_27, l_30, l_31, l_32, l_40, l_48, l_57, l_59, l_60, l_61, l_62, l_64, l_83, l_90, l_97, l_99, l_100, l_108, l_115, l_122, l_123, l_127, l_128, l_131, l_135, l_200, l_255, l_256, l_300, l_487, l_495, l_900, l_999, l_1000, l_1700, l_1792, l_1980, l_2048, l_2475, l_2970, l_3121, l_9999, l_10000, l_11351, l_65536, l_100000, l_1000000, ↓l_m1, l_neg, nI_add, pk_mul, pk_sub, q_leT, q_leF, q_ltT, q_ltF, q_eqT, q_eqF, q_m1e, q_m1e2, q_m1lt, q_m1le, q_m1nl, q_m1nle, q_m1s, q_ix, q_jat, q_jput, q_min1, q_min2, q_max1, q_max2, q_or0, q_0or, q_bs, if_true, if_false, true_and, and_true, false_and, and_false, not_true_eq_false, not_false_eq_true, eq_self, Bool.false_eq_true, q_z0, q_z1, g, cf, q_shl1]
      · rw [pk_un (by omega)]; exact z0
      · by_cases e : j = i
        · rw [e, pk_us]
        · rw [pk_un (fun y => e (L_inj hL (by omega) hi (pow_inj y)))]; exact z1 j (by omega)) (fun s hs => by
      obtain ⟨f, rfl, z0, z1⟩ := hs
      refine ⟨f, ?_, z0, z1⟩
      unfold X4_gatherReached_b9
      simp (disch := omega) only [l_0, l_1, l_2, l_3, l_4, l_5, l_6, l_7, l_8, l_9, l_10, l_11, l_12, l_13, l_14, l_15, l_16, l_17, l_18, l_19, l_20, l_21, l_22, l_23, l_24, l_25, l_26, l_27, l_30, l_31, l_32, l_40, l_48, l_57, l_59, l_60, l_61, l_62, l_64, l_83, l_90, l_97, l_99, l_100, l_108, l_115, l_122, l_123, l_127, l_128, l_131, l_135, l_200, l_255, l_256, l_300, l_487, l_495, l_900, l_999, l_1000, l_1700, l_1792, l_1980, l_2048, l_2475, l_2970, l_3121, l_9999, l_10000, l_11351, l_65536, l_100000, l_1000000, ↓l_m1, l_neg, nI_add, pk_mul, pk_sub, q_leT, q_leF, q_ltT, q_ltF, q_eqT, q_eqF, q_m1e, q_m1e2, q_m1lt, q_m1le, q_m1nl, q_m1nle, q_m1s, q_ix, q_jat, q_jput, q_min1, q_min2, q_max1, q_max2, q_or0, q_0or, q_bs, if_true, if_false, true_and, and_true, false_and, and_false, not_true_eq_false, not_false_eq_true, eq_self, Bool.false_eq_true, q_z0, q_z1]) (s0 := (nI 0, upd f0 0 (nI 0))) ⟨_, rfl, pk_us, fun j hj => by omega⟩ (show n < F by omega)
  obtain ⟨f2, k1, k2⟩ := it_rel (b := X4_gatherReached_b44 F (nI n) (nI (openS C)) lf (nI (C 0 0 8)) df (nI (C 0 0 2)) xf (nI (C 0 0 3)) hf) (openS C)
    (fun i s => ∃ f, s = (nI (1 + i), f) ∧ (∀ j, j < n → f (2 ^ L j) = nI (cfB C L j (C 0 0 2))) ∧ RI C L n (1 + i) f)
    (fun f => RI C L n (openS C + 1) f) (fun i s hi hs => by
      obtain ⟨f, rfl, z1, z2⟩ := hs
      unfold X4_gatherReached_b44 X4_gatherReached_j89
      have a1 := lb_all (1 + i) (by omega) (by omega)
      have a2 := lb_rest (1 + i) (by omega) (by omega)
      cases q : sub (1 + i) (openS C) with
      | false =>
        refine Or.inl ⟨(nI (1 + (i + 1)), f), ?_, f, rfl, z1, fun s hs hsub => ?_⟩
        · simp (disch := omega) only [l_0, l_1, l_2, l_3, l_4, l_5, l_6, l_7, l_8, l_9, l_10, l_11, l_12, l_13, l_14, l_15, l_16, l_17, l_18, l_19, l_20, l_21, l_22, l_23, l_24, l_25, l_26, l_27, l_30, l_31, l_32, l_40, l_48, l_57, l_59, l_60, l_61, l_62, l_64, l_83, l_90, l_97, l_99, l_100, l_108, l_115, l_122, l_123, l_127, l_128, l_131, l_135, l_200, l_255, l_256, l_300, l_487, l_495, l_900, l_999, l_1000, l_1700, l_1792, l_1980, l_2048, l_2475, l_2970, l_3121, l_9999, l_10000, l_11351, l_65536, l_100000, l_1000000, ↓l_m1, l_neg, nI_add, pk_mul, pk_sub, q_leT, q_leF, q_ltT, q_ltF, q_eqT, q_eqF, q_m1e, q_m1e2, q_m1lt, q_m1le, q_m1nl, q_m1nle, q_m1s, q_ix, q_jat, q_jput, q_min1, q_min2, q_max1, q_max2, q_or0, q_0or, q_bs, if_true, if_false, true_and, and_true, false_and, and_false, not_true_eq_false, not_false_eq_true, eq_self, Bool.false_eq_true, q_z0, q_z1, q_subF q, Nat.add_assoc]
        · by_cases e : s = 1 + i
          · rw [e, q] at hsub; cases hsub
          · exact z2 s (by omega) hsub
      | true =>
        have q' := sub_iff.mp q
        obtain ⟨j, hj, hb⟩ := (open_bit hL).mp (q' _ a1.2.1)
        have c1 := z1 j hj
        rw [hb] at c1
        have cl := cfB_lt (C := C) h8 hj (C 0 0 2) (by omega)
        have pp := Nat.two_pow_pos (lb (1 + i))
        have rs : sub (1 + i - 2 ^ lb (1 + i)) (openS C) = true := sub_iff.mpr (fun k hk => by
          by_cases e : k < 8
          · rw [a2 k e, Bool.and_eq_true] at hk; exact q' k hk.1
          · have : 1 + i - 2 ^ lb (1 + i) < 2 ^ 8 := by omega
            rw [lt_bit this (by omega)] at hk; cases hk)
        obtain ⟨v1, v2⟩ := z2 (1 + i - 2 ^ lb (1 + i)) (by omega) rs
        have c2 := rv_e f (1 + i - 2 ^ lb (1 + i))
        have nl : cfB C L j (C 0 0 2) ||| rv f (1 + i - 2 ^ lb (1 + i)) < 2 ^ 15 := Nat.or_lt_two_pow cl v1
        have nb : ∀ r, (cfB C L j (C 0 0 2) ||| rv f (1 + i - 2 ^ lb (1 + i))).testBit r = anyB (fun h => (1 + i).testBit h && EB C L n h r) 8 := fun r => by
          rw [Nat.testBit_or, v2 r, Bool.eq_iff_iff, Bool.or_eq_true, anyB_t, anyB_t]
          have ej : EB C L n (lb (1 + i)) r = (cfB C L j (C 0 0 2)).testBit r := by unfold EB; rw [← hb, posOf_L hL hj]
          constructor
          · rintro (z | ⟨h, y1, y2⟩)
            · exact ⟨lb (1 + i), a1.1, by rw [a1.2.1, ej, z]; rfl⟩
            · rw [a2 h y1, Bool.and_eq_true, Bool.and_eq_true] at y2
              exact ⟨h, y1, by rw [y2.1.1, y2.2]; rfl⟩
          · rintro ⟨h, y1, y2⟩
            rw [Bool.and_eq_true] at y2
            by_cases e : h = lb (1 + i)
            · left; rw [← ej, ← e]; exact y2.2
            · right; exact ⟨h, y1, by rw [a2 h y1, y2.1, decide_eq_false e, y2.2]; rfl⟩
        refine Or.inl ⟨(nI (1 + (i + 1)), upd f (1 + i) (nI (cfB C L j (C 0 0 2) ||| rv f (1 + i - 2 ^ lb (1 + i))))), ?_, _, rfl, fun k hk => ?_, fun s hs hsub => ?_⟩
        · have a14 := a1.2.2.2
          have a13 := a1.2.2.1
          simp (disch := omega) only [l_0, l_1, l_2, l_3, l_4, l_5, l_6, l_7, l_8, l_9, l_10, l_11, l_12, l_13, l_14, l_15, l_16, l_17, l_18, l_19, l_20, l_21, l_22, l_23, l_24, l_25, l_26, l_27, l_30, l_31, l_32, l_40, l_48, l_57, l_59, l_60, l_61, l_62, l_64, l_83, l_90, l_97, l_99, l_100, l_108, l_115, l_122, l_123, l_127, l_128, l_131, l_135, l_200, l_255, l_256, l_300, l_487, l_495, l_900, l_999, l_1000, l_1700, l_1792, l_1980, l_2048, l_2475, l_2970, l_3121, l_9999, l_10000, l_11351, l_65536, l_100000, l_1000000, ↓l_m1, l_neg, nI_add, pk_mul, pk_sub, q_leT, q_leF, q_ltT, q_ltF, q_eqT, q_eqF, q_m1e, q_m1e2, q_m1lt, q_m1le, q_m1nl, q_m1nle, q_m1s, q_ix, q_jat, q_jput, q_min1, q_min2, q_max1, q_max2, q_or0, q_0or, q_bs, if_true, if_false, true_and, and_true, false_and, and_false, not_true_eq_false, not_false_eq_true, eq_self, Bool.false_eq_true, q_z0, q_z1, q_subT q, a14, c1, c2, fa_or, Nat.add_assoc]
        · by_cases e : 2 ^ L k = 1 + i
          · rw [e, pk_us]
            have lk : L k = lb (1 + i) := by
              have := a1.2.1
              rw [← e, Nat.testBit_two_pow] at this
              have := of_decide_eq_true this
              rw [e] at this; exact this
            have jk : k = j := L_inj hL hk hj (by rw [lk, hb])
            have z : 1 + i - 2 ^ lb (1 + i) = 0 := by rw [← lk, e]; omega
            have y : rv f (1 + i - 2 ^ lb (1 + i)) = 0 := Nat.eq_of_testBit_eq (fun r => by
              rw [v2 r, Nat.zero_testBit, z]
              exact anyB_f (fun h _ => by rw [Nat.zero_testBit]; rfl))
            rw [y, Nat.or_zero, jk]
          · rw [pk_un e]; exact z1 k hk
        · by_cases e : s = 1 + i
          · have rr : rv (upd f (1 + i) (nI (cfB C L j (C 0 0 2) ||| rv f (1 + i - 2 ^ lb (1 + i))))) (1 + i) = cfB C L j (C 0 0 2) ||| rv f (1 + i - 2 ^ lb (1 + i)) := rv_of (pk_us) (by omega)
            rw [e, rr]; exact ⟨nl, nb⟩
          · have rr : rv (upd f (1 + i) (nI (cfB C L j (C 0 0 2) ||| rv f (1 + i - 2 ^ lb (1 + i))))) s = rv f s := by unfold rv; rw [pk_un e]
            rw [rr]; exact z2 s (by omega) hsub) (fun s hs => by
      obtain ⟨f, rfl, z1, z2⟩ := hs
      refine ⟨f, ?_, by rw [Nat.add_comm]; exact z2⟩
      unfold X4_gatherReached_b44
      simp (disch := omega) only [l_0, l_1, l_2, l_3, l_4, l_5, l_6, l_7, l_8, l_9, l_10, l_11, l_12, l_13, l_14, l_15, l_16, l_17, l_18, l_19, l_20, l_21, l_22, l_23, l_24, l_25, l_26, l_27, l_30, l_31, l_32, l_40, l_48, l_57, l_59, l_60, l_61, l_62, l_64, l_83, l_90, l_97, l_99, l_100, l_108, l_115, l_122, l_123, l_127, l_128, l_131, l_135, l_200, l_255, l_256, l_300, l_487, l_495, l_900, l_999, l_1000, l_1700, l_1792, l_1980, l_2048, l_2475, l_2970, l_3121, l_9999, l_10000, l_11351, l_65536, l_100000, l_1000000, ↓l_m1, l_neg, nI_add, pk_mul, pk_sub, q_leT, q_leF, q_ltT, q_ltF, q_eqT, q_eqF, q_m1e, q_m1e2, q_m1lt, q_m1le, q_m1nl, q_m1nle, q_m1s, q_ix, q_jat, q_jput, q_min1, q_min2, q_max1, q_max2, q_or0, q_0or, q_bs, if_true, if_false, true_and, and_true, false_and, and_false, not_true_eq_false, not_false_eq_true, eq_self, Bool.false_eq_true, q_z0, q_z1]) (s0 := (nI (1 + 0), f1)) ⟨f1, rfl, h3, fun s hs _ => by
        have e : s = 0 := by omega
        subst e
        have r0 : rv f1 0 = 0 := rv_of h2 (by omega)
        rw [r0]
        exact ⟨by decide, fun r => by rw [Nat.zero_testBit]; exact (anyB_f (fun h _ => by rw [Nat.zero_testBit]; rfl)).symm⟩⟩ (show openS C < F by omega)
  refine ⟨f2, ?_, k2⟩
  unfold X4_gatherReached
  rw [if_pos (show ix 0 256 = true by decide), show ((0 : Int32), jput f0 0 0) = (nI 0, upd f0 0 (nI 0)) from rfl, h1, q_bs, show ((1 : Int32), f1) = (nI (1 + 0), f1) from rfl, k1, q_bs]
def HC (f : Nat → Int32) (op fr t : Nat) : Bool := !sub t op || decide (popc t ≤ popc (rv f t &&& fr))
theorem it_all1 {b : Int32 → Option (Int32 ⊕ (Unit ⊕ Unit))} (p : Nat → Bool) (n : Nat) (hs : ∀ i, i < n → b (nI (1 + i)) = if p (1 + i) then some (.inl (nI (1 + (i + 1)))) else some (.inr (.inl ()))) (he : b (nI (1 + n)) = some (.inr (.inr ()))) {F : Nat} (hF : n < F) : iter b F 1 = some (if allB (fun i => p (1 + i)) n then .inr () else .inl ()) := by
  have := it_rel (b := b) n (fun i s => s = nI (1 + i) ∧ allB (fun i => p (1 + i)) i = true) (fun e => e = if allB (fun i => p (1 + i)) n then .inr () else .inl ()) ?_ ?_ (s0 := 1) ⟨rfl, rfl⟩ hF
  · obtain ⟨e, h1, h2⟩ := this; rw [h1, h2]
  · rintro i s hi ⟨rfl, hp⟩
    cases h : p (1 + i) with
    | true => exact Or.inl ⟨nI (1 + (i + 1)), by rw [hs i hi, h]; rfl, rfl, by rw [allB, hp, h]; rfl⟩
    | false => exact Or.inr ⟨.inl (), by rw [hs i hi, h]; rfl, by rw [allB_no (p := fun i => p (1 + i)) hi h]; rfl⟩
  · rintro s ⟨rfl, hp⟩
    exact ⟨.inr (), he, by rw [hp]; rfl⟩
theorem shl8 : ∀ t, t < 128 → jshl (nI t) (nI 8) = nI (2 ^ 8 * t) := by decide +kernel
theorem c_enough {F : Nat} {C : Cy} {f : Nat → Int32} {n t : Nat} {L : Nat → Nat} (ok : Ok C) (hR : RI C L n (openS C + 1) f) (ht : t < 128) (hF : 2000 < F) : X4_isEnough F (nI (openS C)) f (nI t) = some (zb (allB (fun i => HC f (openS C) (2 ^ 8 * t ||| openS C) (1 + i)) (openS C))) := by
  have p8 := pow_nH ok
  have ol : openS C < 2 ^ C 0 0 3 := setOf_lt _ _
  have fl : 2 ^ 8 * t ||| openS C < 2 ^ 15 := Nat.or_lt_two_pow (by omega) (by omega)
  have it : iter (X4_isEnough_b12 F (nI (openS C)) f (nI (2 ^ 8 * t ||| openS C))) F 1 = some (if allB (fun i => HC f (openS C) (2 ^ 8 * t ||| openS C) (1 + i)) (openS C) then .inr () else .inl ()) := by
    refine it_all1 (HC f (openS C) (2 ^ 8 * t ||| openS C)) (openS C) (fun i hi => ?_) ?_ (by omega)
    · unfold X4_isEnough_b12 X4_isEnough_j51
      cases q : sub (1 + i) (openS C) with
      | false =>
        have h : HC f (openS C) (2 ^ 8 * t ||| openS C) (1 + i) = true := by unfold HC; rw [q]; rfl
        simp (disch := omega) only [l_0, l_1, l_2, l_3, l_4, l_5, l_6, l_7, l_8, l_9, l_10, l_11, l_12, l_13, l_14, l_15, l_16, l_17, l_18, l_19, l_20, l_21, l_22, l_23, l_24, l_25, l_26, l_27, l_30, l_31, l_32, l_40, l_48, l_57, l_59, l_60, l_61, l_62, l_64, l_83, l_90, l_97, l_99, l_100, l_108, l_115, l_122, l_123, l_127, l_128, l_131, l_135, l_200, l_255, l_256, l_300, l_487, l_495, l_900, l_999, l_1000, l_1700, l_1792, l_1980, l_2048, l_2475, l_2970, l_3121, l_9999, l_10000, l_11351, l_65536, l_100000, l_1000000, ↓l_m1, l_neg, nI_add, pk_mul, pk_sub, q_leT, q_leF, q_ltT, q_ltF, q_eqT, q_eqF, q_m1e, q_m1e2, q_m1lt, q_m1le, q_m1nl, q_m1nle, q_m1s, q_ix, q_jat, q_jput, q_min1, q_min2, q_max1, q_max2, q_or0, q_0or, q_bs, if_true, if_false, true_and, and_true, false_and, and_false, not_true_eq_false, not_false_eq_true, eq_self, Bool.false_eq_true, q_z0, q_z1, q_subF q, h, Nat.add_assoc]
      | true =>
        have r := (hR (1 + i) (by omega) q).1
        have e := rv_e f (1 + i)
        have al : rv f (1 + i) &&& (2 ^ 8 * t ||| openS C) < 2 ^ 15 := Nat.lt_of_le_of_lt Nat.and_le_left r
        have q1 := q_popc (n := 1 + i) (by omega)
        have q2 := q_popc (n := rv f (1 + i) &&& (2 ^ 8 * t ||| openS C)) (by omega)
        have pl1 := popc_le (1 + i)
        have pl2 := popc_le (rv f (1 + i) &&& (2 ^ 8 * t ||| openS C))
        by_cases z : popc (1 + i) ≤ popc (rv f (1 + i) &&& (2 ^ 8 * t ||| openS C))
        · have h : HC f (openS C) (2 ^ 8 * t ||| openS C) (1 + i) = true := by unfold HC; rw [decide_eq_true z, Bool.or_true]
          simp (disch := omega) only [l_0, l_1, l_2, l_3, l_4, l_5, l_6, l_7, l_8, l_9, l_10, l_11, l_12, l_13, l_14, l_15, l_16, l_17, l_18, l_19, l_20, l_21, l_22, l_23, l_24, l_25, l_26, l_27, l_30, l_31, l_32, l_40, l_48, l_57, l_59, l_60, l_61, l_62, l_64, l_83, l_90, l_97, l_99, l_100, l_108, l_115, l_122, l_123, l_127, l_128, l_131, l_135, l_200, l_255, l_256, l_300, l_487, l_495, l_900, l_999, l_1000, l_1700, l_1792, l_1980, l_2048, l_2475, l_2970, l_3121, l_9999, l_10000, l_11351, l_65536, l_100000, l_1000000, ↓l_m1, l_neg, nI_add, pk_mul, pk_sub, q_leT, q_leF, q_ltT, q_ltF, q_eqT, q_eqF, q_m1e, q_m1e2, q_m1lt, q_m1le, q_m1nl, q_m1nle, q_m1s, q_ix, q_jat, q_jput, q_min1, q_min2, q_max1, q_max2, q_or0, q_0or, q_bs, if_true, if_false, true_and, and_true, false_and, and_false, not_true_eq_false, not_false_eq_true, eq_self, Bool.false_eq_true, q_z0, q_z1, q_subT q, e, fa_and, q1, q2, h, Nat.add_assoc]
        · have h : HC f (openS C) (2 ^ 8 * t ||| openS C) (1 + i) = false := by unfold HC; rw [decide_eq_false z, q]; rfl
          simp (disch := omega) only [l_0, l_1, l_2, l_3, l_4, l_5, l_6, l_7, l_8, l_9, l_10, l_11, l_12, l_13, l_14, l_15, l_16, l_17, l_18, l_19, l_20, l_21, l_22, l_23, l_24, l_25, l_26, l_27, l_30, l_31, l_32, l_40, l_48, l_57, l_59, l_60, l_61, l_62, l_64, l_83, l_90, l_97, l_99, l_100, l_108, l_115, l_122, l_123, l_127, l_128, l_131, l_135, l_200, l_255, l_256, l_300, l_487, l_495, l_900, l_999, l_1000, l_1700, l_1792, l_1980, l_2048, l_2475, l_2970, l_3121, l_9999, l_10000, l_11351, l_65536, l_100000, l_1000000, ↓l_m1, l_neg, nI_add, pk_mul, pk_sub, q_leT, q_leF, q_ltT, q_ltF, q_eqT, q_eqF, q_m1e, q_m1e2, q_m1lt, q_m1le, q_m1nl, q_m1nle, q_m1s, q_ix, q_jat, q_jput, q_min1, q_min2, q_max1, q_max2, q_or0, q_0or, q_bs, if_true, if_false, true_and, and_true, false_and, and_false, not_true_eq_false, not_false_eq_true, eq_self, Bool.false_eq_true, q_z0, q_z1, q_subT q, e, fa_and, q1, q2, h]
    · unfold X4_isEnough_b12
      simp (disch := omega) only [l_0, l_1, l_2, l_3, l_4, l_5, l_6, l_7, l_8, l_9, l_10, l_11, l_12, l_13, l_14, l_15, l_16, l_17, l_18, l_19, l_20, l_21, l_22, l_23, l_24, l_25, l_26, l_27, l_30, l_31, l_32, l_40, l_48, l_57, l_59, l_60, l_61, l_62, l_64, l_83, l_90, l_97, l_99, l_100, l_108, l_115, l_122, l_123, l_127, l_128, l_131, l_135, l_200, l_255, l_256, l_300, l_487, l_495, l_900, l_999, l_1000, l_1700, l_1792, l_1980, l_2048, l_2475, l_2970, l_3121, l_9999, l_10000, l_11351, l_65536, l_100000, l_1000000, ↓l_m1, l_neg, nI_add, pk_mul, pk_sub, q_leT, q_leF, q_ltT, q_ltF, q_eqT, q_eqF, q_m1e, q_m1e2, q_m1lt, q_m1le, q_m1nl, q_m1nle, q_m1s, q_ix, q_jat, q_jput, q_min1, q_min2, q_max1, q_max2, q_or0, q_0or, q_bs, if_true, if_false, true_and, and_true, false_and, and_false, not_true_eq_false, not_false_eq_true, eq_self, Bool.false_eq_true, q_z0, q_z1]
  unfold X4_isEnough
  rw [show (8 : Int32) = nI 8 from rfl, shl8 t ht, fa_or, it, q_bs]
  cases allB (fun i => HC f (openS C) (2 ^ 8 * t ||| openS C) (1 + i)) (openS C) <;> rfl
/-- the smallest team that is enough, of several the least -/
def smT (P : Nat → Bool) : Nat → Option Nat
  | 0 => none
  | t + 1 => match smT P t with
    | none => if P t then some t else none
    | some b => if decide (popc t < popc b) && P t then some t else some b
theorem smT_lt {P : Nat → Bool} : ∀ {n b : Nat}, smT P n = some b → b < n
  | 0, b, h => by cases h
  | n + 1, b, h => by
    rw [smT] at h
    cases q : smT P n with
    | none =>
      rw [q] at h
      simp only at h
      by_cases z : P n = true
      · rw [if_pos z] at h; cases h; omega
      · rw [if_neg z] at h; cases h
    | some c =>
      rw [q] at h
      simp only at h
      have := smT_lt q
      by_cases z : (decide (popc n < popc c) && P n) = true
      · rw [if_pos z] at h; cases h; omega
      · rw [if_neg z] at h; cases h; omega
theorem smT_cong {P Q : Nat → Bool} : ∀ {n : Nat}, (∀ t, t < n → P t = Q t) → smT P n = smT Q n
  | 0, _ => rfl
  | n + 1, h => by rw [smT, smT, smT_cong (fun t ht => h t (by omega)), h n (by omega)]
theorem smT_n {P : Nat → Bool} {t : Nat} (h : smT P t = none) : smT P (t + 1) = if P t then some t else none := by rw [smT, h]
theorem smT_s {P : Nat → Bool} {t b : Nat} (h : smT P t = some b) : smT P (t + 1) = if decide (popc t < popc b) && P t then some t else some b := by rw [smT, h]
theorem pow_nE {C : Cy} (ok : Ok C) : 2 ^ C 0 0 2 ≤ 128 := Nat.pow_le_pow_right (n := 2) (by omega) (show C 0 0 2 ≤ 7 by have := ok.1; omega)
theorem c_team {F : Nat} {C : Cy} {df xf hf lf f0 : Nat → Int32} {n : Nat} {L : Nat → Nat} (ok : Ok C) (hD : CF C df) (hX : CX C xf) (hH : CH C hf) (hL : LineOK C (C 0 0 3) n L) (hl : ∀ j, j < n → lf j = nI (L j)) (hF : 2000 < F) :
    ∃ f2, X4_smallestTeam F (nI n) (nI (openS C)) lf f0 (nI (C 0 0 8)) df (nI (C 0 0 2)) xf (nI (C 0 0 3)) hf = some (oI (smT (fun t => allB (fun i => HC f2 (openS C) (2 ^ 8 * t ||| openS C) (1 + i)) (openS C)) (2 ^ C 0 0 2)), f2) ∧ RI C L n (openS C + 1) f2 := by
  have o0 := ok.1
  have p7 := pow_nE ok
  obtain ⟨f2, g1, g2⟩ := c_gather (F := F) (f0 := f0) (nI (openS C)) ok hD hX hH hL hl rfl hF
  refine ⟨f2, ?_, g2⟩
  unfold X4_smallestTeam
  rw [g1, q_bs]
  have en : ∀ t, t < 128 → X4_isEnough F (nI (openS C)) f2 (nI t) = some (zb (allB (fun i => HC f2 (openS C) (2 ^ 8 * t ||| openS C) (1 + i)) (openS C))) := fun t ht => c_enough ok g2 ht hF
  generalize hP : (fun t => allB (fun i => HC f2 (openS C) (2 ^ 8 * t ||| openS C) (1 + i)) (openS C)) = P
  have en' : ∀ t, t < 128 → X4_isEnough F (nI (openS C)) f2 (nI t) = some (zb (P t)) := fun t ht => by rw [en t ht, ← hP]
  have it : iter (X4_smallestTeam_b9 F (nI n) (nI (openS C)) lf f2 (nI (C 0 0 8)) df (nI (C 0 0 2)) xf (nI (C 0 0 3)) hf) F (oI (smT P 0), nI 0) = some (oI (smT P (2 ^ C 0 0 2))) := by
    refine iter_count (b := X4_smallestTeam_b9 F (nI n) (nI (openS C)) lf f2 (nI (C 0 0 8)) df (nI (C 0 0 2)) xf (nI (C 0 0 3)) hf) (fun t => (oI (smT P t), nI t)) (2 ^ C 0 0 2) (fun t ht => ?_) ?_ F (by omega)
    · have e1 := en' t (by omega)
      unfold X4_smallestTeam_b9 X4_smallestTeam_j38 X4_smallestTeam_j43 X4_smallestTeam_j60
      cases q : smT P t with
      | none =>
        rw [smT_n q, oI_n]
        cases z : P t with
        | true => rw [z, zb_t] at e1; simp (disch := omega) only [l_0, l_1, l_2, l_3, l_4, l_5, l_6, l_7, l_8, l_9, l_10, l_11, l_12, l_13, l_14, l_15, l_16, l_17, l_18, l_19, l_20, l_21, l_22, l_23, l_24, l_25, l_26, l_27, l_30, l_31, l_32, l_40, l_48, l_57, l_59, l_60, l_61, l_62, l_64, l_83, l_90, l_97, l_99, l_100, l_108, l_115, l_122, l_123, l_127, l_128, l_131, l_135, l_200, l_255, l_256, l_300, l_487, l_495, l_900, l_999, l_1000, l_1700, l_1792, l_1980, l_2048, l_2475, l_2970, l_3121, l_9999, l_10000, l_11351, l_65536, l_100000, l_1000000, ↓l_m1, l_neg, nI_add, pk_mul, pk_sub, q_leT, q_leF, q_ltT, q_ltF, q_eqT, q_eqF, q_m1e, q_m1e2, q_m1lt, q_m1le, q_m1nl, q_m1nle, q_m1s, q_ix, q_jat, q_jput, q_min1, q_min2, q_max1, q_max2, q_or0, q_0or, q_bs, if_true, if_false, true_and, and_true, false_and, and_false, not_true_eq_false, not_false_eq_true, eq_self, Bool.false_eq_true, q_z0, q_z1, q_shl1, e1, oI_s]
        | false => rw [z, zb_f] at e1; simp (disch := omega) only [l_0, l_1, l_2, l_3, l_4, l_5, l_6, l_7, l_8, l_9, l_10, l_11, l_12, l_13, l_14, l_15, l_16, l_17, l_18, l_19, l_20, l_21, l_22, l_23, l_24, l_25, l_26, l_27, l_30, l_31, l_32, l_40, l_48, l_57, l_59, l_60, l_61, l_62, l_64, l_83, l_90, l_97, l_99, l_100, l_108, l_115, l_122, l_123, l_127, l_128, l_131, l_135, l_200, l_255, l_256, l_300, l_487, l_495, l_900, l_999, l_1000, l_1700, l_1792, l_1980, l_2048, l_2475, l_2970, l_3121, l_9999, l_10000, l_11351, l_65536, l_100000, l_1000000, ↓l_m1, l_neg, nI_add, pk_mul, pk_sub, q_leT, q_leF, q_ltT, q_ltF, q_eqT, q_eqF, q_m1e, q_m1e2, q_m1lt, q_m1le, q_m1nl, q_m1nle, q_m1s, q_ix, q_jat, q_jput, q_min1, q_min2, q_max1, q_max2, q_or0, q_0or, q_bs, if_true, if_false, true_and, and_true, false_and, and_false, not_true_eq_false, not_false_eq_true, eq_self, Bool.false_eq_true, q_z0, q_z1, q_shl1, e1, oI_n]
      | some b =>
        have bl := smT_lt q
        have q1 := q_popc (n := t) (by omega)
        have q2 := q_popc (n := b) (by omega)
        have pl1 := popc_le t
        have pl2 := popc_le b
        rw [smT_s q, oI_s]
        by_cases y : popc t < popc b
        · rw [decide_eq_true y, Bool.true_and]
          cases z : P t with
          | true => rw [z, zb_t] at e1; simp (disch := omega) only [l_0, l_1, l_2, l_3, l_4, l_5, l_6, l_7, l_8, l_9, l_10, l_11, l_12, l_13, l_14, l_15, l_16, l_17, l_18, l_19, l_20, l_21, l_22, l_23, l_24, l_25, l_26, l_27, l_30, l_31, l_32, l_40, l_48, l_57, l_59, l_60, l_61, l_62, l_64, l_83, l_90, l_97, l_99, l_100, l_108, l_115, l_122, l_123, l_127, l_128, l_131, l_135, l_200, l_255, l_256, l_300, l_487, l_495, l_900, l_999, l_1000, l_1700, l_1792, l_1980, l_2048, l_2475, l_2970, l_3121, l_9999, l_10000, l_11351, l_65536, l_100000, l_1000000, ↓l_m1, l_neg, nI_add, pk_mul, pk_sub, q_leT, q_leF, q_ltT, q_ltF, q_eqT, q_eqF, q_m1e, q_m1e2, q_m1lt, q_m1le, q_m1nl, q_m1nle, q_m1s, q_ix, q_jat, q_jput, q_min1, q_min2, q_max1, q_max2, q_or0, q_0or, q_bs, if_true, if_false, true_and, and_true, false_and, and_false, not_true_eq_false, not_false_eq_true, eq_self, Bool.false_eq_true, q_z0, q_z1, q_shl1, q1, q2, e1, oI_s]
          | false => rw [z, zb_f] at e1; simp (disch := omega) only [l_0, l_1, l_2, l_3, l_4, l_5, l_6, l_7, l_8, l_9, l_10, l_11, l_12, l_13, l_14, l_15, l_16, l_17, l_18, l_19, l_20, l_21, l_22, l_23, l_24, l_25, l_26, l_27, l_30, l_31, l_32, l_40, l_48, l_57, l_59, l_60, l_61, l_62, l_64, l_83, l_90, l_97, l_99, l_100, l_108, l_115, l_122, l_123, l_127, l_128, l_131, l_135, l_200, l_255, l_256, l_300, l_487, l_495, l_900, l_999, l_1000, l_1700, l_1792, l_1980, l_2048, l_2475, l_2970, l_3121, l_9999, l_10000, l_11351, l_65536, l_100000, l_1000000, ↓l_m1, l_neg, nI_add, pk_mul, pk_sub, q_leT, q_leF, q_ltT, q_ltF, q_eqT, q_eqF, q_m1e, q_m1e2, q_m1lt, q_m1le, q_m1nl, q_m1nle, q_m1s, q_ix, q_jat, q_jput, q_min1, q_min2, q_max1, q_max2, q_or0, q_0or, q_bs, if_true, if_false, true_and, and_true, false_and, and_false, not_true_eq_false, not_false_eq_true, eq_self, Bool.false_eq_true, q_z0, q_z1, q_shl1, q1, q2, e1, oI_s]
        · rw [decide_eq_false y, Bool.false_and]
          simp (disch := omega) only [l_0, l_1, l_2, l_3, l_4, l_5, l_6, l_7, l_8, l_9, l_10, l_11, l_12, l_13, l_14, l_15, l_16, l_17, l_18, l_19, l_20, l_21, l_22, l_23, l_24, l_25, l_26, l_27, l_30, l_31, l_32, l_40, l_48, l_57, l_59, l_60, l_61, l_62, l_64, l_83, l_90, l_97, l_99, l_100, l_108, l_115, l_122, l_123, l_127, l_128, l_131, l_135, l_200, l_255, l_256, l_300, l_487, l_495, l_900, l_999, l_1000, l_1700, l_1792, l_1980, l_2048, l_2475, l_2970, l_3121, l_9999, l_10000, l_11351, l_65536, l_100000, l_1000000, ↓l_m1, l_neg, nI_add, pk_mul, pk_sub, q_leT, q_leF, q_ltT, q_ltF, q_eqT, q_eqF, q_m1e, q_m1e2, q_m1lt, q_m1le, q_m1nl, q_m1nle, q_m1s, q_ix, q_jat, q_jput, q_min1, q_min2, q_max1, q_max2, q_or0, q_0or, q_bs, if_true, if_false, true_and, and_true, false_and, and_false, not_true_eq_false, not_false_eq_true, eq_self, Bool.false_eq_true, q_z0, q_z1, q_shl1, q1, q2, oI_s]
    · unfold X4_smallestTeam_b9
      simp (disch := omega) only [l_0, l_1, l_2, l_3, l_4, l_5, l_6, l_7, l_8, l_9, l_10, l_11, l_12, l_13, l_14, l_15, l_16, l_17, l_18, l_19, l_20, l_21, l_22, l_23, l_24, l_25, l_26, l_27, l_30, l_31, l_32, l_40, l_48, l_57, l_59, l_60, l_61, l_62, l_64, l_83, l_90, l_97, l_99, l_100, l_108, l_115, l_122, l_123, l_127, l_128, l_131, l_135, l_200, l_255, l_256, l_300, l_487, l_495, l_900, l_999, l_1000, l_1700, l_1792, l_1980, l_2048, l_2475, l_2970, l_3121, l_9999, l_10000, l_11351, l_65536, l_100000, l_1000000, ↓l_m1, l_neg, nI_add, pk_mul, pk_sub, q_leT, q_leF, q_ltT, q_ltF, q_eqT, q_eqF, q_m1e, q_m1e2, q_m1lt, q_m1le, q_m1nl, q_m1nle, q_m1s, q_ix, q_jat, q_jput, q_min1, q_min2, q_max1, q_max2, q_or0, q_0or, q_bs, if_true, if_false, true_and, and_true, false_and, and_false, not_true_eq_false, not_false_eq_true, eq_self, Bool.false_eq_true, q_z0, q_z1, q_shl1]
  rw [show ((-1 : Int32), (0 : Int32)) = (oI (smT P 0), nI 0) from rfl, it, q_bs]
