/-! ===== PURE 13.g: walking, on both sides ===== -/
def zb (b : Bool) : Int32 := if b then nI 1 else nI 0
theorem zb_t : zb true = nI 1 := rfl
theorem zb_f : zb false = nI 0 := rfl
theorem isZ_zb (b : Bool) : (isZ (zb b) = true) = True := by cases b <;> exact eq_true rfl
theorem q_dec {a : Nat} (h : 1 ≤ a) : nI a + m1 = nI (a - 1) := by
  obtain ⟨k, rfl⟩ : ∃ k, a = k + 1 := ⟨a - 1, by omega⟩
  exact pk_m1 k
theorem setE_l (C : Cy) (x l : Nat) : setE C x l (C 2 x 0) = setC C 2 x 1 l := by
  unfold setE
  rw [show C 2 x 0 = setC C 2 x 1 l 2 x 0 from (setC_c C (by omega)).symm, setC_id]
def fateSet (C : Cy) (f : Nat) : Nat := setOf (fate C f) (C 0 0 3)
theorem q_xOf (g : Nat → Int32) {x c : Nat} (hx : x < 7) (hc : c < 5) : X12_extraOf g (nI x) (nI c) = some (g (48 + 5 * x + c)) := extraOf_e g hx hc rfl
theorem stepE_left {C : Cy} {x : Nat} (h : C 2 x 1 ≠ 0) : stepE C x = (C 2 x 1 - 1, C 2 x 0) ∧ stirE C x = true := by
  unfold stepE stirE; exact ⟨if_pos h, if_pos h⟩
theorem stepE_none {C : Cy} {x : Nat} (h : C 2 x 1 = 0) (h2 : goalS C x = none) : stirE C x = false := by
  unfold stirE; rw [if_neg (by omega), h2]
theorem stepE_here {C : Cy} {x h : Nat} (h1 : C 2 x 1 = 0) (h2 : goalS C x = some h) (h3 : C 3 h 0 = C 2 x 0) : stirE C x = false := by
  unfold stirE; rw [if_neg (by omega), h2]; exact if_pos h3
theorem stepE_noway {C : Cy} {x h : Nat} (h1 : C 2 x 1 = 0) (h2 : goalS C x = some h) (h3 : C 3 h 0 ≠ C 2 x 0) (h4 : wayS C (C 2 x 0) (C 3 h 0) = none) : stirE C x = false := by
  unfold stirE; rw [if_neg (by omega), h2]; dsimp only; rw [if_neg h3, h4]; rfl
theorem stepE_goes {C : Cy} {x h c : Nat} (h1 : C 2 x 1 = 0) (h2 : goalS C x = some h) (h3 : C 3 h 0 ≠ C 2 x 0) (h4 : wayS C (C 2 x 0) (C 3 h 0) = some c) : stepE C x = (tk C (C 2 x 0) c - 1, c) ∧ stirE C x = true := by
  unfold stepE stirE; rw [if_neg (by omega), if_neg (by omega), h2]; dsimp only; rw [if_neg h3, if_neg h3, h4]; exact ⟨rfl, rfl⟩
theorem goalS_in {C : Cy} {x h : Nat} (h1 : goalS C x = some h) : h < C 0 0 3 := (fmin_in h1).1
theorem c_walk1 {F : Nat} {C : Cy} {tf df xf hf : Nat → Int32} {x : Nat} (v : Int32) (ok : Ok C) (hT : CT C tf) (hD : CF C df) (hX : CX C xf) (hH : CH C hf) (hx : x < C 0 0 2) (hF : 100 < F) :
    ∃ xf2, X0_walk_b10 F (nI (C 0 0 0)) tf df (nI (C 0 0 2)) (nI (C 0 0 3)) hf (nI (fateSet C 0)) (v, nI x, xf) = some (.inl (if stirE C x then nI 1 else v, nI (x + 1), xf2)) ∧ CX (walk1 C x) xf2 := by
  have ok' := ok
  obtain ⟨o0, oR, oE, oH, oW⟩ := ok
  have e1 := oE x hx
  have sg : X0_soonest F (nI (C 0 0 3)) hf (nI (C 2 x 2 &&& fateSet C 0)) = some (oI (goalS C x)) := by
    rw [c_soonest ok' hH (and_lt31 (by omega)) hF]; unfold fateSet; rw [and_setOf]; rfl
  have s := stepE_ok ok' hx
  unfold X0_walk_b10 X0_walk_j119 X0_walk_j162
  by_cases h1 : C 2 x 1 = 0
  case neg =>
    obtain ⟨t1, t2⟩ := stepE_left h1
    refine ⟨upd xf (x * 5 + 1) (nI (C 2 x 1 - 1)), ?_, ?_⟩
    · simp (disch := omega) only [l_0, l_1, l_2, l_3, l_4, l_5, l_6, l_7, l_8, l_9, l_10, l_11, l_12, l_13, l_14, l_15, l_16, l_17, l_18, l_19, l_20, l_21, l_22, l_23, l_24, l_25, l_26, l_27, l_30, l_31, l_32, l_40, l_48, l_57, l_59, l_60, l_61, l_62, l_64, l_83, l_90, l_97, l_99, l_100, l_108, l_115, l_122, l_123, l_127, l_128, l_131, l_135, l_200, l_255, l_256, l_300, l_487, l_495, l_900, l_999, l_1000, l_1700, l_1792, l_1980, l_2048, l_2475, l_2970, l_3121, l_9999, l_10000, l_11351, l_65536, l_100000, l_1000000, ↓l_m1, l_neg, nI_add, pk_mul, pk_sub, q_leT, q_leF, q_ltT, q_ltF, q_eqT, q_eqF, q_m1e, q_m1e2, q_m1lt, q_m1le, q_m1nl, q_m1nle, q_m1s, q_ix, q_jat, q_jput, q_min1, q_min2, q_max1, q_max2, q_or0, q_0or, Option.bind_some, if_true, if_false, true_and, and_true, false_and, and_false, not_true_eq_false, not_false_eq_true, eq_self, Bool.false_eq_true, q_z0, q_z1, q_get, q_set, q_raise, hX x, t2, q_dec]
    · unfold walk1; rw [t1, setE_l]; exact CX_upd hX (by omega)
  cases hg : goalS C x with
  | none =>
    have t := stepE_none h1 hg
    rw [hg] at sg
    refine ⟨xf, ?_, by rw [walk1_still t]; exact hX⟩
    simp (disch := omega) only [l_0, l_1, l_2, l_3, l_4, l_5, l_6, l_7, l_8, l_9, l_10, l_11, l_12, l_13, l_14, l_15, l_16, l_17, l_18, l_19, l_20, l_21, l_22, l_23, l_24, l_25, l_26, l_27, l_30, l_31, l_32, l_40, l_48, l_57, l_59, l_60, l_61, l_62, l_64, l_83, l_90, l_97, l_99, l_100, l_108, l_115, l_122, l_123, l_127, l_128, l_131, l_135, l_200, l_255, l_256, l_300, l_487, l_495, l_900, l_999, l_1000, l_1700, l_1792, l_1980, l_2048, l_2475, l_2970, l_3121, l_9999, l_10000, l_11351, l_65536, l_100000, l_1000000, ↓l_m1, l_neg, nI_add, pk_mul, pk_sub, q_leT, q_leF, q_ltT, q_ltF, q_eqT, q_eqF, q_m1e, q_m1e2, q_m1lt, q_m1le, q_m1nl, q_m1nle, q_m1s, q_ix, q_jat, q_jput, q_min1, q_min2, q_max1, q_max2, q_or0, q_0or, Option.bind_some, if_true, if_false, true_and, and_true, false_and, and_false, not_true_eq_false, not_false_eq_true, eq_self, Bool.false_eq_true, q_z0, q_z1, q_get, q_set, q_raise, hX x, t, fa_and, sg, oI_n]
  | some h =>
    rw [hg] at sg
    have hh := goalS_in hg
    have e2 := oH h hh
    by_cases h2 : C 3 h 0 = C 2 x 0
    · have t := stepE_here h1 hg h2
      refine ⟨xf, ?_, by rw [walk1_still t]; exact hX⟩
      simp (disch := omega) only [l_0, l_1, l_2, l_3, l_4, l_5, l_6, l_7, l_8, l_9, l_10, l_11, l_12, l_13, l_14, l_15, l_16, l_17, l_18, l_19, l_20, l_21, l_22, l_23, l_24, l_25, l_26, l_27, l_30, l_31, l_32, l_40, l_48, l_57, l_59, l_60, l_61, l_62, l_64, l_83, l_90, l_97, l_99, l_100, l_108, l_115, l_122, l_123, l_127, l_128, l_131, l_135, l_200, l_255, l_256, l_300, l_487, l_495, l_900, l_999, l_1000, l_1700, l_1792, l_1980, l_2048, l_2475, l_2970, l_3121, l_9999, l_10000, l_11351, l_65536, l_100000, l_1000000, ↓l_m1, l_neg, nI_add, pk_mul, pk_sub, q_leT, q_leF, q_ltT, q_ltF, q_eqT, q_eqF, q_m1e, q_m1e2, q_m1lt, q_m1le, q_m1nl, q_m1nle, q_m1s, q_ix, q_jat, q_jput, q_min1, q_min2, q_max1, q_max2, q_or0, q_0or, Option.bind_some, if_true, if_false, true_and, and_true, false_and, and_false, not_true_eq_false, not_false_eq_true, eq_self, Bool.false_eq_true, q_z0, q_z1, q_get, q_set, q_raise, hX x, hH h, t, fa_and, sg, oI_s]
    cases hw : wayS C (C 2 x 0) (C 3 h 0) with
    | none =>
      have t := stepE_noway h1 hg h2 hw
      have f := c_first ok' hT hD (by omega) (show C 2 x 0 < 8 by omega) (show C 3 h 0 < 8 by omega) hF
      rw [hw] at f
      refine ⟨xf, ?_, by rw [walk1_still t]; exact hX⟩
      simp (disch := omega) only [l_0, l_1, l_2, l_3, l_4, l_5, l_6, l_7, l_8, l_9, l_10, l_11, l_12, l_13, l_14, l_15, l_16, l_17, l_18, l_19, l_20, l_21, l_22, l_23, l_24, l_25, l_26, l_27, l_30, l_31, l_32, l_40, l_48, l_57, l_59, l_60, l_61, l_62, l_64, l_83, l_90, l_97, l_99, l_100, l_108, l_115, l_122, l_123, l_127, l_128, l_131, l_135, l_200, l_255, l_256, l_300, l_487, l_495, l_900, l_999, l_1000, l_1700, l_1792, l_1980, l_2048, l_2475, l_2970, l_3121, l_9999, l_10000, l_11351, l_65536, l_100000, l_1000000, ↓l_m1, l_neg, nI_add, pk_mul, pk_sub, q_leT, q_leF, q_ltT, q_ltF, q_eqT, q_eqF, q_m1e, q_m1e2, q_m1lt, q_m1le, q_m1nl, q_m1nle, q_m1s, q_ix, q_jat, q_jput, q_min1, q_min2, q_max1, q_max2, q_or0, q_0or, Option.bind_some, if_true, if_false, true_and, and_true, false_and, and_false, not_true_eq_false, not_false_eq_true, eq_self, Bool.false_eq_true, q_z0, q_z1, q_get, q_set, q_raise, hX x, hH h, t, fa_and, sg, oI_s, f, oI_n]
    | some c =>
      obtain ⟨t1, t2⟩ := stepE_goes h1 hg h2 hw
      have w := wayS_in hw
      have tv := tk_val ok' (C 2 x 0) c
      have t0 : tk0 C (C 2 x 0) c = tk C (C 2 x 0) c := if_neg (by omega)
      have f := c_first ok' hT hD (by omega) (show C 2 x 0 < 8 by omega) (show C 3 h 0 < 8 by omega) hF
      rw [hw] at f
      refine ⟨upd (upd xf (x * 5 + 1) (nI (tk C (C 2 x 0) c - 1))) (x * 5 + 0) (nI c), ?_, ?_⟩
      · simp (disch := omega) only [l_0, l_1, l_2, l_3, l_4, l_5, l_6, l_7, l_8, l_9, l_10, l_11, l_12, l_13, l_14, l_15, l_16, l_17, l_18, l_19, l_20, l_21, l_22, l_23, l_24, l_25, l_26, l_27, l_30, l_31, l_32, l_40, l_48, l_57, l_59, l_60, l_61, l_62, l_64, l_83, l_90, l_97, l_99, l_100, l_108, l_115, l_122, l_123, l_127, l_128, l_131, l_135, l_200, l_255, l_256, l_300, l_487, l_495, l_900, l_999, l_1000, l_1700, l_1792, l_1980, l_2048, l_2475, l_2970, l_3121, l_9999, l_10000, l_11351, l_65536, l_100000, l_1000000, ↓l_m1, l_neg, nI_add, pk_mul, pk_sub, q_leT, q_leF, q_ltT, q_ltF, q_eqT, q_eqF, q_m1e, q_m1e2, q_m1lt, q_m1le, q_m1nl, q_m1nle, q_m1s, q_ix, q_jat, q_jput, q_min1, q_min2, q_max1, q_max2, q_or0, q_0or, Option.bind_some, if_true, if_false, true_and, and_true, false_and, and_false, not_true_eq_false, not_false_eq_true, eq_self, Bool.false_eq_true, q_z0, q_z1, q_get, q_set, q_raise, hX x, hH h, t2, fa_and, sg, oI_s, f, c_tB hT, t0]
      · unfold walk1; rw [t1]; exact CX_E hX
theorem m_j112 {F x a l : Nat} {g f : Nat → Int32} (hx : x < 7) (ha : a < 8) (hl : l ≤ 8) (h0 : g (48 + 5 * x) = nI (10 + a)) (h1 : g (48 + 5 * x + 1) = nI l) : X12_walks_j112 F g f (nI x) (nI (48 + 5 * x)) = some (if l = 0 then upd g (48 + 5 * x) (nI a) else g) := by
  have k2 : X12_doesStand g (nI x) = some (nI 0) := by
    unfold X12_doesStand
    simp (disch := omega) only [l_0, l_1, l_2, l_3, l_4, l_5, l_6, l_7, l_8, l_9, l_10, l_11, l_12, l_13, l_14, l_15, l_16, l_17, l_18, l_19, l_20, l_21, l_22, l_23, l_24, l_25, l_26, l_27, l_30, l_31, l_32, l_40, l_48, l_57, l_59, l_60, l_61, l_62, l_64, l_83, l_90, l_97, l_99, l_100, l_108, l_115, l_122, l_123, l_127, l_128, l_131, l_135, l_200, l_255, l_256, l_300, l_487, l_495, l_900, l_999, l_1000, l_1700, l_1792, l_1980, l_2048, l_2475, l_2970, l_3121, l_9999, l_10000, l_11351, l_65536, l_100000, l_1000000, ↓l_m1, l_neg, nI_add, pk_mul, pk_sub, q_leT, q_leF, q_ltT, q_ltF, q_eqT, q_eqF, q_m1e, q_m1e2, q_m1lt, q_m1le, q_m1nl, q_m1nle, q_m1s, q_ix, q_jat, q_jput, q_min1, q_min2, q_max1, q_max2, q_or0, q_0or, Option.bind_some, if_true, if_false, true_and, and_true, false_and, and_false, not_true_eq_false, not_false_eq_true, eq_self, Bool.false_eq_true, q_z0, q_z1, q_xOf, Nat.add_zero, h0]
  have e3 : 10 + a - 10 = a := by omega
  unfold X12_walks_j112
  by_cases h : l = 0
  · rw [if_pos h]; simp (disch := omega) only [l_0, l_1, l_2, l_3, l_4, l_5, l_6, l_7, l_8, l_9, l_10, l_11, l_12, l_13, l_14, l_15, l_16, l_17, l_18, l_19, l_20, l_21, l_22, l_23, l_24, l_25, l_26, l_27, l_30, l_31, l_32, l_40, l_48, l_57, l_59, l_60, l_61, l_62, l_64, l_83, l_90, l_97, l_99, l_100, l_108, l_115, l_122, l_123, l_127, l_128, l_131, l_135, l_200, l_255, l_256, l_300, l_487, l_495, l_900, l_999, l_1000, l_1700, l_1792, l_1980, l_2048, l_2475, l_2970, l_3121, l_9999, l_10000, l_11351, l_65536, l_100000, l_1000000, ↓l_m1, l_neg, nI_add, pk_mul, pk_sub, q_leT, q_leF, q_ltT, q_ltF, q_eqT, q_eqF, q_m1e, q_m1e2, q_m1lt, q_m1le, q_m1nl, q_m1nle, q_m1s, q_ix, q_jat, q_jput, q_min1, q_min2, q_max1, q_max2, q_or0, q_0or, Option.bind_some, if_true, if_false, true_and, and_true, false_and, and_false, not_true_eq_false, not_false_eq_true, eq_self, Bool.false_eq_true, q_z0, q_z1, k2, h0, h1, e3]
  · rw [if_neg h]; simp (disch := omega) only [l_0, l_1, l_2, l_3, l_4, l_5, l_6, l_7, l_8, l_9, l_10, l_11, l_12, l_13, l_14, l_15, l_16, l_17, l_18, l_19, l_20, l_21, l_22, l_23, l_24, l_25, l_26, l_27, l_30, l_31, l_32, l_40, l_48, l_57, l_59, l_60, l_61, l_62, l_64, l_83, l_90, l_97, l_99, l_100, l_108, l_115, l_122, l_123, l_127, l_128, l_131, l_135, l_200, l_255, l_256, l_300, l_487, l_495, l_900, l_999, l_1000, l_1700, l_1792, l_1980, l_2048, l_2475, l_2970, l_3121, l_9999, l_10000, l_11351, l_65536, l_100000, l_1000000, ↓l_m1, l_neg, nI_add, pk_mul, pk_sub, q_leT, q_leF, q_ltT, q_ltF, q_eqT, q_eqF, q_m1e, q_m1e2, q_m1lt, q_m1le, q_m1nl, q_m1nle, q_m1s, q_ix, q_jat, q_jput, q_min1, q_min2, q_max1, q_max2, q_or0, q_0or, Option.bind_some, if_true, if_false, true_and, and_true, false_and, and_false, not_true_eq_false, not_false_eq_true, eq_self, Bool.false_eq_true, q_z0, q_z1, k2, h0, h1]
theorem m_j112s {F x a : Nat} {g f : Nat → Int32} (hx : x < 7) (ha : a < 8) (h0 : g (48 + 5 * x) = nI a) : X12_walks_j112 F g f (nI x) (nI (48 + 5 * x)) = some g := by
  have k2 : X12_doesStand g (nI x) = some (nI 1) := by
    unfold X12_doesStand
    simp (disch := omega) only [l_0, l_1, l_2, l_3, l_4, l_5, l_6, l_7, l_8, l_9, l_10, l_11, l_12, l_13, l_14, l_15, l_16, l_17, l_18, l_19, l_20, l_21, l_22, l_23, l_24, l_25, l_26, l_27, l_30, l_31, l_32, l_40, l_48, l_57, l_59, l_60, l_61, l_62, l_64, l_83, l_90, l_97, l_99, l_100, l_108, l_115, l_122, l_123, l_127, l_128, l_131, l_135, l_200, l_255, l_256, l_300, l_487, l_495, l_900, l_999, l_1000, l_1700, l_1792, l_1980, l_2048, l_2475, l_2970, l_3121, l_9999, l_10000, l_11351, l_65536, l_100000, l_1000000, ↓l_m1, l_neg, nI_add, pk_mul, pk_sub, q_leT, q_leF, q_ltT, q_ltF, q_eqT, q_eqF, q_m1e, q_m1e2, q_m1lt, q_m1le, q_m1nl, q_m1nle, q_m1s, q_ix, q_jat, q_jput, q_min1, q_min2, q_max1, q_max2, q_or0, q_0or, Option.bind_some, if_true, if_false, true_and, and_true, false_and, and_false, not_true_eq_false, not_false_eq_true, eq_self, Bool.false_eq_true, q_z0, q_z1, q_xOf, Nat.add_zero, h0]
  unfold X12_walks_j112
  simp (disch := omega) only [l_0, l_1, l_2, l_3, l_4, l_5, l_6, l_7, l_8, l_9, l_10, l_11, l_12, l_13, l_14, l_15, l_16, l_17, l_18, l_19, l_20, l_21, l_22, l_23, l_24, l_25, l_26, l_27, l_30, l_31, l_32, l_40, l_48, l_57, l_59, l_60, l_61, l_62, l_64, l_83, l_90, l_97, l_99, l_100, l_108, l_115, l_122, l_123, l_127, l_128, l_131, l_135, l_200, l_255, l_256, l_300, l_487, l_495, l_900, l_999, l_1000, l_1700, l_1792, l_1980, l_2048, l_2475, l_2970, l_3121, l_9999, l_10000, l_11351, l_65536, l_100000, l_1000000, ↓l_m1, l_neg, nI_add, pk_mul, pk_sub, q_leT, q_leF, q_ltT, q_ltF, q_eqT, q_eqF, q_m1e, q_m1e2, q_m1lt, q_m1le, q_m1nl, q_m1nle, q_m1s, q_ix, q_jat, q_jput, q_min1, q_min2, q_max1, q_max2, q_or0, q_0or, Option.bind_some, if_true, if_false, true_and, and_true, false_and, and_false, not_true_eq_false, not_false_eq_true, eq_self, Bool.false_eq_true, q_z0, q_z1, k2]
theorem m_walk1 {F : Nat} {C : Cy} {g f : Nat → Int32} {x : Nat} (ok : Ok C) (hM : MS C g) (hf : FB C f) (hx : x < C 0 0 2) (hF : 100 < F) :
    ∃ g2, X12_walks F g f (nI x) = some g2 ∧ MS (walk1 C x) g2 ∧ Fr g g2 := by
  have ok' := ok
  obtain ⟨o0, oR, oE, oH, oW⟩ := ok
  have e1 := oE x hx
  have x7 : x < 7 := by omega
  have k1 : g (48 + 5 * x + 1) = nI (C 2 x 1) := hM.2.2.2.2.1 x 1 hx (by omega) (by omega)
  have er : (48 : Int32) + 5 * nI x = nI (48 + 5 * x) := by simp (disch := omega) only [l_0, l_1, l_2, l_3, l_4, l_5, l_6, l_7, l_8, l_9, l_10, l_11, l_12, l_13, l_14, l_15, l_16, l_17, l_18, l_19, l_20, l_21, l_22, l_23, l_24, l_25, l_26, l_27, l_30, l_31, l_32, l_40, l_48, l_57, l_59, l_60, l_61, l_62, l_64, l_83, l_90, l_97, l_99, l_100, l_108, l_115, l_122, l_123, l_127, l_128, l_131, l_135, l_200, l_255, l_256, l_300, l_487, l_495, l_900, l_999, l_1000, l_1700, l_1792, l_1980, l_2048, l_2475, l_2970, l_3121, l_9999, l_10000, l_11351, l_65536, l_100000, l_1000000, ↓l_m1, l_neg, nI_add, pk_mul, pk_sub, q_leT, q_leF, q_ltT, q_ltF, q_eqT, q_eqF, q_m1e, q_m1e2, q_m1lt, q_m1le, q_m1nl, q_m1nle, q_m1s, q_ix, q_jat, q_jput, q_min1, q_min2, q_max1, q_max2, q_or0, q_0or, Option.bind_some, if_true, if_false, true_and, and_true, false_and, and_false, not_true_eq_false, not_false_eq_true, eq_self, Bool.false_eq_true, q_z0, q_z1]
  have sg := m_goal ok' hM hx hF
  unfold X12_walks X12_extraRow
  simp only [Option.bind_some]
  rw [er, sg]
  simp only [Option.bind_some]
  by_cases h1 : C 2 x 1 = 0
  case neg =>
    have k0 : g (48 + 5 * x) = nI (10 + C 2 x 0) := hM.2.2.2.1 x hx h1
    obtain ⟨t1, t2⟩ := stepE_left h1
    have jj := m_j112 (F := F) (g := upd g (48 + 5 * x + 1) (nI (C 2 x 1 - 1))) (f := f) (a := C 2 x 0) (l := C 2 x 1 - 1) x7 (by omega) (by omega) (by rw [pk_un (by omega), k0]) (by rw [pk_us])
    rw [m_dsF hM hx (by omega) h1 (by omega)]
    simp only [Option.bind_some]
    rw [if_pos (show nI 0 = (0 : Int32) from rfl)]
    refine ⟨_, by simp (disch := omega) only [l_0, l_1, l_2, l_3, l_4, l_5, l_6, l_7, l_8, l_9, l_10, l_11, l_12, l_13, l_14, l_15, l_16, l_17, l_18, l_19, l_20, l_21, l_22, l_23, l_24, l_25, l_26, l_27, l_30, l_31, l_32, l_40, l_48, l_57, l_59, l_60, l_61, l_62, l_64, l_83, l_90, l_97, l_99, l_100, l_108, l_115, l_122, l_123, l_127, l_128, l_131, l_135, l_200, l_255, l_256, l_300, l_487, l_495, l_900, l_999, l_1000, l_1700, l_1792, l_1980, l_2048, l_2475, l_2970, l_3121, l_9999, l_10000, l_11351, l_65536, l_100000, l_1000000, ↓l_m1, l_neg, nI_add, pk_mul, pk_sub, q_leT, q_leF, q_ltT, q_ltF, q_eqT, q_eqF, q_m1e, q_m1e2, q_m1lt, q_m1le, q_m1nl, q_m1nle, q_m1s, q_ix, q_jat, q_jput, q_min1, q_min2, q_max1, q_max2, q_or0, q_0or, Option.bind_some, if_true, if_false, true_and, and_true, false_and, and_false, not_true_eq_false, not_false_eq_true, eq_self, Bool.false_eq_true, q_z0, q_z1, k1, jj]; rfl, ?_, ?_⟩
    · unfold walk1; rw [t1]
      by_cases h2 : C 2 x 1 - 1 = 0
      · rw [if_pos h2]
        refine MS_E ok' hM hx (fun k hk1 hk2 => by rw [pk_un hk1, pk_un hk2]) (by rw [pk_un (by omega), pk_us]) (fun _ => by rw [pk_us]) (fun z => absurd h2 z)
      · rw [if_neg h2]
        refine MS_E ok' hM hx (fun k hk1 hk2 => by rw [pk_un hk2]) (by rw [pk_us]) (fun z => absurd z h2) (fun _ => by rw [pk_un (by omega), k0])
    · by_cases h2 : C 2 x 1 - 1 = 0
      · rw [if_pos h2]; exact Fr_upd' (Fr_upd (by omega) (by omega)) (by omega) (by omega)
      · rw [if_neg h2]; exact Fr_upd (by omega) (by omega)
  have k0 : g (48 + 5 * x) = nI (C 2 x 0) := hM.2.2.1 x hx h1
  have js := m_j112s (F := F) (f := f) x7 (show C 2 x 0 < 8 by omega) k0
  rw [m_dsT hM hx (by omega) h1 (by omega)]
  simp only [Option.bind_some]
  rw [if_neg (show ¬ nI 1 = (0 : Int32) by decide)]
  cases hg : goalS C x with
  | none =>
    have t := stepE_none h1 hg
    refine ⟨g, ?_, by rw [walk1_still t]; exact hM, Fr_r g⟩
    rw [if_pos (show oI none = -1 from rfl), js]
  | some h =>
    have hh := goalS_in hg
    have e2 := oH h hh
    rw [oI_s, if_neg (nI_ne_m1 (show h < 2 ^ 31 by omega))]
    by_cases h2 : C 3 h 0 = C 2 x 0
    · have t := stepE_here h1 hg h2
      refine ⟨g, ?_, by rw [walk1_still t]; exact hM, Fr_r g⟩
      simp (disch := omega) only [l_0, l_1, l_2, l_3, l_4, l_5, l_6, l_7, l_8, l_9, l_10, l_11, l_12, l_13, l_14, l_15, l_16, l_17, l_18, l_19, l_20, l_21, l_22, l_23, l_24, l_25, l_26, l_27, l_30, l_31, l_32, l_40, l_48, l_57, l_59, l_60, l_61, l_62, l_64, l_83, l_90, l_97, l_99, l_100, l_108, l_115, l_122, l_123, l_127, l_128, l_131, l_135, l_200, l_255, l_256, l_300, l_487, l_495, l_900, l_999, l_1000, l_1700, l_1792, l_1980, l_2048, l_2475, l_2970, l_3121, l_9999, l_10000, l_11351, l_65536, l_100000, l_1000000, ↓l_m1, l_neg, nI_add, pk_mul, pk_sub, q_leT, q_leF, q_ltT, q_ltF, q_eqT, q_eqF, q_m1e, q_m1e2, q_m1lt, q_m1le, q_m1nl, q_m1nle, q_m1s, q_ix, q_jat, q_jput, q_min1, q_min2, q_max1, q_max2, q_or0, q_0or, Option.bind_some, if_true, if_false, true_and, and_true, false_and, and_false, not_true_eq_false, not_false_eq_true, eq_self, Bool.false_eq_true, q_z0, q_z1, m_H hM, k0, js]
    have w0 := m_way ok' hM hf (show C 2 x 0 < 8 by omega) (show C 3 h 0 < 8 by omega) hF
    have hl0 := m_H (x := h) (c := 0) hM hh (by omega) (by omega)
    rw [show (0 : Int32) = nI 0 from rfl, hl0]
    simp only [Option.bind_some]
    rw [q_jat g (show 48 + 5 * x < 2 ^ 31 by omega), k0, if_pos (of_eq_true (q_ix (show 48 + 5 * x < 3097 by omega) (by omega))), if_neg (fun z => h2 ((nI_eq (by omega) (by omega)).mp z)), w0]
    simp only [Option.bind_some]
    cases hw : wayS C (C 2 x 0) (C 3 h 0) with
    | none =>
      have t := stepE_noway h1 hg h2 hw
      refine ⟨g, ?_, by rw [walk1_still t]; exact hM, Fr_r g⟩
      rw [if_pos (show oI none = -1 from rfl), if_pos (of_eq_true (q_ix (show 48 + 5 * x < 3097 by omega) (by omega)))]
    | some c =>
      obtain ⟨t1, t2⟩ := stepE_goes h1 hg h2 hw
      have w := wayS_in hw
      have tv := tk_val ok' (C 2 x 0) c
      rw [oI_s, if_neg (nI_ne_m1 (show c < 2 ^ 31 by omega))]
      have jj := m_j112 (F := F) (g := upd (upd g (48 + 5 * x + 1) (nI (tk C (C 2 x 0) c - 1))) (48 + 5 * x) (nI (10 + c))) (f := f) (a := c) (l := tk C (C 2 x 0) c - 1) x7 (by omega) (by omega) (by rw [pk_us]) (by rw [pk_un (by omega), pk_us])
      refine ⟨_, by simp (disch := omega) only [l_0, l_1, l_2, l_3, l_4, l_5, l_6, l_7, l_8, l_9, l_10, l_11, l_12, l_13, l_14, l_15, l_16, l_17, l_18, l_19, l_20, l_21, l_22, l_23, l_24, l_25, l_26, l_27, l_30, l_31, l_32, l_40, l_48, l_57, l_59, l_60, l_61, l_62, l_64, l_83, l_90, l_97, l_99, l_100, l_108, l_115, l_122, l_123, l_127, l_128, l_131, l_135, l_200, l_255, l_256, l_300, l_487, l_495, l_900, l_999, l_1000, l_1700, l_1792, l_1980, l_2048, l_2475, l_2970, l_3121, l_9999, l_10000, l_11351, l_65536, l_100000, l_1000000, ↓l_m1, l_neg, nI_add, pk_mul, pk_sub, q_leT, q_leF, q_ltT, q_ltF, q_eqT, q_eqF, q_m1e, q_m1e2, q_m1lt, q_m1le, q_m1nl, q_m1nle, q_m1s, q_ix, q_jat, q_jput, q_min1, q_min2, q_max1, q_max2, q_or0, q_0or, Option.bind_some, if_true, if_false, true_and, and_true, false_and, and_false, not_true_eq_false, not_false_eq_true, eq_self, Bool.false_eq_true, q_z0, q_z1, m_roadOf ok' hM, jj]; rfl, ?_, ?_⟩
      · unfold walk1; rw [t1]
        by_cases h3 : tk C (C 2 x 0) c - 1 = 0
        · rw [if_pos h3]
          refine MS_E ok' hM hx (fun k hk1 hk2 => by rw [pk_un hk1, pk_un hk1, pk_un hk2]) (by rw [pk_un (by omega), pk_un (by omega), pk_us]) (fun _ => by rw [pk_us]) (fun z => absurd h3 z)
        · rw [if_neg h3]
          refine MS_E ok' hM hx (fun k hk1 hk2 => by rw [pk_un hk1, pk_un hk2]) (by rw [pk_un (by omega), pk_us]) (fun z => absurd z h3) (fun _ => by rw [pk_us])
      · by_cases h3 : tk C (C 2 x 0) c - 1 = 0
        · rw [if_pos h3]; exact Fr_upd' (Fr_upd' (Fr_upd (by omega) (by omega)) (by omega) (by omega)) (by omega) (by omega)
        · rw [if_neg h3]; exact Fr_upd' (Fr_upd (by omega) (by omega)) (by omega) (by omega)
def stirW (C : Cy) : Nat → Bool
  | 0 => false
  | n + 1 => stirW C n || stirE (walkN C n) n
theorem fate_t {C D : Cy} (h : ∀ r c, D 3 r c = C 3 r c) (f h' : Nat) : fate D f h' = fate C f h' := by unfold fate; rw [h]
theorem c_walk {F : Nat} {C : Cy} {tf df xf hf : Nat → Int32} (ok : Ok C) (hT : CT C tf) (hD : CF C df) (hX : CX C xf) (hH : CH C hf) (hF : 100 < F) :
    ∃ xf2, X0_walk F (nI (C 0 0 0)) tf df (nI (C 0 0 2)) xf (nI (C 0 0 3)) hf = some (zb (stirW C (C 0 0 2)), xf2) ∧ CX (walkN C (C 0 0 2)) xf2 := by
  have n7 := ok.1
  obtain ⟨e, h1, xf2, rfl, h2⟩ := it_rel (b := X0_walk_b10 F (nI (C 0 0 0)) tf df (nI (C 0 0 2)) (nI (C 0 0 3)) hf (nI (fateSet C 0))) (C 0 0 2)
    (fun i s => ∃ f, s = (zb (stirW C i), nI i, f) ∧ CX (walkN C i) f) (fun e => ∃ f, e = (zb (stirW C (C 0 0 2)), f) ∧ CX (walkN C (C 0 0 2)) f) (fun i s hi hs => by
      obtain ⟨f, rfl, hf1⟩ := hs
      have okd := walkN_ok ok i (by omega)
      have ss := walkN_same C i
      have z0 := fun k => walkN_t C (t := 0) (r := 0) (c := k) (by omega) i
      have z3 := fun r c => walkN_t C (t := 3) (r := r) (c := c) (by omega) i
      have hHd : CH (walkN C i) hf := by
        intro y d hy hd
        rw [z0] at hy; rw [z3]; exact hH y d hy hd
      have fs : fateSet (walkN C i) 0 = fateSet C 0 := by
        unfold fateSet; rw [z0]; exact setOf_cong (fun k _ => fate_t z3 0 k)
      obtain ⟨f2, a1, a2⟩ := c_walk1 (F := F) (x := i) (zb (stirW C i)) okd (CT_s hT ss) (CF_s hD ss) hf1 hHd (by rw [z0]; exact hi) hF
      rw [z0, z0, z0, fs] at a1
      refine Or.inl ⟨_, a1, f2, ?_, a2⟩
      rw [stirW]
      cases stirE (walkN C i) i <;> cases stirW C i <;> rfl) (fun s hs => by
      obtain ⟨f, rfl, hf1⟩ := hs
      refine ⟨_, ?_, f, rfl, hf1⟩
      unfold X0_walk_b10
      simp (disch := omega) only [l_0, l_1, l_2, l_3, l_4, l_5, l_6, l_7, l_8, l_9, l_10, l_11, l_12, l_13, l_14, l_15, l_16, l_17, l_18, l_19, l_20, l_21, l_22, l_23, l_24, l_25, l_26, l_27, l_30, l_31, l_32, l_40, l_48, l_57, l_59, l_60, l_61, l_62, l_64, l_83, l_90, l_97, l_99, l_100, l_108, l_115, l_122, l_123, l_127, l_128, l_131, l_135, l_200, l_255, l_256, l_300, l_487, l_495, l_900, l_999, l_1000, l_1700, l_1792, l_1980, l_2048, l_2475, l_2970, l_3121, l_9999, l_10000, l_11351, l_65536, l_100000, l_1000000, ↓l_m1, l_neg, nI_add, pk_mul, pk_sub, q_leT, q_leF, q_ltT, q_ltF, q_eqT, q_eqF, q_m1e, q_m1e2, q_m1lt, q_m1le, q_m1nl, q_m1nle, q_m1s, q_ix, q_jat, q_jput, q_min1, q_min2, q_max1, q_max2, q_or0, q_0or, Option.bind_some, if_true, if_false, true_and, and_true, false_and, and_false, not_true_eq_false, not_false_eq_true, eq_self, Bool.false_eq_true, q_z0, q_z1]) (s0 := (0, 0, xf)) ⟨xf, rfl, hX⟩ (show C 0 0 2 < F by omega)
  refine ⟨xf2, ?_, h2⟩
  unfold X0_walk
  rw [show (0 : Int32) = nI 0 from rfl, c_withFate ok hH (by omega) hF]
  simp only [Option.bind_some]
  unfold fateSet at h1
  rw [show (nI 0, nI 0, xf) = ((0 : Int32), (0 : Int32), xf) from rfl, h1]
  simp only [Option.bind_some, isZ_zb, if_true]
theorem m_walkN {F : Nat} {C : Cy} {g f : Nat → Int32} (ok : Ok C) (hM : MS C g) (hf : FB C f) (hF : 100 < F) :
    ∃ g2, iter (X12_hourGoes_b4 F f 0) F (0, g) = some g2 ∧ MS (walkN C (C 0 0 2)) g2 ∧ Fr g g2 := by
  have n7 := ok.1
  obtain ⟨g2, h1, h2, h3⟩ := it_rel (b := X12_hourGoes_b4 F f 0) (C 0 0 2)
    (fun i s => ∃ g2, s = (nI i, g2) ∧ MS (walkN C i) g2 ∧ Fr g g2) (fun g2 => MS (walkN C (C 0 0 2)) g2 ∧ Fr g g2) (fun i s hi hs => by
      obtain ⟨g1, rfl, hM1, hF1⟩ := hs
      have okd := walkN_ok ok i (by omega)
      have ss := walkN_same C i
      have z0 := walkN_t C (t := 0) (r := 0) (c := 2) (by omega) i
      obtain ⟨g2, a1, a2, a3⟩ := m_walk1 (F := F) (x := i) okd hM1 (FB_s hf ss) (by rw [z0]; exact hi) hF
      refine Or.inl ⟨(nI (i + 1), g2), ?_, g2, rfl, a2, Fr_t hF1 a3⟩
      have m2 : g1 2 = nI (C 0 0 2) := by rw [hM1.1 2 (by omega), z0]
      unfold X12_hourGoes_b4
      simp (disch := omega) only [l_0, l_1, l_2, l_3, l_4, l_5, l_6, l_7, l_8, l_9, l_10, l_11, l_12, l_13, l_14, l_15, l_16, l_17, l_18, l_19, l_20, l_21, l_22, l_23, l_24, l_25, l_26, l_27, l_30, l_31, l_32, l_40, l_48, l_57, l_59, l_60, l_61, l_62, l_64, l_83, l_90, l_97, l_99, l_100, l_108, l_115, l_122, l_123, l_127, l_128, l_131, l_135, l_200, l_255, l_256, l_300, l_487, l_495, l_900, l_999, l_1000, l_1700, l_1792, l_1980, l_2048, l_2475, l_2970, l_3121, l_9999, l_10000, l_11351, l_65536, l_100000, l_1000000, ↓l_m1, l_neg, nI_add, pk_mul, pk_sub, q_leT, q_leF, q_ltT, q_ltF, q_eqT, q_eqF, q_m1e, q_m1e2, q_m1lt, q_m1le, q_m1nl, q_m1nle, q_m1s, q_ix, q_jat, q_jput, q_min1, q_min2, q_max1, q_max2, q_or0, q_0or, Option.bind_some, if_true, if_false, true_and, and_true, false_and, and_false, not_true_eq_false, not_false_eq_true, eq_self, Bool.false_eq_true, q_z0, q_z1, m2, a1]) (fun s hs => by
      obtain ⟨g1, rfl, hM1, hF1⟩ := hs
      have z0 := walkN_t C (t := 0) (r := 0) (c := 2) (by omega) (C 0 0 2)
      refine ⟨g1, ?_, hM1, hF1⟩
      have m2 : g1 2 = nI (C 0 0 2) := by rw [hM1.1 2 (by omega), z0]
      unfold X12_hourGoes_b4
      simp (disch := omega) only [l_0, l_1, l_2, l_3, l_4, l_5, l_6, l_7, l_8, l_9, l_10, l_11, l_12, l_13, l_14, l_15, l_16, l_17, l_18, l_19, l_20, l_21, l_22, l_23, l_24, l_25, l_26, l_27, l_30, l_31, l_32, l_40, l_48, l_57, l_59, l_60, l_61, l_62, l_64, l_83, l_90, l_97, l_99, l_100, l_108, l_115, l_122, l_123, l_127, l_128, l_131, l_135, l_200, l_255, l_256, l_300, l_487, l_495, l_900, l_999, l_1000, l_1700, l_1792, l_1980, l_2048, l_2475, l_2970, l_3121, l_9999, l_10000, l_11351, l_65536, l_100000, l_1000000, ↓l_m1, l_neg, nI_add, pk_mul, pk_sub, q_leT, q_leF, q_ltT, q_ltF, q_eqT, q_eqF, q_m1e, q_m1e2, q_m1lt, q_m1le, q_m1nl, q_m1nle, q_m1s, q_ix, q_jat, q_jput, q_min1, q_min2, q_max1, q_max2, q_or0, q_0or, Option.bind_some, if_true, if_false, true_and, and_true, false_and, and_false, not_true_eq_false, not_false_eq_true, eq_self, Bool.false_eq_true, q_z0, q_z1, m2]) (s0 := (0, g)) ⟨g, rfl, hM, Fr_r g⟩ (show C 0 0 2 < F by omega)
  exact ⟨g2, h1, h2, h3⟩
