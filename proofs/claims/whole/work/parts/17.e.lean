/-! ===== PURE 17.e: best, bestWages ===== -/
def wgs (C : Cy) (s : Nat) : Nat := C 0 0 5 * fb_sm (grs C s) (C 0 0 3)
theorem grs_le {C : Cy} (ok : Ok C) (s : Nat) : ∀ n, n ≤ C 0 0 3 → fb_sm (grs C s) n ≤ 4 * n
  | 0, _ => Nat.le_refl _
  | n + 1, h => by
    have i := grs_le ok s n (by omega)
    have e := ok.2.2.2.1 n (by omega)
    rw [fb_sm_succ]
    unfold grs at i ⊢
    by_cases q : s.testBit n = true
    · rw [if_pos q]; omega
    · rw [if_neg q]; omega
theorem wgs_le {C : Cy} (ok : Ok C) (s : Nat) : wgs C s ≤ 99 * 32 := by
  have o0 := ok.1
  have g := grs_le ok s (C 0 0 3) (Nat.le_refl _)
  exact Nat.mul_le_mul (by omega) (by omega)
theorem c_wages {F : Nat} {C : Cy} {hf : Nat → Int32} {s : Nat} (ok : Ok C) (hH : CH C hf) (hs : s < 2 ^ 31) (hF : 100 < F) : X0_wagesOf F (nI (C 0 0 5)) (nI (C 0 0 3)) hf (nI s) = some (nI (wgs C s)) := by
  unfold X0_wagesOf
  rw [c_great ok hH hs hF, q_bs, pk_mul]; rfl
theorem m_wages {F : Nat} {C : Cy} {g : Nat → Int32} {s : Nat} (ok : Ok C) (hM : MS C g) (hs : s < 2 ^ 31) (hF : 100 < F) : X12_wagesOf F g (nI s) = some (nI (wgs C s)) := by
  have o0 := ok.1
  unfold X12_wagesOf
  have it : iter (X12_wagesOf_b4 F g (nI s)) F (nI (C 0 0 5 * fb_sm (grs C s) 0), nI 0) = some (nI (C 0 0 5 * fb_sm (grs C s) (C 0 0 3))) := by
    refine iter_count (b := X12_wagesOf_b4 F g (nI s)) (fun i => (nI (C 0 0 5 * fb_sm (grs C s) i), nI i)) (C 0 0 3) (fun i hi => ?_) ?_ F (by omega)
    · unfold X12_wagesOf_b4 X12_wagesOf_j41
      rw [fb_sm_succ, Nat.mul_add]
      cases hb : s.testBit i with
      | true =>
        have e : grs C s i = C 3 i 2 := by unfold grs; rw [hb]; rfl
        rw [e]; simp (disch := omega) only [l_0, l_1, l_2, l_3, l_4, l_5, l_6, l_7, l_8, l_9, l_10, l_11, l_12, l_13, l_14, l_15, l_16, l_17, l_18, l_19, l_20, l_21, l_22, l_23, l_24, l_25, l_26, l_27, l_30, l_31, l_32, l_40, l_48, l_57, l_59, l_60, l_61, l_62, l_64, l_83, l_90, l_97, l_99, l_100, l_108, l_115, l_122, l_123, l_127, l_128, l_131, l_135, l_200, l_255, l_256, l_300, l_487, l_495, l_900, l_999, l_1000, l_1700, l_1792, l_1980, l_2048, l_2475, l_2970, l_3121, l_9999, l_10000, l_11351, l_65536, l_100000, l_1000000, ↓l_m1, l_neg, nI_add, pk_mul, pk_sub, q_leT, q_leF, q_ltT, q_ltF, q_eqT, q_eqF, q_m1e, q_m1e2, q_m1lt, q_m1le, q_m1nl, q_m1nle, q_m1s, q_ix, q_jat, q_jput, q_min1, q_min2, q_max1, q_max2, q_or0, q_0or, q_bs, if_true, if_false, true_and, and_true, false_and, and_false, not_true_eq_false, not_false_eq_true, eq_self, Bool.false_eq_true, q_z0, q_z1, m_0 hM, m_E hM, m_Es hM, m_Er hM, m_H hM, m_W hM, m_R0 hM, m_R1 hM, m_R2 hM, q_isInT hb hs]
      | false =>
        have e : grs C s i = 0 := by unfold grs; rw [hb]; rfl
        rw [e, Nat.mul_zero]; simp (disch := omega) only [l_0, l_1, l_2, l_3, l_4, l_5, l_6, l_7, l_8, l_9, l_10, l_11, l_12, l_13, l_14, l_15, l_16, l_17, l_18, l_19, l_20, l_21, l_22, l_23, l_24, l_25, l_26, l_27, l_30, l_31, l_32, l_40, l_48, l_57, l_59, l_60, l_61, l_62, l_64, l_83, l_90, l_97, l_99, l_100, l_108, l_115, l_122, l_123, l_127, l_128, l_131, l_135, l_200, l_255, l_256, l_300, l_487, l_495, l_900, l_999, l_1000, l_1700, l_1792, l_1980, l_2048, l_2475, l_2970, l_3121, l_9999, l_10000, l_11351, l_65536, l_100000, l_1000000, ↓l_m1, l_neg, nI_add, pk_mul, pk_sub, q_leT, q_leF, q_ltT, q_ltF, q_eqT, q_eqF, q_m1e, q_m1e2, q_m1lt, q_m1le, q_m1nl, q_m1nle, q_m1s, q_ix, q_jat, q_jput, q_min1, q_min2, q_max1, q_max2, q_or0, q_0or, q_bs, if_true, if_false, true_and, and_true, false_and, and_false, not_true_eq_false, not_false_eq_true, eq_self, Bool.false_eq_true, q_z0, q_z1, m_0 hM, m_E hM, m_Es hM, m_Er hM, m_H hM, m_W hM, m_R0 hM, m_R1 hM, m_R2 hM, q_isInF hb hs]
    · unfold X12_wagesOf_b4
      simp (disch := omega) only [l_0, l_1, l_2, l_3, l_4, l_5, l_6, l_7, l_8, l_9, l_10, l_11, l_12, l_13, l_14, l_15, l_16, l_17, l_18, l_19, l_20, l_21, l_22, l_23, l_24, l_25, l_26, l_27, l_30, l_31, l_32, l_40, l_48, l_57, l_59, l_60, l_61, l_62, l_64, l_83, l_90, l_97, l_99, l_100, l_108, l_115, l_122, l_123, l_127, l_128, l_131, l_135, l_200, l_255, l_256, l_300, l_487, l_495, l_900, l_999, l_1000, l_1700, l_1792, l_1980, l_2048, l_2475, l_2970, l_3121, l_9999, l_10000, l_11351, l_65536, l_100000, l_1000000, ↓l_m1, l_neg, nI_add, pk_mul, pk_sub, q_leT, q_leF, q_ltT, q_ltF, q_eqT, q_eqF, q_m1e, q_m1e2, q_m1lt, q_m1le, q_m1nl, q_m1nle, q_m1s, q_ix, q_jat, q_jput, q_min1, q_min2, q_max1, q_max2, q_or0, q_0or, q_bs, if_true, if_false, true_and, and_true, false_and, and_false, not_true_eq_false, not_false_eq_true, eq_self, Bool.false_eq_true, q_z0, q_z1, m_0 hM, m_E hM, m_Es hM, m_Er hM, m_H hM, m_W hM, m_R0 hM, m_R1 hM, m_R2 hM]
  rw [show ((0 : Int32), (0 : Int32)) = (nI (C 0 0 5 * fb_sm (grs C s) 0), nI 0) from rfl, it, q_bs]; rfl
def btr (C : Cy) (s b : Nat) : Bool := decide (wgs C b < wgs C s ∨ (wgs C s = wgs C b ∧ popc s < popc b))
def bstN (C : Cy) (ca : Nat → Bool) : Nat → Nat
  | 0 => 0
  | i + 1 => if sub i (openS C) && ca i && btr C i (bstN C ca i) then i else bstN C ca i
theorem bstN_lt (C : Cy) (ca : Nat → Bool) : ∀ i, 0 < i → bstN C ca i < i
  | 0, h => by omega
  | i + 1, _ => by
    rw [bstN]
    by_cases q : (sub i (openS C) && ca i && btr C i (bstN C ca i)) = true
    · rw [if_pos q]; omega
    · rw [if_neg q]
      by_cases e : i = 0
      · subst e; exact Nat.one_pos
      · have := bstN_lt C ca i (by omega); omega
theorem bstN_1 (C : Cy) (ca : Nat → Bool) : bstN C ca 1 = 0 := by have := bstN_lt C ca 1 (by omega); omega
theorem bstN_tail {C : Cy} {ca : Nat → Bool} {a : Nat} (ha : openS C < a) : ∀ d, bstN C ca (a + d) = bstN C ca a
  | 0 => rfl
  | d + 1 => by
    have z : sub (a + d) (openS C) = false := by
      cases h : sub (a + d) (openS C) with
      | true => exact absurd (sub_le h) (by omega)
      | false => rfl
    rw [show a + (d + 1) = (a + d) + 1 by omega, bstN, z, Bool.false_and, Bool.false_and, if_neg (by decide), bstN_tail ha d]
theorem c_rich {F : Nat} {C : Cy} {df xf hf lf : Nat → Int32} {n x : Nat} {L : Nat → Nat} (ok : Ok C) (hD : CF C df) (hX : CX C xf) (hH : CH C hf) (hL : LineOK C (C 0 0 3) n L) (hl : ∀ j, j < n → lf j = nI (L j)) (hx : x < C 0 0 2) (hF : 2000 < F) : X4_richest F (nI n) (nI (openS C)) lf (nI (C 0 0 5)) (nI (C 0 0 8)) df (nI (C 0 0 2)) xf (nI (C 0 0 3)) hf (nI x) = some (nI (bstN C (att C L n x) (openS C + 1))) := by
  have o0 := ok.1
  have p8 := pow_nH ok
  have ol : openS C < 2 ^ C 0 0 3 := setOf_lt _ _
  unfold X4_richest
  have it : iter (X4_richest_b8 F (nI n) (nI (openS C)) lf (nI (C 0 0 5)) (nI (C 0 0 8)) df (nI (C 0 0 2)) xf (nI (C 0 0 3)) hf (nI x)) F (nI (bstN C (att C L n x) (1 + 0)), nI (wgs C (bstN C (att C L n x) (1 + 0))), nI (1 + 0)) = some (nI (bstN C (att C L n x) (1 + openS C))) := by
    refine iter_count (b := X4_richest_b8 F (nI n) (nI (openS C)) lf (nI (C 0 0 5)) (nI (C 0 0 8)) df (nI (C 0 0 2)) xf (nI (C 0 0 3)) hf (nI x)) (fun i => (nI (bstN C (att C L n x) (1 + i)), nI (wgs C (bstN C (att C L n x) (1 + i))), nI (1 + i))) (openS C) (fun i hi => ?_) ?_ F (by omega)
    · have bl := bstN_lt C (att C L n x) (1 + i) (by omega)
      have w1 := c_wages (F := F) (s := 1 + i) ok hH (by omega) (by omega)
      have wl1 := wgs_le ok (1 + i)
      have wl2 := wgs_le ok (bstN C (att C L n x) (1 + i))
      have q1 := q_popc (n := 1 + i) (by omega)
      have q2 := q_popc (n := bstN C (att C L n x) (1 + i)) (by omega)
      have pl1 := popc_le (1 + i)
      have pl2 := popc_le (bstN C (att C L n x) (1 + i))
      have ca := c_canAttend (F := F) (x := x) (s := 1 + i) ok hD hX hH hL hl (by omega) hx (by omega)
      have eq : bstN C (att C L n x) (1 + (i + 1)) = if sub (1 + i) (openS C) && att C L n x (1 + i) && btr C (1 + i) (bstN C (att C L n x) (1 + i)) then 1 + i else bstN C (att C L n x) (1 + i) := by rw [show 1 + (i + 1) = (1 + i) + 1 by omega, bstN]
      rw [eq, show 1 + (i + 1) = 1 + i + 1 by omega]
      generalize bstN C (att C L n x) (1 + i) = bb at bl wl2 q2 pl2
      unfold X4_richest_b8 X4_richest_j66 X4_richest_j70 X4_richest_j71 X4_richest_j96
      cases hs : sub (1 + i) (openS C) with
      | false => simp (disch := omega) only [l_0, l_1, l_2, l_3, l_4, l_5, l_6, l_7, l_8, l_9, l_10, l_11, l_12, l_13, l_14, l_15, l_16, l_17, l_18, l_19, l_20, l_21, l_22, l_23, l_24, l_25, l_26, l_27, l_30, l_31, l_32, l_40, l_48, l_57, l_59, l_60, l_61, l_62, l_64, l_83, l_90, l_97, l_99, l_100, l_108, l_115, l_122, l_123, l_127, l_128, l_131, l_135, l_200, l_255, l_256, l_300, l_487, l_495, l_900, l_999, l_1000, l_1700, l_1792, l_1980, l_2048, l_2475, l_2970, l_3121, l_9999, l_10000, l_11351, l_65536, l_100000, l_1000000, ↓l_m1, l_neg, nI_add, pk_mul, pk_sub, q_leT, q_leF, q_ltT, q_ltF, q_eqT, q_eqF, q_m1e, q_m1e2, q_m1lt, q_m1le, q_m1nl, q_m1nle, q_m1s, q_ix, q_jat, q_jput, q_min1, q_min2, q_max1, q_max2, q_or0, q_0or, q_bs, if_true, if_false, true_and, and_true, false_and, and_false, not_true_eq_false, not_false_eq_true, eq_self, Bool.false_eq_true, q_z0, q_z1, q_subF hs, Bool.false_and]
      | true =>
        have yes : btr C (1 + i) bb = true → ∀ z, z = att C L n x (1 + i) → True := fun _ _ _ => trivial
        by_cases g1 : wgs C bb < wgs C (1 + i)
        · have hb : btr C (1 + i) bb = true := decide_eq_true (Or.inl g1)
          cases ha : att C L n x (1 + i) with
          | true => rw [ha] at ca; simp (disch := omega) only [l_0, l_1, l_2, l_3, l_4, l_5, l_6, l_7, l_8, l_9, l_10, l_11, l_12, l_13, l_14, l_15, l_16, l_17, l_18, l_19, l_20, l_21, l_22, l_23, l_24, l_25, l_26, l_27, l_30, l_31, l_32, l_40, l_48, l_57, l_59, l_60, l_61, l_62, l_64, l_83, l_90, l_97, l_99, l_100, l_108, l_115, l_122, l_123, l_127, l_128, l_131, l_135, l_200, l_255, l_256, l_300, l_487, l_495, l_900, l_999, l_1000, l_1700, l_1792, l_1980, l_2048, l_2475, l_2970, l_3121, l_9999, l_10000, l_11351, l_65536, l_100000, l_1000000, ↓l_m1, l_neg, nI_add, pk_mul, pk_sub, q_leT, q_leF, q_ltT, q_ltF, q_eqT, q_eqF, q_m1e, q_m1e2, q_m1lt, q_m1le, q_m1nl, q_m1nle, q_m1s, q_ix, q_jat, q_jput, q_min1, q_min2, q_max1, q_max2, q_or0, q_0or, q_bs, if_true, if_false, true_and, and_true, false_and, and_false, not_true_eq_false, not_false_eq_true, eq_self, Bool.false_eq_true, q_z0, q_z1, q_subT hs, w1, ca, zb_t, hb, Bool.and_self]
          | false => rw [ha] at ca; simp (disch := omega) only [l_0, l_1, l_2, l_3, l_4, l_5, l_6, l_7, l_8, l_9, l_10, l_11, l_12, l_13, l_14, l_15, l_16, l_17, l_18, l_19, l_20, l_21, l_22, l_23, l_24, l_25, l_26, l_27, l_30, l_31, l_32, l_40, l_48, l_57, l_59, l_60, l_61, l_62, l_64, l_83, l_90, l_97, l_99, l_100, l_108, l_115, l_122, l_123, l_127, l_128, l_131, l_135, l_200, l_255, l_256, l_300, l_487, l_495, l_900, l_999, l_1000, l_1700, l_1792, l_1980, l_2048, l_2475, l_2970, l_3121, l_9999, l_10000, l_11351, l_65536, l_100000, l_1000000, ↓l_m1, l_neg, nI_add, pk_mul, pk_sub, q_leT, q_leF, q_ltT, q_ltF, q_eqT, q_eqF, q_m1e, q_m1e2, q_m1lt, q_m1le, q_m1nl, q_m1nle, q_m1s, q_ix, q_jat, q_jput, q_min1, q_min2, q_max1, q_max2, q_or0, q_0or, q_bs, if_true, if_false, true_and, and_true, false_and, and_false, not_true_eq_false, not_false_eq_true, eq_self, Bool.false_eq_true, q_z0, q_z1, q_subT hs, w1, ca, zb_f, hb, Bool.and_false, Bool.false_and]
        · by_cases g2 : wgs C (1 + i) = wgs C bb
          · by_cases g3 : popc (1 + i) < popc bb
            · have hb : btr C (1 + i) bb = true := decide_eq_true (Or.inr ⟨g2, g3⟩)
              cases ha : att C L n x (1 + i) with
              | true => rw [ha] at ca; simp (disch := omega) only [l_0, l_1, l_2, l_3, l_4, l_5, l_6, l_7, l_8, l_9, l_10, l_11, l_12, l_13, l_14, l_15, l_16, l_17, l_18, l_19, l_20, l_21, l_22, l_23, l_24, l_25, l_26, l_27, l_30, l_31, l_32, l_40, l_48, l_57, l_59, l_60, l_61, l_62, l_64, l_83, l_90, l_97, l_99, l_100, l_108, l_115, l_122, l_123, l_127, l_128, l_131, l_135, l_200, l_255, l_256, l_300, l_487, l_495, l_900, l_999, l_1000, l_1700, l_1792, l_1980, l_2048, l_2475, l_2970, l_3121, l_9999, l_10000, l_11351, l_65536, l_100000, l_1000000, ↓l_m1, l_neg, nI_add, pk_mul, pk_sub, q_leT, q_leF, q_ltT, q_ltF, q_eqT, q_eqF, q_m1e, q_m1e2, q_m1lt, q_m1le, q_m1nl, q_m1nle, q_m1s, q_ix, q_jat, q_jput, q_min1, q_min2, q_max1, q_max2, q_or0, q_0or, q_bs, if_true, if_false, true_and, and_true, false_and, and_false, not_true_eq_false, not_false_eq_true, eq_self, Bool.false_eq_true, q_z0, q_z1, q_subT hs, w1, q1, q2, ca, zb_t, hb, Bool.and_self]
              | false => rw [ha] at ca; simp (disch := omega) only [l_0, l_1, l_2, l_3, l_4, l_5, l_6, l_7, l_8, l_9, l_10, l_11, l_12, l_13, l_14, l_15, l_16, l_17, l_18, l_19, l_20, l_21, l_22, l_23, l_24, l_25, l_26, l_27, l_30, l_31, l_32, l_40, l_48, l_57, l_59, l_60, l_61, l_62, l_64, l_83, l_90, l_97, l_99, l_100, l_108, l_115, l_122, l_123, l_127, l_128, l_131, l_135, l_200, l_255, l_256, l_300, l_487, l_495, l_900, l_999, l_1000, l_1700, l_1792, l_1980, l_2048, l_2475, l_2970, l_3121, l_9999, l_10000, l_11351, l_65536, l_100000, l_1000000, ↓l_m1, l_neg, nI_add, pk_mul, pk_sub, q_leT, q_leF, q_ltT, q_ltF, q_eqT, q_eqF, q_m1e, q_m1e2, q_m1lt, q_m1le, q_m1nl, q_m1nle, q_m1s, q_ix, q_jat, q_jput, q_min1, q_min2, q_max1, q_max2, q_or0, q_0or, q_bs, if_true, if_false, true_and, and_true, false_and, and_false, not_true_eq_false, not_false_eq_true, eq_self, Bool.false_eq_true, q_z0, q_z1, q_subT hs, w1, q1, q2, ca, zb_f, hb, Bool.and_false, Bool.false_and]
            · have hb : btr C (1 + i) bb = false := decide_eq_false (by omega)
              simp (disch := omega) only [l_0, l_1, l_2, l_3, l_4, l_5, l_6, l_7, l_8, l_9, l_10, l_11, l_12, l_13, l_14, l_15, l_16, l_17, l_18, l_19, l_20, l_21, l_22, l_23, l_24, l_25, l_26, l_27, l_30, l_31, l_32, l_40, l_48, l_57, l_59, l_60, l_61, l_62, l_64, l_83, l_90, l_97, l_99, l_100, l_108, l_115, l_122, l_123, l_127, l_128, l_131, l_135, l_200, l_255, l_256, l_300, l_487, l_495, l_900, l_999, l_1000, l_1700, l_1792, l_1980, l_2048, l_2475, l_2970, l_3121, l_9999, l_10000, l_11351, l_65536, l_100000, l_1000000, ↓l_m1, l_neg, nI_add, pk_mul, pk_sub, q_leT, q_leF, q_ltT, q_ltF, q_eqT, q_eqF, q_m1e, q_m1e2, q_m1lt, q_m1le, q_m1nl, q_m1nle, q_m1s, q_ix, q_jat, q_jput, q_min1, q_min2, q_max1, q_max2, q_or0, q_0or, q_bs, if_true, if_false, true_and, and_true, false_and, and_false, not_true_eq_false, not_false_eq_true, eq_self, Bool.false_eq_true, q_z0, q_z1, q_subT hs, w1, q1, q2, hb, Bool.and_false]
          · have hb : btr C (1 + i) bb = false := decide_eq_false (by omega)
            simp (disch := omega) only [l_0, l_1, l_2, l_3, l_4, l_5, l_6, l_7, l_8, l_9, l_10, l_11, l_12, l_13, l_14, l_15, l_16, l_17, l_18, l_19, l_20, l_21, l_22, l_23, l_24, l_25, l_26, l_27, l_30, l_31, l_32, l_40, l_48, l_57, l_59, l_60, l_61, l_62, l_64, l_83, l_90, l_97, l_99, l_100, l_108, l_115, l_122, l_123, l_127, l_128, l_131, l_135, l_200, l_255, l_256, l_300, l_487, l_495, l_900, l_999, l_1000, l_1700, l_1792, l_1980, l_2048, l_2475, l_2970, l_3121, l_9999, l_10000, l_11351, l_65536, l_100000, l_1000000, ↓l_m1, l_neg, nI_add, pk_mul, pk_sub, q_leT, q_leF, q_ltT, q_ltF, q_eqT, q_eqF, q_m1e, q_m1e2, q_m1lt, q_m1le, q_m1nl, q_m1nle, q_m1s, q_ix, q_jat, q_jput, q_min1, q_min2, q_max1, q_max2, q_or0, q_0or, q_bs, if_true, if_false, true_and, and_true, false_and, and_false, not_true_eq_false, not_false_eq_true, eq_self, Bool.false_eq_true, q_z0, q_z1, q_subT hs, w1, hb, Bool.and_false]
    · unfold X4_richest_b8
      simp (disch := omega) only [l_0, l_1, l_2, l_3, l_4, l_5, l_6, l_7, l_8, l_9, l_10, l_11, l_12, l_13, l_14, l_15, l_16, l_17, l_18, l_19, l_20, l_21, l_22, l_23, l_24, l_25, l_26, l_27, l_30, l_31, l_32, l_40, l_48, l_57, l_59, l_60, l_61, l_62, l_64, l_83, l_90, l_97, l_99, l_100, l_108, l_115, l_122, l_123, l_127, l_128, l_131, l_135, l_200, l_255, l_256, l_300, l_487, l_495, l_900, l_999, l_1000, l_1700, l_1792, l_1980, l_2048, l_2475, l_2970, l_3121, l_9999, l_10000, l_11351, l_65536, l_100000, l_1000000, ↓l_m1, l_neg, nI_add, pk_mul, pk_sub, q_leT, q_leF, q_ltT, q_ltF, q_eqT, q_eqF, q_m1e, q_m1e2, q_m1lt, q_m1le, q_m1nl, q_m1nle, q_m1s, q_ix, q_jat, q_jput, q_min1, q_min2, q_max1, q_max2, q_or0, q_0or, q_bs, if_true, if_false, true_and, and_true, false_and, and_false, not_true_eq_false, not_false_eq_true, eq_self, Bool.false_eq_true, q_z0, q_z1]
  have z0 : bstN C (att C L n x) (1 + 0) = 0 := bstN_1 C _
  have zw : wgs C 0 = 0 := by
    unfold wgs
    have : fb_sm (grs C 0) (C 0 0 3) = 0 := by
      have : ∀ m, fb_sm (grs C 0) m = 0 := by
        intro m
        induction m with
        | zero => rfl
        | succ m ih => rw [fb_sm_succ, ih]; unfold grs; rw [Nat.zero_testBit]; rfl
      exact this _
    rw [this, Nat.mul_zero]
  rw [z0, zw] at it
  rw [show ((0 : Int32), (0 : Int32), (1 : Int32)) = (nI 0, nI 0, nI (1 + 0)) from rfl, it, q_bs, Nat.add_comm 1]
