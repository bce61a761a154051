/-! ===== PURE 17.b: who can attend what ===== -/
/-- the hour u less 1 -/
def hI (u : Nat) : Int32 := nI u - nI 1
theorem hI_s (d : Nat) : nI d = hI (d + 1) := by unfold hI; rw [pk_sub (by omega)]; rfl
theorem hI_i {d u : Nat} (hd : d < 2 ^ 20) (hu : u < 2 ^ 20) : (nI d - hI u).toInt = (d : Int) - u + 1 := by
  have e : (hI u).toInt = (u : Int) - 1 := by unfold hI; exact pk_sub_toInt (by omega) (by omega)
  rw [fb_subI (by rw [e, nI_toInt (by omega)]; omega) (by rw [e, nI_toInt (by omega)]; omega), e, nI_toInt (by omega)]; omega
theorem hr_lt {d u f : Nat} (hd : d < 2 ^ 20) (hu : u < 2 ^ 20) (hf : f < 2 ^ 21) : (nI d - hI u < nI f) = (d + 1 < f + u) := by
  rw [fa_lt, hI_i hd hu, nI_toInt (by omega)]; exact propext ⟨fun h => by omega, fun h => by omega⟩
theorem hr_le {d u f : Nat} (hd : d < 2 ^ 20) (hu : u < 2 ^ 20) (hf : f < 2 ^ 21) : (nI f ≤ nI d - hI u) = (f + u ≤ d + 1) := by
  rw [fa_le, hI_i hd hu, nI_toInt (by omega)]; exact propext ⟨fun h => by omega, fun h => by omega⟩
def cmT (C : Cy) (c u h : Nat) : Bool := decide (far C c (C 3 h 0) + u ≤ C 3 h 1 + 1)
theorem c_comesTo {C : Cy} {df hf : Nat → Int32} {c u h : Nat} (ok : Ok C) (hD : CF C df) (hH : CH C hf) (hc : c < 8) (hh : h < C 0 0 3) (hu : u < 2 ^ 20) : X4_comesTo df (nI (C 0 0 3)) hf (nI c) (hI u) (nI h) = some (zb (cmT C c u h)) := by
  have o0 := ok.1
  have e1 := ok.2.2.2.1 h hh
  have fl := far_le C c (C 3 h 0)
  unfold X4_comesTo X4_comesTo_j45 cmT
  by_cases q : far C c (C 3 h 0) < 1000000
  · have s := far_small ok hc (show C 3 h 0 < 8 by omega) q
    have hb := c_hB ok hD (by omega) hc (show C 3 h 0 < 8 by omega) q
    by_cases q2 : far C c (C 3 h 0) + u ≤ C 3 h 1 + 1
    · have z : (C 3 h 1 + 1 < far C c (C 3 h 0) + u) = False := eq_false (by omega)
      rw [decide_eq_true q2, zb_t]
      simp (disch := omega) only [l_0, l_1, l_2, l_3, l_4, l_5, l_6, l_7, l_8, l_9, l_10, l_11, l_12, l_13, l_14, l_15, l_16, l_17, l_18, l_19, l_20, l_21, l_22, l_23, l_24, l_25, l_26, l_27, l_30, l_31, l_32, l_40, l_48, l_57, l_59, l_60, l_61, l_62, l_64, l_83, l_90, l_97, l_99, l_100, l_108, l_115, l_122, l_123, l_127, l_128, l_131, l_135, l_200, l_255, l_256, l_300, l_487, l_495, l_900, l_999, l_1000, l_1700, l_1792, l_1980, l_2048, l_2475, l_2970, l_3121, l_9999, l_10000, l_11351, l_65536, l_100000, l_1000000, ↓l_m1, l_neg, nI_add, pk_mul, pk_sub, q_leT, q_leF, q_ltT, q_ltF, q_eqT, q_eqF, q_m1e, q_m1e2, q_m1lt, q_m1le, q_m1nl, q_m1nle, q_m1s, q_ix, q_jat, q_jput, q_min1, q_min2, q_max1, q_max2, q_or0, q_0or, q_bs, if_true, if_false, true_and, and_true, false_and, and_false, not_true_eq_false, not_false_eq_true, eq_self, Bool.false_eq_true, q_z0, q_z1, q_get, q_set, q_raise, hH h, hb, hr_lt, z]
    · have z : (C 3 h 1 + 1 < far C c (C 3 h 0) + u) = True := eq_true (by omega)
      rw [decide_eq_false q2, zb_f]
      simp (disch := omega) only [l_0, l_1, l_2, l_3, l_4, l_5, l_6, l_7, l_8, l_9, l_10, l_11, l_12, l_13, l_14, l_15, l_16, l_17, l_18, l_19, l_20, l_21, l_22, l_23, l_24, l_25, l_26, l_27, l_30, l_31, l_32, l_40, l_48, l_57, l_59, l_60, l_61, l_62, l_64, l_83, l_90, l_97, l_99, l_100, l_108, l_115, l_122, l_123, l_127, l_128, l_131, l_135, l_200, l_255, l_256, l_300, l_487, l_495, l_900, l_999, l_1000, l_1700, l_1792, l_1980, l_2048, l_2475, l_2970, l_3121, l_9999, l_10000, l_11351, l_65536, l_100000, l_1000000, ↓l_m1, l_neg, nI_add, pk_mul, pk_sub, q_leT, q_leF, q_ltT, q_ltF, q_eqT, q_eqF, q_m1e, q_m1e2, q_m1lt, q_m1le, q_m1nl, q_m1nle, q_m1s, q_ix, q_jat, q_jput, q_min1, q_min2, q_max1, q_max2, q_or0, q_0or, q_bs, if_true, if_false, true_and, and_true, false_and, and_false, not_true_eq_false, not_false_eq_true, eq_self, Bool.false_eq_true, q_z0, q_z1, q_get, q_set, q_raise, hH h, hb, hr_lt, z]
  · have hb := c_hBn hD (by omega) hc (show C 3 h 0 < 8 by omega) q
    rw [decide_eq_false (by omega), zb_f]
    simp (disch := omega) only [l_0, l_1, l_2, l_3, l_4, l_5, l_6, l_7, l_8, l_9, l_10, l_11, l_12, l_13, l_14, l_15, l_16, l_17, l_18, l_19, l_20, l_21, l_22, l_23, l_24, l_25, l_26, l_27, l_30, l_31, l_32, l_40, l_48, l_57, l_59, l_60, l_61, l_62, l_64, l_83, l_90, l_97, l_99, l_100, l_108, l_115, l_122, l_123, l_127, l_128, l_131, l_135, l_200, l_255, l_256, l_300, l_487, l_495, l_900, l_999, l_1000, l_1700, l_1792, l_1980, l_2048, l_2475, l_2970, l_3121, l_9999, l_10000, l_11351, l_65536, l_100000, l_1000000, ↓l_m1, l_neg, nI_add, pk_mul, pk_sub, q_leT, q_leF, q_ltT, q_ltF, q_eqT, q_eqF, q_m1e, q_m1e2, q_m1lt, q_m1le, q_m1nl, q_m1nle, q_m1s, q_ix, q_jat, q_jput, q_min1, q_min2, q_max1, q_max2, q_or0, q_0or, q_bs, if_true, if_false, true_and, and_true, false_and, and_false, not_true_eq_false, not_false_eq_true, eq_self, Bool.false_eq_true, q_z0, q_z1, q_get, q_set, q_raise, hH h, hb]
def canA (C : Cy) (L : Nat → Nat) (s : Nat) : Nat → Nat → Nat → Nat → Bool
  | 0, _, _, _ => true
  | d + 1, p, c, u => if s.testBit (L p) then cmT C c u (L p) && canA C L s d (p + 1) (C 3 (L p) 0) (C 3 (L p) 1 + 1) else canA C L s d (p + 1) c u
theorem c_can_it {F : Nat} {C : Cy} {df xf hf lf : Nat → Int32} {n s : Nat} {L : Nat → Nat} (ok : Ok C) (hD : CF C df) (hH : CH C hf) (hL : LineOK C (C 0 0 3) n L) (hl : ∀ j, j < n → lf j = nI (L j)) (hs : s < 2 ^ 31) :
    ∀ d p c u G, p + d = n → c < 8 → u < 2 ^ 20 → d < G → iter (X4_canAttend_b21 F (nI n) lf (nI (C 0 0 8)) df (nI (C 0 0 2)) xf (nI (C 0 0 3)) hf (nI s)) G (nI c, hI u, nI p) = some (if canA C L s d p c u then .inr () else .inl ()) := by
  have o0 := ok.1
  have n8 := hL.1
  intro d
  induction d with
  | zero =>
    intro p c u G hp hc hu hG
    obtain ⟨G, rfl⟩ : ∃ G', G = G' + 1 := ⟨G - 1, by omega⟩
    have b : X4_canAttend_b21 F (nI n) lf (nI (C 0 0 8)) df (nI (C 0 0 2)) xf (nI (C 0 0 3)) hf (nI s) (nI c, hI u, nI p) = some (.inr (.inr ())) := by
      unfold X4_canAttend_b21; simp (disch := omega) only [l_0, l_1, l_2, l_3, l_4, l_5, l_6, l_7, l_8, l_9, l_10, l_11, l_12, l_13, l_14, l_15, l_16, l_17, l_18, l_19, l_20, l_21, l_22, l_23, l_24, l_25, l_26, l_27, l_30, l_31, l_32, l_40, l_48, l_57, l_59, l_60, l_61, l_62, l_64, l_83, l_90, l_97, l_99, l_100, l_108, l_115, l_122, l_123, l_127, l_128, l_131, l_135, l_200, l_255, l_256, l_300, l_487, l_495, l_900, l_999, l_1000, l_1700, l_1792, l_1980, l_2048, l_2475, l_2970, l_3121, l_9999, l_10000, l_11351, l_65536, l_100000, l_1000000, ↓l_m1, l_neg, nI_add, pk_mul, pk_sub, q_leT, q_leF, q_ltT, q_ltF, q_eqT, q_eqF, q_m1e, q_m1e2, q_m1lt, q_m1le, q_m1nl, q_m1nle, q_m1s, q_ix, q_jat, q_jput, q_min1, q_min2, q_max1, q_max2, q_or0, q_0or, q_bs, if_true, if_false, true_and, and_true, false_and, and_false, not_true_eq_false, not_false_eq_true, eq_self, Bool.false_eq_true, q_z0, q_z1]
    rw [iter, b]; rfl
  | succ d ih =>
    intro p c u G hp hc hu hG
    obtain ⟨G, rfl⟩ : ∃ G', G = G' + 1 := ⟨G - 1, by omega⟩
    have hLp := (hL.2.1 p (by omega)).1
    have e1 := ok.2.2.2.1 (L p) hLp
    have g := hl p (by omega)
    rw [canA]
    cases hb : s.testBit (L p) with
    | false =>
      have b : X4_canAttend_b21 F (nI n) lf (nI (C 0 0 8)) df (nI (C 0 0 2)) xf (nI (C 0 0 3)) hf (nI s) (nI c, hI u, nI p) = some (.inl (nI c, hI u, nI (p + 1))) := by
        unfold X4_canAttend_b21 X4_canAttend_j90; simp (disch := omega) only [l_0, l_1, l_2, l_3, l_4, l_5, l_6, l_7, l_8, l_9, l_10, l_11, l_12, l_13, l_14, l_15, l_16, l_17, l_18, l_19, l_20, l_21, l_22, l_23, l_24, l_25, l_26, l_27, l_30, l_31, l_32, l_40, l_48, l_57, l_59, l_60, l_61, l_62, l_64, l_83, l_90, l_97, l_99, l_100, l_108, l_115, l_122, l_123, l_127, l_128, l_131, l_135, l_200, l_255, l_256, l_300, l_487, l_495, l_900, l_999, l_1000, l_1700, l_1792, l_1980, l_2048, l_2475, l_2970, l_3121, l_9999, l_10000, l_11351, l_65536, l_100000, l_1000000, ↓l_m1, l_neg, nI_add, pk_mul, pk_sub, q_leT, q_leF, q_ltT, q_ltF, q_eqT, q_eqF, q_m1e, q_m1e2, q_m1lt, q_m1le, q_m1nl, q_m1nle, q_m1s, q_ix, q_jat, q_jput, q_min1, q_min2, q_max1, q_max2, q_or0, q_0or, q_bs, if_true, if_false, true_and, and_true, false_and, and_false, not_true_eq_false, not_false_eq_true, eq_self, Bool.false_eq_true, q_z0, q_z1, g, q_bit0T hb hs]
      rw [iter, b]
      exact ih (p + 1) c u G (by omega) hc hu (by omega)
    | true =>
      have ct := c_comesTo (u := u) ok hD hH hc hLp hu
      cases hm : cmT C c u (L p) with
      | false =>
        rw [hm] at ct
        have b : X4_canAttend_b21 F (nI n) lf (nI (C 0 0 8)) df (nI (C 0 0 2)) xf (nI (C 0 0 3)) hf (nI s) (nI c, hI u, nI p) = some (.inr (.inl ())) := by
          unfold X4_canAttend_b21 X4_canAttend_j90; simp (disch := omega) only [l_0, l_1, l_2, l_3, l_4, l_5, l_6, l_7, l_8, l_9, l_10, l_11, l_12, l_13, l_14, l_15, l_16, l_17, l_18, l_19, l_20, l_21, l_22, l_23, l_24, l_25, l_26, l_27, l_30, l_31, l_32, l_40, l_48, l_57, l_59, l_60, l_61, l_62, l_64, l_83, l_90, l_97, l_99, l_100, l_108, l_115, l_122, l_123, l_127, l_128, l_131, l_135, l_200, l_255, l_256, l_300, l_487, l_495, l_900, l_999, l_1000, l_1700, l_1792, l_1980, l_2048, l_2475, l_2970, l_3121, l_9999, l_10000, l_11351, l_65536, l_100000, l_1000000, ↓l_m1, l_neg, nI_add, pk_mul, pk_sub, q_leT, q_leF, q_ltT, q_ltF, q_eqT, q_eqF, q_m1e, q_m1e2, q_m1lt, q_m1le, q_m1nl, q_m1nle, q_m1s, q_ix, q_jat, q_jput, q_min1, q_min2, q_max1, q_max2, q_or0, q_0or, q_bs, if_true, if_false, true_and, and_true, false_and, and_false, not_true_eq_false, not_false_eq_true, eq_self, Bool.false_eq_true, q_z0, q_z1, g, q_bit0F hb hs, ct, zb_f]
        rw [iter, b]; rfl
      | true =>
        rw [hm] at ct
        have b : X4_canAttend_b21 F (nI n) lf (nI (C 0 0 8)) df (nI (C 0 0 2)) xf (nI (C 0 0 3)) hf (nI s) (nI c, hI u, nI p) = some (.inl (nI (C 3 (L p) 0), nI (C 3 (L p) 1), nI (p + 1))) := by
          unfold X4_canAttend_b21 X4_canAttend_j90; simp (disch := omega) only [l_0, l_1, l_2, l_3, l_4, l_5, l_6, l_7, l_8, l_9, l_10, l_11, l_12, l_13, l_14, l_15, l_16, l_17, l_18, l_19, l_20, l_21, l_22, l_23, l_24, l_25, l_26, l_27, l_30, l_31, l_32, l_40, l_48, l_57, l_59, l_60, l_61, l_62, l_64, l_83, l_90, l_97, l_99, l_100, l_108, l_115, l_122, l_123, l_127, l_128, l_131, l_135, l_200, l_255, l_256, l_300, l_487, l_495, l_900, l_999, l_1000, l_1700, l_1792, l_1980, l_2048, l_2475, l_2970, l_3121, l_9999, l_10000, l_11351, l_65536, l_100000, l_1000000, ↓l_m1, l_neg, nI_add, pk_mul, pk_sub, q_leT, q_leF, q_ltT, q_ltF, q_eqT, q_eqF, q_m1e, q_m1e2, q_m1lt, q_m1le, q_m1nl, q_m1nle, q_m1s, q_ix, q_jat, q_jput, q_min1, q_min2, q_max1, q_max2, q_or0, q_0or, q_bs, if_true, if_false, true_and, and_true, false_and, and_false, not_true_eq_false, not_false_eq_true, eq_self, Bool.false_eq_true, q_z0, q_z1, q_get, q_set, q_raise, g, q_bit0F hb hs, ct, zb_t, hH (L p)]
        rw [iter, b, hI_s (C 3 (L p) 1)]
        exact ih (p + 1) (C 3 (L p) 0) (C 3 (L p) 1 + 1) G (by omega) (by omega) (by omega) (by omega)
/-- what is left of a set behind place p -/
def LeftOK (L : Nat → Nat) (n s p left : Nat) : Prop := ∀ h, left.testBit h = true ↔ ∃ j, p ≤ j ∧ j < n ∧ L j = h ∧ s.testBit h = true
theorem L_inj {C : Cy} {i n : Nat} {L : Nat → Nat} (hL : LineOK C i n L) {j k : Nat} (hj : j < n) (hk : k < n) (e : L j = L k) : j = k := by
  rcases Nat.lt_trichotomy j k with h | h | h
  · have := hL.2.2.1 j k h hk; rw [e] at this; omega
  · exact h
  · have := hL.2.2.1 k j h hj; rw [e] at this; omega
theorem soon_left {C : Cy} {n s p left : Nat} {L : Nat → Nat} (ok : Ok C) (hL : LineOK C (C 0 0 3) n L) (hp : p < n) (hl : LeftOK L n s p left) (hb : s.testBit (L p) = true) : fmin (bf C left) (due C) (C 0 0 3) = some (L p) := by
  have hLp := hL.2.1 p hp
  have o0 := ok.1
  have z0 := of_decide_eq_true hLp.2
  have bp : bf C left (L p) = true := bf_2 ((hl _).mpr ⟨p, Nat.le_refl _, hp, rfl, hb⟩) z0.1
  cases hq : fmin (bf C left) (due C) (C 0 0 3) with
  | none => have := fmin_none hq (L p) hLp.1; rw [this] at bp; cases bp
  | some k =>
    have hk := fmin_in hq
    have best := fmin_best hq (L p) hLp.1 bp
    have kl : left.testBit k = true := by
      have := hk.2
      unfold bf at this
      rw [Bool.and_eq_true] at this; exact this.1
    obtain ⟨j, j1, j2, j3, _⟩ := (hl k).mp kl
    by_cases e : j = p
    · rw [← j3, e]
    · have kk := hL.2.2.1 p j (by omega) j2
      rw [j3] at kk
      have l1 := hLp.1
      have l2 := hk.1
      unfold key at kk
      unfold due at best
      exfalso
      by_cases q : L p < k
      · have := best.2 q; omega
      · omega
