/-! ===== PURE 16.a: fractions ===== -/
theorem lcmp0 {b : Nat} (hb : b < 2 ^ 63) : (lg_cmp (lN b) 0 = 0) ↔ b = 0 := by
  rw [lg_cmp_eq, show (0 : Int64) = lN 0 from rfl, pk_lEQ hb (by omega)]
theorem lne0 {b : Nat} (hb : b < 2 ^ 63) : (lN b = (0 : Int64)) ↔ b = 0 := by
  rw [show (0 : Int64) = lN 0 from rfl, pk_lEQ hb (by omega)]
theorem lle0 {b : Nat} (hb : b < 2 ^ 63) : (lg_cmp (lN b) 0 ≤ 0) ↔ b = 0 := by
  rw [lg_cmp_le, show (0 : Int64) = lN 0 from rfl, pk_lLE hb (by omega)]; omega
theorem jrem64_e {a b : Nat} (ha : a < 2 ^ 63) (h0 : 0 < b) (hb : b < 2 ^ 63) : jrem64 (lN a) (lN b) = lN (a % b) := by
  unfold jrem64; exact pk_lRem ha h0 hb
theorem gcd_st (a b : Nat) : Nat.gcd a b = Nat.gcd b (a % b) := by rw [Nat.gcd_comm a b, Nat.gcd_rec b a, Nat.gcd_comm]
theorem half {b r k : Nat} (hr : 0 < r) (hrb : r < b) (hb : b < 2 ^ (k + 1)) : b % r < 2 ^ k := by
  have h1 : b % r < r := Nat.mod_lt _ hr
  have h2 : b % r ≤ b - r := by rw [Nat.mod_eq_sub_mod (by omega)]; exact Nat.mod_le _ _
  rw [Nat.pow_succ] at hb
  omega
theorem m_eu1 {F a b : Nat} {s : Int32} {o1 o2 v1 v3 : Int64} (ha : a < 2 ^ 63) (hb : b < 2 ^ 63) : X12_tellsBy_b6 F s o1 o2 v1 v3 (lN a, lN b) = if b = 0 then some (.inr (lN a)) else some (.inl (lN b, lN (a % b))) := by
  unfold X12_tellsBy_b6
  by_cases q : b = 0
  · rw [if_pos q, if_pos ((lcmp0 hb).mpr q)]
  · rw [if_neg q, if_neg (fun z => q ((lcmp0 hb).mp z)), if_pos (fun z => q ((lne0 hb).mp z)), jrem64_e ha (by omega) hb]
theorem m_euclid {F : Nat} {s : Int32} {o1 o2 v1 v3 : Int64} : ∀ k a b G, b < 2 ^ k → a < 2 ^ 63 → b < 2 ^ 63 → 2 * k + 1 < G → iter (X12_tellsBy_b6 F s o1 o2 v1 v3) G (lN a, lN b) = some (lN (Nat.gcd a b)) := by
  intro k
  induction k with
  | zero =>
    intro a b G hk ha hb hG
    have b0' : b = 0 := by rw [Nat.pow_zero] at hk; omega
    obtain ⟨G, rfl⟩ : ∃ G', G = G' + 1 := ⟨G - 1, by omega⟩
    rw [iter, m_eu1 ha hb, if_pos b0', b0', Nat.gcd_zero_right]
  | succ k ih =>
    intro a b G hk ha hb hG
    obtain ⟨G, rfl⟩ : ∃ G', G = G' + 1 := ⟨G - 1, by omega⟩
    rw [iter, m_eu1 ha hb]
    by_cases q : b = 0
    · rw [if_pos q, q, Nat.gcd_zero_right]
    · rw [if_neg q]
      have hr : a % b < b := Nat.mod_lt _ (by omega)
      obtain ⟨G, rfl⟩ : ∃ G', G = G' + 1 := ⟨G - 1, by omega⟩
      show iter (X12_tellsBy_b6 F s o1 o2 v1 v3) (G + 1) (lN b, lN (a % b)) = _
      rw [iter, m_eu1 hb (by omega), gcd_st a b]
      by_cases q2 : a % b = 0
      · rw [if_pos q2, q2, Nat.gcd_zero_right]
      · rw [if_neg q2]
        have hh := half (k := k) (show 0 < a % b by omega) hr hk
        have hm : b % (a % b) < a % b := Nat.mod_lt _ (by omega)
        show iter (X12_tellsBy_b6 F s o1 o2 v1 v3) G (lN (a % b), lN (b % (a % b))) = _
        rw [ih (a % b) (b % (a % b)) G hh (by omega) (by omega) (by omega), gcd_st b (a % b)]
theorem c_eu1 {F a b t : Nat} {o1 o2 v1 v3 : Int64} (ha : a < 2 ^ 63) (hb : b < 2 ^ 63) (ht : t < 200) : X11_keepFraction_b9 F o1 o2 v1 v3 (lN a, lN b, nI t) = if b = 0 then some (.inr (lN a)) else some (.inl (lN b, lN (a % b), nI (t + 1))) := by
  unfold X11_keepFraction_b9
  rw [if_neg (show ¬ (200 : Int32) ≤ nI t from (show ¬ nI 200 ≤ nI t from nI_ge ht (by omega)))]
  by_cases q : b = 0
  · rw [if_pos q, if_pos ((lle0 hb).mpr q)]
  · rw [if_neg q, if_neg (fun z => q ((lle0 hb).mp z)), if_pos (fun z => q ((lne0 hb).mp z)), jrem64_e ha (by omega) hb, show nI t + 1 = nI (t + 1) from nI_1 t]
theorem c_euclid {F : Nat} {o1 o2 v1 v3 : Int64} : ∀ k a b t G, b < 2 ^ k → a < 2 ^ 63 → b < 2 ^ 63 → t + (2 * k + 1) < 200 → 2 * k + 1 < G → iter (X11_keepFraction_b9 F o1 o2 v1 v3) G (lN a, lN b, nI t) = some (lN (Nat.gcd a b)) := by
  intro k
  induction k with
  | zero =>
    intro a b t G hk ha hb ht hG
    have b0' : b = 0 := by rw [Nat.pow_zero] at hk; omega
    obtain ⟨G, rfl⟩ : ∃ G', G = G' + 1 := ⟨G - 1, by omega⟩
    rw [iter, c_eu1 ha hb (by omega), if_pos b0', b0', Nat.gcd_zero_right]
  | succ k ih =>
    intro a b t G hk ha hb ht hG
    obtain ⟨G, rfl⟩ : ∃ G', G = G' + 1 := ⟨G - 1, by omega⟩
    rw [iter, c_eu1 ha hb (by omega)]
    by_cases q : b = 0
    · rw [if_pos q, q, Nat.gcd_zero_right]
    · rw [if_neg q]
      have hr : a % b < b := Nat.mod_lt _ (by omega)
      obtain ⟨G, rfl⟩ : ∃ G', G = G' + 1 := ⟨G - 1, by omega⟩
      show iter (X11_keepFraction_b9 F o1 o2 v1 v3) (G + 1) (lN b, lN (a % b), nI (t + 1)) = _
      rw [iter, c_eu1 hb (by omega) (by omega), gcd_st a b]
      by_cases q2 : a % b = 0
      · rw [if_pos q2, q2, Nat.gcd_zero_right]
      · rw [if_neg q2]
        have hh := half (k := k) (show 0 < a % b by omega) hr hk
        have hm : b % (a % b) < a % b := Nat.mod_lt _ (by omega)
        show iter (X11_keepFraction_b9 F o1 o2 v1 v3) G (lN (a % b), lN (b % (a % b)), nI (t + 1 + 1)) = _
        rw [ih (a % b) (b % (a % b)) (t + 1 + 1) G hh (by omega) (by omega) (by omega) (by omega), gcd_st b (a % b)]
theorem gcd_lt {a b : Nat} (hb : 0 < b) (hb2 : b < 2 ^ 63) : 0 < Nat.gcd a b ∧ Nat.gcd a b < 2 ^ 63 := ⟨Nat.gcd_pos_of_pos_right a hb, Nat.lt_of_le_of_lt (Nat.gcd_le_right a hb) hb2⟩
theorem c_frac {F a b : Nat} {o1 o2 : Int64} (ha : a < 2 ^ 63) (h0 : 0 < b) (hb : b < 2 ^ 63) (hF : 2000 < F) : X11_keepFraction F o1 o2 (lN a) (lN b) = some (lN (a / Nat.gcd a b), lN (b / Nat.gcd a b)) := by
  have g := gcd_lt (a := a) h0 hb
  unfold X11_keepFraction X11_keepFraction_j45
  rw [show (lN a, lN b, (0 : Int32)) = (lN a, lN b, nI 0) from rfl, c_euclid 63 a b 0 F hb ha hb (by omega) (by omega), q_bs]
  rw [if_neg (fun z => absurd ((lle0 g.2).mp z) (by omega)), if_pos (fun z => absurd ((lne0 g.2).mp z) (by omega)), if_pos (fun z => absurd ((lne0 g.2).mp z) (by omega)), pk_lDiv ha g.1 g.2, pk_lDiv hb g.1 g.2]
theorem m_frac {F a b : Nat} {s : Int32} {o1 o2 : Int64} (ha : a < 2 ^ 63) (h0 : 0 < b) (hb : b < 2 ^ 63) (hF : 2000 < F) : X12_tellsBy F s o1 o2 (lN a) (lN b) = some (nI 1, nI 0, lN (a / Nat.gcd a b), lN (b / Nat.gcd a b)) := by
  have g := gcd_lt (a := a) h0 hb
  unfold X12_tellsBy
  rw [m_euclid 63 a b F hb ha hb (by omega), q_bs]
  rw [if_pos (fun z => absurd ((lne0 g.2).mp z) (by omega)), if_pos (fun z => absurd ((lne0 g.2).mp z) (by omega)), show (0 : Int32) = nI 0 from rfl, q_is0, q_bs, pk_lDiv ha g.1 g.2, pk_lDiv hb g.1 g.2]
  rfl
theorem Rel_fr {S T : vS} {x y : Int64} (h : Rel S T) (st : Int32) : Rel (sJ (sJ (sI S 5 st) 0 x) 1 y) (sJ (sJ (sI T 0 st) 0 x) 1 y) := by
  obtain ⟨a1, a2, a3, a4, a5, a6, a7, a8⟩ := h
  refine ⟨rfl, ⟨rfl, rfl⟩, a3, a4, a5, a6, R_mk_gen a7 rfl (fun k h1 h2 => ?_) (fun k h1 h2 => rfl) (fun k h1 h2 => rfl) rfl (fun _ _ _ => rfl) (fun _ _ _ => rfl), R_ci_gen a8 (fun k h1 => ?_) (fun k h1 => rfl) rfl (fun _ _ => rfl) (fun _ _ => rfl)⟩
  · simp (disch := omega) only [sI, sA, sB, sJ, up_n]
  · simp (disch := omega) only [sI, sA, sB, sJ, up_n]
/-! the class's sum -/
theorem c_power {F b e : Nat} (he : e ≤ 20) (hF : 2000 < F) : X11_power F (lN b) (nI e) = some (lN (b ^ e)) := by
  unfold X11_power
  have it : iter (X11_power_b5 F (lN b) (nI e)) F (lN (b ^ 0), nI 0) = some (lN (b ^ e)) := by
    refine iter_count (b := X11_power_b5 F (lN b) (nI e)) (fun i => (lN (b ^ i), nI i)) e (fun i hi => ?_) ?_ F (by omega)
    · unfold X11_power_b5
      rw [Nat.pow_succ]
      simp (disch := omega) only [l_0, l_1, l_2, l_3, l_4, l_5, l_6, l_7, l_8, l_9, l_10, l_11, l_12, l_13, l_14, l_15, l_16, l_17, l_18, l_19, l_20, l_21, l_22, l_23, l_24, l_25, l_26, l_27, l_30, l_31, l_32, l_40, l_48, l_57, l_59, l_60, l_61, l_62, l_64, l_83, l_90, l_97, l_99, l_100, l_108, l_115, l_122, l_123, l_127, l_128, l_131, l_135, l_200, l_255, l_256, l_300, l_487, l_495, l_900, l_999, l_1000, l_1700, l_1792, l_1980, l_2048, l_2475, l_2970, l_3121, l_9999, l_10000, l_11351, l_65536, l_100000, l_1000000, ↓l_m1, l_neg, nI_add, pk_mul, pk_sub, q_leT, q_leF, q_ltT, q_ltF, q_eqT, q_eqF, q_m1e, q_m1e2, q_m1lt, q_m1le, q_m1nl, q_m1nle, q_m1s, q_ix, q_jat, q_jput, q_min1, q_min2, q_max1, q_max2, q_or0, q_0or, q_bs, if_true, if_false, true_and, and_true, false_and, and_false, not_true_eq_false, not_false_eq_true, eq_self, Bool.false_eq_true, q_z0, q_z1, lN_mul]
    · unfold X11_power_b5
      simp (disch := omega) only [l_0, l_1, l_2, l_3, l_4, l_5, l_6, l_7, l_8, l_9, l_10, l_11, l_12, l_13, l_14, l_15, l_16, l_17, l_18, l_19, l_20, l_21, l_22, l_23, l_24, l_25, l_26, l_27, l_30, l_31, l_32, l_40, l_48, l_57, l_59, l_60, l_61, l_62, l_64, l_83, l_90, l_97, l_99, l_100, l_108, l_115, l_122, l_123, l_127, l_128, l_131, l_135, l_200, l_255, l_256, l_300, l_487, l_495, l_900, l_999, l_1000, l_1700, l_1792, l_1980, l_2048, l_2475, l_2970, l_3121, l_9999, l_10000, l_11351, l_65536, l_100000, l_1000000, ↓l_m1, l_neg, nI_add, pk_mul, pk_sub, q_leT, q_leF, q_ltT, q_ltF, q_eqT, q_eqF, q_m1e, q_m1e2, q_m1lt, q_m1le, q_m1nl, q_m1nle, q_m1s, q_ix, q_jat, q_jput, q_min1, q_min2, q_max1, q_max2, q_or0, q_0or, q_bs, if_true, if_false, true_and, and_true, false_and, and_false, not_true_eq_false, not_false_eq_true, eq_self, Bool.false_eq_true, q_z0, q_z1]
  rw [show ((1 : Int64), (0 : Int32)) = (lN (b ^ 0), nI 0) from rfl, it, q_bs]
def chs (s m : Nat) : Nat → Nat
  | 0 => 1
  | i + 1 => chs s m i * (s - m + (i + 1)) / (i + 1)
theorem chs_b : ∀ s, s < 8 → ∀ m, m < 8 → m ≤ s → ∀ i, i < 8 → i ≤ m → chs s m i ≤ 1000000 := by decide +kernel
theorem c_choices {F s m : Nat} (hs : s < 8) (hm : m ≤ s) (hF : 2000 < F) : X11_choices F (nI s) (nI m) = some (lN (chs s m m)) := by
  unfold X11_choices
  have it : iter (X11_choices_b5 F (nI s) (nI m)) F (lN (chs s m 0), nI (1 + 0)) = some (lN (chs s m m)) := by
    refine iter_count (b := X11_choices_b5 F (nI s) (nI m)) (fun i => (lN (chs s m i), nI (1 + i))) m (fun i hi => ?_) ?_ F (by omega)
    · have cb := chs_b s hs m (by omega) hm i (by omega) (by omega)
      have e1 : (nI (1 + i)).toInt64 = lN (1 + i) := nI_l (by omega)
      have e2 : (nI (s - m + (1 + i))).toInt64 = lN (s - m + (1 + i)) := nI_l (by omega)
      have mb : chs s m i * (s - m + (1 + i)) ≤ 1000000 * 16 := Nat.mul_le_mul cb (by omega)
      have e3 : lN (chs s m i * (s - m + (1 + i))) / lN (1 + i) = lN (chs s m (i + 1)) := by
        rw [pk_lDiv (by omega) (by omega) (by omega), chs, Nat.add_comm 1 i]
      have ne : ¬ lN (1 + i) = (0 : Int64) := fun z => absurd ((lne0 (by omega)).mp z) (by omega)
      unfold X11_choices_b5
      rw [show 1 + (i + 1) = 1 + i + 1 by omega]
      simp (disch := omega) only [l_0, l_1, l_2, l_3, l_4, l_5, l_6, l_7, l_8, l_9, l_10, l_11, l_12, l_13, l_14, l_15, l_16, l_17, l_18, l_19, l_20, l_21, l_22, l_23, l_24, l_25, l_26, l_27, l_30, l_31, l_32, l_40, l_48, l_57, l_59, l_60, l_61, l_62, l_64, l_83, l_90, l_97, l_99, l_100, l_108, l_115, l_122, l_123, l_127, l_128, l_131, l_135, l_200, l_255, l_256, l_300, l_487, l_495, l_900, l_999, l_1000, l_1700, l_1792, l_1980, l_2048, l_2475, l_2970, l_3121, l_9999, l_10000, l_11351, l_65536, l_100000, l_1000000, ↓l_m1, l_neg, nI_add, pk_mul, pk_sub, q_leT, q_leF, q_ltT, q_ltF, q_eqT, q_eqF, q_m1e, q_m1e2, q_m1lt, q_m1le, q_m1nl, q_m1nle, q_m1s, q_ix, q_jat, q_jput, q_min1, q_min2, q_max1, q_max2, q_or0, q_0or, q_bs, if_true, if_false, true_and, and_true, false_and, and_false, not_true_eq_false, not_false_eq_true, eq_self, Bool.false_eq_true, q_z0, q_z1, e1, e2, lN_mul, e3, ne]
    · unfold X11_choices_b5
      simp (disch := omega) only [l_0, l_1, l_2, l_3, l_4, l_5, l_6, l_7, l_8, l_9, l_10, l_11, l_12, l_13, l_14, l_15, l_16, l_17, l_18, l_19, l_20, l_21, l_22, l_23, l_24, l_25, l_26, l_27, l_30, l_31, l_32, l_40, l_48, l_57, l_59, l_60, l_61, l_62, l_64, l_83, l_90, l_97, l_99, l_100, l_108, l_115, l_122, l_123, l_127, l_128, l_131, l_135, l_200, l_255, l_256, l_300, l_487, l_495, l_900, l_999, l_1000, l_1700, l_1792, l_1980, l_2048, l_2475, l_2970, l_3121, l_9999, l_10000, l_11351, l_65536, l_100000, l_1000000, ↓l_m1, l_neg, nI_add, pk_mul, pk_sub, q_leT, q_leF, q_ltT, q_ltF, q_eqT, q_eqF, q_m1e, q_m1e2, q_m1lt, q_m1le, q_m1nl, q_m1nle, q_m1s, q_ix, q_jat, q_jput, q_min1, q_min2, q_max1, q_max2, q_or0, q_0or, q_bs, if_true, if_false, true_and, and_true, false_and, and_false, not_true_eq_false, not_false_eq_true, eq_self, Bool.false_eq_true, q_z0, q_z1]
  rw [show ((1 : Int64), (1 : Int32)) = (lN (chs s m 0), nI (1 + 0)) from rfl, it, q_bs]
