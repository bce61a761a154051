/-! ===== PURE 18.a: games: what they come to; the model's side ===== -/
theorem l_4096 : (4096 : Int32) = nI 4096 := rfl
def mvP (C : Cy) (c k : Nat) : Bool := decide (k = c ∨ tk C c k < 1000000)
def dnP (C : Cy) (d h : Nat) : Bool := !d.testBit h && fate C 0 h
def wv (C : Cy) (c h : Nat) : Nat := if C 3 h 0 = c then 0 else C 3 h 2
def wst (C : Cy) (W : Nat → Nat → Nat) (c d : Nat) : Nat → Nat
  | 0 => W c d
  | h + 1 => if dnP C d h then max (wst C W c d h) (wv C c h + W c (d ||| 2 ^ h)) else wst C W c d h
def lst (C : Cy) (W : Nat → Nat → Nat) (c d : Nat) : Nat → Nat
  | 0 => 1000000
  | k + 1 => if mvP C c k then min (lst C W c d k) (wst C W k d (C 0 0 3)) else lst C W c d k
def fstI (C : Cy) (W : Nat → Nat → Nat) (c d : Nat) (fc : Int32) : Nat → Int32
  | 0 => fc
  | k + 1 => if mvP C c k then (if wst C W k d (C 0 0 3) < lst C W c d k then nI k else fstI C W c d fc k) else fstI C W c d fc k
def gv (C : Cy) : Nat → Nat → Nat → Nat
  | 0, _, _ => 0
  | t + 1, c, d => lst C (gv C t) c d (C 0 0 0)
theorem wst_T {C : Cy} {W : Nat → Nat → Nat} {c d h : Nat} (q : dnP C d h = true) : wst C W c d (h + 1) = max (wst C W c d h) (wv C c h + W c (d ||| 2 ^ h)) := by rw [wst, if_pos q]
theorem wst_F {C : Cy} {W : Nat → Nat → Nat} {c d h : Nat} (q : dnP C d h = false) : wst C W c d (h + 1) = wst C W c d h := by rw [wst, q]; rfl
theorem lst_T {C : Cy} {W : Nat → Nat → Nat} {c d h : Nat} (q : mvP C c h = true) : lst C W c d (h + 1) = min (lst C W c d h) (wst C W h d (C 0 0 3)) := by rw [lst, if_pos q]
theorem lst_F {C : Cy} {W : Nat → Nat → Nat} {c d h : Nat} (q : mvP C c h = false) : lst C W c d (h + 1) = lst C W c d h := by rw [lst, q]; rfl
theorem fstI_T {C : Cy} {W : Nat → Nat → Nat} {c d h : Nat} {fc : Int32} (q : mvP C c h = true) (q2 : wst C W h d (C 0 0 3) < lst C W c d h) : fstI C W c d fc (h + 1) = nI h := by rw [fstI, if_pos q, if_pos q2]
theorem fstI_N {C : Cy} {W : Nat → Nat → Nat} {c d h : Nat} {fc : Int32} (q : mvP C c h = true) (q2 : ¬ wst C W h d (C 0 0 3) < lst C W c d h) : fstI C W c d fc (h + 1) = fstI C W c d fc h := by rw [fstI, if_pos q, if_neg q2]
theorem fstI_F {C : Cy} {W : Nat → Nat → Nat} {c d h : Nat} {fc : Int32} (q : mvP C c h = false) : fstI C W c d fc (h + 1) = fstI C W c d fc h := by rw [fstI, q]; rfl
theorem wv_le {C : Cy} (ok : Ok C) {c h : Nat} (hh : h < C 0 0 3) : wv C c h ≤ 4 := by
  have e := ok.2.2.2.1 h hh
  unfold wv
  by_cases q : C 3 h 0 = c
  · rw [if_pos q]; omega
  · rw [if_neg q]; omega
theorem wst_le {C : Cy} (ok : Ok C) {W : Nat → Nat → Nat} {c B : Nat} (hW : ∀ d, W c d ≤ B) (d : Nat) : ∀ n, n ≤ C 0 0 3 → wst C W c d n ≤ B + 4
  | 0, _ => by
    have := hW d
    show W c d ≤ B + 4; omega
  | n + 1, hn => by
    have i := wst_le ok hW d n (by omega)
    have w := wv_le (c := c) ok (show n < C 0 0 3 by omega)
    have b := hW (d ||| 2 ^ n)
    cases q : dnP C d n with
    | true => rw [wst_T q]; omega
    | false => rw [wst_F q]; exact i
theorem lst_le6 (C : Cy) (W : Nat → Nat → Nat) (c d : Nat) : ∀ n, lst C W c d n ≤ 1000000
  | 0 => Nat.le_refl _
  | n + 1 => by
    have i := lst_le6 C W c d n
    cases q : mvP C c n with
    | true => rw [lst_T q]; omega
    | false => rw [lst_F q]; exact i
theorem lst_le {C : Cy} {W : Nat → Nat → Nat} {c d k : Nat} (q : mvP C c k = true) : ∀ n, k < n → lst C W c d n ≤ wst C W k d (C 0 0 3)
  | 0, h => by omega
  | n + 1, h => by
    by_cases e : k = n
    · subst e; rw [lst_T q]; omega
    · have i := lst_le (W := W) (d := d) q n (by omega)
      cases q2 : mvP C c n with
      | true => rw [lst_T q2]; omega
      | false => rw [lst_F q2]; exact i
theorem gv_le {C : Cy} (ok : Ok C) : ∀ t c d, c < C 0 0 0 → gv C t c d ≤ 4 * t
  | 0, c, d, _ => Nat.le_refl _
  | t + 1, c, d, hc => by
    have q : mvP C c c = true := decide_eq_true (Or.inl rfl)
    have l := lst_le (W := gv C t) (d := d) q (C 0 0 0) hc
    have w := wst_le ok (W := gv C t) (c := c) (B := 4 * t) (fun d => gv_le ok t c d hc) d (C 0 0 3) (Nat.le_refl _)
    show lst C (gv C t) c d (C 0 0 0) ≤ 4 * (t + 1)
    omega
theorem fstI_any {C : Cy} {W : Nat → Nat → Nat} {c d : Nat} (a b : Int32) : ∀ n, lst C W c d n < 1000000 → fstI C W c d a n = fstI C W c d b n
  | 0, h => by
    have : lst C W c d 0 = 1000000 := rfl
    omega
  | n + 1, h => by
    have i := fstI_any (C := C) (W := W) (c := c) (d := d) a b n
    have l6 := lst_le6 C W c d n
    cases q : mvP C c n with
    | true =>
      rw [lst_T q] at h
      by_cases q2 : wst C W n d (C 0 0 3) < lst C W c d n
      · rw [fstI_T q q2, fstI_T q q2]
      · rw [fstI_N q q2, fstI_N q q2]; exact i (by omega)
    | false => rw [lst_F q] at h; rw [fstI_F q, fstI_F q]; exact i h
theorem or_lt {d h n : Nat} (hd : d < 2 ^ n) (hh : h < n) : d ||| 2 ^ h < 2 ^ n := Nat.or_lt_two_pow hd (Nat.pow_lt_pow_right (by omega) hh)
/-- the model's rows of what comes then -/
def CB (C : Cy) (W : Nat → Nat → Nat) (f : Nat → Int32) : Prop := ∀ c d, c < C 0 0 0 → d < 2 ^ C 0 0 3 → f (256 * c + d) = nI (W c d)
theorem m_worst {F : Nat} {C : Cy} {g f : Nat → Int32} {W : Nat → Nat → Nat} {c d : Nat} (ok : Ok C) (hM : MS C g) (hB : CB C W f) (hc : c < C 0 0 0) (hd : d < 2 ^ C 0 0 3) (hW : ∀ d, W c d ≤ 100) (hF : 100 < F) : X12_worstAt F g f (nI c) (nI d) = some (nI (wst C W c d (C 0 0 3))) := by
  have o0 := ok.1
  have p8 := pow_nH ok
  have it : iter (X12_worstAt_b16 F g f (nI c) (nI d)) F (nI (W c d), nI 0) = some (nI (wst C W c d (C 0 0 3))) := by
    refine iter_count (b := X12_worstAt_b16 F g f (nI c) (nI d)) (fun i => (nI (wst C W c d i), nI i)) (C 0 0 3) (fun h hh => ?_) ?_ F (by omega)
    · have eh := ok.2.2.2.1 h hh
      have dl := or_lt hd hh
      have b1 := hW (d ||| 2 ^ h)
      have b2 := wst_le ok hW d h (by omega)
      have fb := hB c (d ||| 2 ^ h) hc dl
      unfold X12_worstAt_b16 X12_worstAt_j88 X12_worstAt_j98
      cases hb : d.testBit h with
      | true =>
        have q : dnP C d h = false := by unfold dnP; rw [hb]; rfl
        rw [wst_F q]
        simp (disch := omega) only [l_0, l_1, l_2, l_3, l_4, l_5, l_6, l_7, l_8, l_9, l_10, l_11, l_12, l_13, l_14, l_15, l_16, l_17, l_18, l_19, l_20, l_21, l_22, l_23, l_24, l_25, l_26, l_27, l_30, l_31, l_32, l_40, l_48, l_57, l_59, l_60, l_61, l_62, l_64, l_83, l_90, l_97, l_99, l_100, l_108, l_115, l_122, l_123, l_127, l_128, l_131, l_135, l_200, l_255, l_256, l_300, l_487, l_495, l_900, l_999, l_1000, l_1700, l_1792, l_1980, l_2048, l_2475, l_2970, l_3121, l_9999, l_10000, l_11351, l_65536, l_100000, l_1000000, ↓l_m1, l_neg, nI_add, pk_mul, pk_sub, q_leT, q_leF, q_ltT, q_ltF, q_eqT, q_eqF, q_m1e, q_m1e2, q_m1lt, q_m1le, q_m1nl, q_m1nle, q_m1s, q_ix, q_jat, q_jput, q_min1, q_min2, q_max1, q_max2, q_or0, q_0or, q_bs, if_true, if_false, true_and, and_true, false_and, and_false, not_true_eq_false, not_false_eq_true, eq_self, Bool.false_eq_true, q_z0, q_z1, m_0 hM, m_E hM, m_Es hM, m_Er hM, m_H hM, m_W hM, m_R0 hM, m_R1 hM, m_R2 hM, q_isInT hb]
      | false =>
        by_cases z : C 3 h 3 = 0
        · have q : dnP C d h = true := by unfold dnP fate; rw [hb, decide_eq_true z]; rfl
          rw [wst_T q]
          by_cases y : C 3 h 0 = c
          · have w : wv C c h = 0 := if_pos y
            rw [w, Nat.add_comm]
            simp (disch := omega) only [l_0, l_1, l_2, l_3, l_4, l_5, l_6, l_7, l_8, l_9, l_10, l_11, l_12, l_13, l_14, l_15, l_16, l_17, l_18, l_19, l_20, l_21, l_22, l_23, l_24, l_25, l_26, l_27, l_30, l_31, l_32, l_40, l_48, l_57, l_59, l_60, l_61, l_62, l_64, l_83, l_90, l_97, l_99, l_100, l_108, l_115, l_122, l_123, l_127, l_128, l_131, l_135, l_200, l_255, l_256, l_300, l_487, l_495, l_900, l_999, l_1000, l_1700, l_1792, l_1980, l_2048, l_2475, l_2970, l_3121, l_9999, l_10000, l_11351, l_65536, l_100000, l_1000000, ↓l_m1, l_neg, nI_add, pk_mul, pk_sub, q_leT, q_leF, q_ltT, q_ltF, q_eqT, q_eqF, q_m1e, q_m1e2, q_m1lt, q_m1le, q_m1nl, q_m1nle, q_m1s, q_ix, q_jat, q_jput, q_min1, q_min2, q_max1, q_max2, q_or0, q_0or, q_bs, if_true, if_false, true_and, and_true, false_and, and_false, not_true_eq_false, not_false_eq_true, eq_self, Bool.false_eq_true, q_z0, q_z1, m_0 hM, m_E hM, m_Es hM, m_Er hM, m_H hM, m_W hM, m_R0 hM, m_R1 hM, m_R2 hM, q_isInF hb, m_tcT hM, q_shl1, fa_or, fb, q_max]
          · have w : wv C c h = C 3 h 2 := if_neg y
            rw [w, Nat.add_comm]
            simp (disch := omega) only [l_0, l_1, l_2, l_3, l_4, l_5, l_6, l_7, l_8, l_9, l_10, l_11, l_12, l_13, l_14, l_15, l_16, l_17, l_18, l_19, l_20, l_21, l_22, l_23, l_24, l_25, l_26, l_27, l_30, l_31, l_32, l_40, l_48, l_57, l_59, l_60, l_61, l_62, l_64, l_83, l_90, l_97, l_99, l_100, l_108, l_115, l_122, l_123, l_127, l_128, l_131, l_135, l_200, l_255, l_256, l_300, l_487, l_495, l_900, l_999, l_1000, l_1700, l_1792, l_1980, l_2048, l_2475, l_2970, l_3121, l_9999, l_10000, l_11351, l_65536, l_100000, l_1000000, ↓l_m1, l_neg, nI_add, pk_mul, pk_sub, q_leT, q_leF, q_ltT, q_ltF, q_eqT, q_eqF, q_m1e, q_m1e2, q_m1lt, q_m1le, q_m1nl, q_m1nle, q_m1s, q_ix, q_jat, q_jput, q_min1, q_min2, q_max1, q_max2, q_or0, q_0or, q_bs, if_true, if_false, true_and, and_true, false_and, and_false, not_true_eq_false, not_false_eq_true, eq_self, Bool.false_eq_true, q_z0, q_z1, m_0 hM, m_E hM, m_Es hM, m_Er hM, m_H hM, m_W hM, m_R0 hM, m_R1 hM, m_R2 hM, q_isInF hb, m_tcT hM, q_shl1, fa_or, fb, q_max]
        · have q : dnP C d h = false := by unfold dnP fate; rw [decide_eq_false z, Bool.and_false]
          rw [wst_F q]
          simp (disch := omega) only [l_0, l_1, l_2, l_3, l_4, l_5, l_6, l_7, l_8, l_9, l_10, l_11, l_12, l_13, l_14, l_15, l_16, l_17, l_18, l_19, l_20, l_21, l_22, l_23, l_24, l_25, l_26, l_27, l_30, l_31, l_32, l_40, l_48, l_57, l_59, l_60, l_61, l_62, l_64, l_83, l_90, l_97, l_99, l_100, l_108, l_115, l_122, l_123, l_127, l_128, l_131, l_135, l_200, l_255, l_256, l_300, l_487, l_495, l_900, l_999, l_1000, l_1700, l_1792, l_1980, l_2048, l_2475, l_2970, l_3121, l_9999, l_10000, l_11351, l_65536, l_100000, l_1000000, ↓l_m1, l_neg, nI_add, pk_mul, pk_sub, q_leT, q_leF, q_ltT, q_ltF, q_eqT, q_eqF, q_m1e, q_m1e2, q_m1lt, q_m1le, q_m1nl, q_m1nle, q_m1s, q_ix, q_jat, q_jput, q_min1, q_min2, q_max1, q_max2, q_or0, q_0or, q_bs, if_true, if_false, true_and, and_true, false_and, and_false, not_true_eq_false, not_false_eq_true, eq_self, Bool.false_eq_true, q_z0, q_z1, m_0 hM, m_E hM, m_Es hM, m_Er hM, m_H hM, m_W hM, m_R0 hM, m_R1 hM, m_R2 hM, q_isInF hb, m_tcF hM]
    · unfold X12_worstAt_b16
      simp (disch := omega) only [l_0, l_1, l_2, l_3, l_4, l_5, l_6, l_7, l_8, l_9, l_10, l_11, l_12, l_13, l_14, l_15, l_16, l_17, l_18, l_19, l_20, l_21, l_22, l_23, l_24, l_25, l_26, l_27, l_30, l_31, l_32, l_40, l_48, l_57, l_59, l_60, l_61, l_62, l_64, l_83, l_90, l_97, l_99, l_100, l_108, l_115, l_122, l_123, l_127, l_128, l_131, l_135, l_200, l_255, l_256, l_300, l_487, l_495, l_900, l_999, l_1000, l_1700, l_1792, l_1980, l_2048, l_2475, l_2970, l_3121, l_9999, l_10000, l_11351, l_65536, l_100000, l_1000000, ↓l_m1, l_neg, nI_add, pk_mul, pk_sub, q_leT, q_leF, q_ltT, q_ltF, q_eqT, q_eqF, q_m1e, q_m1e2, q_m1lt, q_m1le, q_m1nl, q_m1nle, q_m1s, q_ix, q_jat, q_jput, q_min1, q_min2, q_max1, q_max2, q_or0, q_0or, q_bs, if_true, if_false, true_and, and_true, false_and, and_false, not_true_eq_false, not_false_eq_true, eq_self, Bool.false_eq_true, q_z0, q_z1, m_0 hM, m_E hM, m_Es hM, m_Er hM, m_H hM, m_W hM, m_R0 hM, m_R1 hM, m_R2 hM]
  have f0 := hB c d hc hd
  unfold X12_worstAt
  simp (disch := omega) only [l_0, l_1, l_2, l_3, l_4, l_5, l_6, l_7, l_8, l_9, l_10, l_11, l_12, l_13, l_14, l_15, l_16, l_17, l_18, l_19, l_20, l_21, l_22, l_23, l_24, l_25, l_26, l_27, l_30, l_31, l_32, l_40, l_48, l_57, l_59, l_60, l_61, l_62, l_64, l_83, l_90, l_97, l_99, l_100, l_108, l_115, l_122, l_123, l_127, l_128, l_131, l_135, l_200, l_255, l_256, l_300, l_487, l_495, l_900, l_999, l_1000, l_1700, l_1792, l_1980, l_2048, l_2475, l_2970, l_3121, l_9999, l_10000, l_11351, l_65536, l_100000, l_1000000, ↓l_m1, l_neg, nI_add, pk_mul, pk_sub, q_leT, q_leF, q_ltT, q_ltF, q_eqT, q_eqF, q_m1e, q_m1e2, q_m1lt, q_m1le, q_m1nl, q_m1nle, q_m1s, q_ix, q_jat, q_jput, q_min1, q_min2, q_max1, q_max2, q_or0, q_0or, q_bs, if_true, if_false, true_and, and_true, false_and, and_false, not_true_eq_false, not_false_eq_true, eq_self, Bool.false_eq_true, q_z0, q_z1, f0, it]
theorem m_leastF {F : Nat} {C : Cy} {g f : Nat → Int32} {W : Nat → Nat → Nat} {c d : Nat} (fc : Int32) (ok : Ok C) (hM : MS C g) (hB : CB C W f) (hc : c < C 0 0 0) (hd : d < 2 ^ C 0 0 3) (hW : ∀ c d, c < C 0 0 0 → W c d ≤ 100) (hF : 100 < F) : X12_leastFrom F fc g f (nI c) (nI d) = some (nI (lst C W c d (C 0 0 0)), fstI C W c d fc (C 0 0 0)) := by
  have o0 := ok.1
  have it : iter (X12_leastFrom_b7 F g f (nI c) (nI d)) F (nI 1000000, nI 0, fc) = some (nI (lst C W c d (C 0 0 0)), fstI C W c d fc (C 0 0 0)) := by
    refine iter_count (b := X12_leastFrom_b7 F g f (nI c) (nI d)) (fun i => (nI (lst C W c d i), nI i, fstI C W c d fc i)) (C 0 0 0) (fun k hk => ?_) ?_ F (by omega)
    · have w1 := m_worst (F := F) (c := k) (d := d) ok hM hB hk hd (fun d => hW k d hk) hF
      have b2 := wst_le ok (fun d => hW k d hk) d (C 0 0 3) (Nat.le_refl _)
      have l6 := lst_le6 C W c d k
      have ro := m_roadOf (F := F) (a := c) (b := k) ok hM (by omega) (by omega) hF
      unfold X12_leastFrom_b7 X12_leastFrom_j40 X12_leastFrom_j67
      by_cases e : k = c
      · have q : mvP C c k = true := decide_eq_true (Or.inl e)
        by_cases q2 : wst C W k d (C 0 0 3) < lst C W c d k
        · rw [lst_T q, fstI_T q q2, Nat.min_eq_right (by omega)]
          simp (disch := omega) only [l_0, l_1, l_2, l_3, l_4, l_5, l_6, l_7, l_8, l_9, l_10, l_11, l_12, l_13, l_14, l_15, l_16, l_17, l_18, l_19, l_20, l_21, l_22, l_23, l_24, l_25, l_26, l_27, l_30, l_31, l_32, l_40, l_48, l_57, l_59, l_60, l_61, l_62, l_64, l_83, l_90, l_97, l_99, l_100, l_108, l_115, l_122, l_123, l_127, l_128, l_131, l_135, l_200, l_255, l_256, l_300, l_487, l_495, l_900, l_999, l_1000, l_1700, l_1792, l_1980, l_2048, l_2475, l_2970, l_3121, l_9999, l_10000, l_11351, l_65536, l_100000, l_1000000, ↓l_m1, l_neg, nI_add, pk_mul, pk_sub, q_leT, q_leF, q_ltT, q_ltF, q_eqT, q_eqF, q_m1e, q_m1e2, q_m1lt, q_m1le, q_m1nl, q_m1nle, q_m1s, q_ix, q_jat, q_jput, q_min1, q_min2, q_max1, q_max2, q_or0, q_0or, q_bs, if_true, if_false, true_and, and_true, false_and, and_false, not_true_eq_false, not_false_eq_true, eq_self, Bool.false_eq_true, q_z0, q_z1, m_0 hM, m_E hM, m_Es hM, m_Er hM, m_H hM, m_W hM, m_R0 hM, m_R1 hM, m_R2 hM, w1]
        · rw [lst_T q, fstI_N q q2, Nat.min_eq_left (by omega)]
          simp (disch := omega) only [l_0, l_1, l_2, l_3, l_4, l_5, l_6, l_7, l_8, l_9, l_10, l_11, l_12, l_13, l_14, l_15, l_16, l_17, l_18, l_19, l_20, l_21, l_22, l_23, l_24, l_25, l_26, l_27, l_30, l_31, l_32, l_40, l_48, l_57, l_59, l_60, l_61, l_62, l_64, l_83, l_90, l_97, l_99, l_100, l_108, l_115, l_122, l_123, l_127, l_128, l_131, l_135, l_200, l_255, l_256, l_300, l_487, l_495, l_900, l_999, l_1000, l_1700, l_1792, l_1980, l_2048, l_2475, l_2970, l_3121, l_9999, l_10000, l_11351, l_65536, l_100000, l_1000000, ↓l_m1, l_neg, nI_add, pk_mul, pk_sub, q_leT, q_leF, q_ltT, q_ltF, q_eqT, q_eqF, q_m1e, q_m1e2, q_m1lt, q_m1le, q_m1nl, q_m1nle, q_m1s, q_ix, q_jat, q_jput, q_min1, q_min2, q_max1, q_max2, q_or0, q_0or, q_bs, if_true, if_false, true_and, and_true, false_and, and_false, not_true_eq_false, not_false_eq_true, eq_self, Bool.false_eq_true, q_z0, q_z1, m_0 hM, m_E hM, m_Es hM, m_Er hM, m_H hM, m_W hM, m_R0 hM, m_R1 hM, m_R2 hM, w1]
      · by_cases e2 : tk C c k < 1000000
        · have q : mvP C c k = true := decide_eq_true (Or.inr e2)
          by_cases q2 : wst C W k d (C 0 0 3) < lst C W c d k
          · rw [lst_T q, fstI_T q q2, Nat.min_eq_right (by omega)]
            simp (disch := omega) only [l_0, l_1, l_2, l_3, l_4, l_5, l_6, l_7, l_8, l_9, l_10, l_11, l_12, l_13, l_14, l_15, l_16, l_17, l_18, l_19, l_20, l_21, l_22, l_23, l_24, l_25, l_26, l_27, l_30, l_31, l_32, l_40, l_48, l_57, l_59, l_60, l_61, l_62, l_64, l_83, l_90, l_97, l_99, l_100, l_108, l_115, l_122, l_123, l_127, l_128, l_131, l_135, l_200, l_255, l_256, l_300, l_487, l_495, l_900, l_999, l_1000, l_1700, l_1792, l_1980, l_2048, l_2475, l_2970, l_3121, l_9999, l_10000, l_11351, l_65536, l_100000, l_1000000, ↓l_m1, l_neg, nI_add, pk_mul, pk_sub, q_leT, q_leF, q_ltT, q_ltF, q_eqT, q_eqF, q_m1e, q_m1e2, q_m1lt, q_m1le, q_m1nl, q_m1nle, q_m1s, q_ix, q_jat, q_jput, q_min1, q_min2, q_max1, q_max2, q_or0, q_0or, q_bs, if_true, if_false, true_and, and_true, false_and, and_false, not_true_eq_false, not_false_eq_true, eq_self, Bool.false_eq_true, q_z0, q_z1, m_0 hM, m_E hM, m_Es hM, m_Er hM, m_H hM, m_W hM, m_R0 hM, m_R1 hM, m_R2 hM, ro, w1]
          · rw [lst_T q, fstI_N q q2, Nat.min_eq_left (by omega)]
            simp (disch := omega) only [l_0, l_1, l_2, l_3, l_4, l_5, l_6, l_7, l_8, l_9, l_10, l_11, l_12, l_13, l_14, l_15, l_16, l_17, l_18, l_19, l_20, l_21, l_22, l_23, l_24, l_25, l_26, l_27, l_30, l_31, l_32, l_40, l_48, l_57, l_59, l_60, l_61, l_62, l_64, l_83, l_90, l_97, l_99, l_100, l_108, l_115, l_122, l_123, l_127, l_128, l_131, l_135, l_200, l_255, l_256, l_300, l_487, l_495, l_900, l_999, l_1000, l_1700, l_1792, l_1980, l_2048, l_2475, l_2970, l_3121, l_9999, l_10000, l_11351, l_65536, l_100000, l_1000000, ↓l_m1, l_neg, nI_add, pk_mul, pk_sub, q_leT, q_leF, q_ltT, q_ltF, q_eqT, q_eqF, q_m1e, q_m1e2, q_m1lt, q_m1le, q_m1nl, q_m1nle, q_m1s, q_ix, q_jat, q_jput, q_min1, q_min2, q_max1, q_max2, q_or0, q_0or, q_bs, if_true, if_false, true_and, and_true, false_and, and_false, not_true_eq_false, not_false_eq_true, eq_self, Bool.false_eq_true, q_z0, q_z1, m_0 hM, m_E hM, m_Es hM, m_Er hM, m_H hM, m_W hM, m_R0 hM, m_R1 hM, m_R2 hM, ro, w1]
        · have q : mvP C c k = false := decide_eq_false (fun z => z.elim e e2)
          have tl : tk C c k = 1000000 := by rcases tk_val ok c k with t | t <;> omega
          rw [tl] at ro
          rw [lst_F q, fstI_F q]
          simp (disch := omega) only [l_0, l_1, l_2, l_3, l_4, l_5, l_6, l_7, l_8, l_9, l_10, l_11, l_12, l_13, l_14, l_15, l_16, l_17, l_18, l_19, l_20, l_21, l_22, l_23, l_24, l_25, l_26, l_27, l_30, l_31, l_32, l_40, l_48, l_57, l_59, l_60, l_61, l_62, l_64, l_83, l_90, l_97, l_99, l_100, l_108, l_115, l_122, l_123, l_127, l_128, l_131, l_135, l_200, l_255, l_256, l_300, l_487, l_495, l_900, l_999, l_1000, l_1700, l_1792, l_1980, l_2048, l_2475, l_2970, l_3121, l_9999, l_10000, l_11351, l_65536, l_100000, l_1000000, ↓l_m1, l_neg, nI_add, pk_mul, pk_sub, q_leT, q_leF, q_ltT, q_ltF, q_eqT, q_eqF, q_m1e, q_m1e2, q_m1lt, q_m1le, q_m1nl, q_m1nle, q_m1s, q_ix, q_jat, q_jput, q_min1, q_min2, q_max1, q_max2, q_or0, q_0or, q_bs, if_true, if_false, true_and, and_true, false_and, and_false, not_true_eq_false, not_false_eq_true, eq_self, Bool.false_eq_true, q_z0, q_z1, m_0 hM, m_E hM, m_Es hM, m_Er hM, m_H hM, m_W hM, m_R0 hM, m_R1 hM, m_R2 hM, ro]
    · unfold X12_leastFrom_b7
      simp (disch := omega) only [l_0, l_1, l_2, l_3, l_4, l_5, l_6, l_7, l_8, l_9, l_10, l_11, l_12, l_13, l_14, l_15, l_16, l_17, l_18, l_19, l_20, l_21, l_22, l_23, l_24, l_25, l_26, l_27, l_30, l_31, l_32, l_40, l_48, l_57, l_59, l_60, l_61, l_62, l_64, l_83, l_90, l_97, l_99, l_100, l_108, l_115, l_122, l_123, l_127, l_128, l_131, l_135, l_200, l_255, l_256, l_300, l_487, l_495, l_900, l_999, l_1000, l_1700, l_1792, l_1980, l_2048, l_2475, l_2970, l_3121, l_9999, l_10000, l_11351, l_65536, l_100000, l_1000000, ↓l_m1, l_neg, nI_add, pk_mul, pk_sub, q_leT, q_leF, q_ltT, q_ltF, q_eqT, q_eqF, q_m1e, q_m1e2, q_m1lt, q_m1le, q_m1nl, q_m1nle, q_m1s, q_ix, q_jat, q_jput, q_min1, q_min2, q_max1, q_max2, q_or0, q_0or, q_bs, if_true, if_false, true_and, and_true, false_and, and_false, not_true_eq_false, not_false_eq_true, eq_self, Bool.false_eq_true, q_z0, q_z1, m_0 hM, m_E hM, m_Es hM, m_Er hM, m_H hM, m_W hM, m_R0 hM, m_R1 hM, m_R2 hM]
  unfold X12_leastFrom
  rw [show ((1000000 : Int32), (0 : Int32), fc) = (nI 1000000, nI 0, fc) from rfl, it, q_bs]
/-! what the model has laid so far -/
def CBp (C : Cy) (W : Nat → Nat → Nat) (f : Nat → Int32) (c d : Nat) : Prop := ∀ c' d', c' < C 0 0 0 → d' < 2 ^ C 0 0 3 → (c' < c ∨ (c' = c ∧ d' < d)) → f (256 * c' + d') = nI (W c' d')
theorem CBp_put {C : Cy} {W : Nat → Nat → Nat} {f : Nat → Int32} {c d : Nat} (ok : Ok C) (h : CBp C W f c d) (hd : d < 2 ^ C 0 0 3) : CBp C W (upd f (256 * c + d) (nI (W c d))) c (d + 1) := by
  have p8 := pow_nH ok
  intro c' d' h1 h2 h3
  by_cases e : c' = c ∧ d' = d
  · obtain ⟨rfl, rfl⟩ := e; rw [pk_us]
  · rw [pk_un (by omega)]; exact h c' d' h1 h2 (by omega)
theorem CBp_next {C : Cy} {W : Nat → Nat → Nat} {f : Nat → Int32} {c : Nat} (h : CBp C W f c (2 ^ C 0 0 3)) : CBp C W f (c + 1) 0 := fun c' d' h1 h2 h3 => h c' d' h1 h2 (by omega)
theorem m_row {F : Nat} {C : Cy} {g f by0 : Nat → Int32} {W : Nat → Nat → Nat} {c : Nat} (fc x y z : Int32) (ok : Ok C) (hM : MS C g) (hB : CB C W f) (hc : c < C 0 0 0) (hW : ∀ c d, c < C 0 0 0 → W c d ≤ 100) (h0 : CBp C (fun c d => lst C W c d (C 0 0 0)) by0 c 0) (hF : 2000 < F) :
    ∃ fc2 by2, iter (X12_playing_b46 F g f x y z (nI c)) F (nI 0, fc, by0) = some (fc2, by2) ∧ CBp C (fun c d => lst C W c d (C 0 0 0)) by2 (c + 1) 0 := by
  have o0 := ok.1
  have p8 := pow_nH ok
  obtain ⟨e, h1, fc2, by2, rfl, h2⟩ := it_rel (b := X12_playing_b46 F g f x y z (nI c)) (2 ^ C 0 0 3)
    (fun d s => ∃ fc b, s = (nI d, fc, b) ∧ CBp C (fun c d => lst C W c d (C 0 0 0)) b c d)
    (fun e => ∃ fc b, e = (fc, b) ∧ CBp C (fun c d => lst C W c d (C 0 0 0)) b c (2 ^ C 0 0 3)) (fun d s hd hs => by
      obtain ⟨fc, b, rfl, hb⟩ := hs
      have ml := m_leastF (F := F) (c := c) (d := d) fc ok hM hB hc hd hW (by omega)
      refine Or.inl ⟨(nI (d + 1), fstI C W c d fc (C 0 0 0), upd b (256 * c + d) (nI (lst C W c d (C 0 0 0)))), ?_, _, _, rfl, CBp_put ok hb hd⟩
      unfold X12_playing_b46
      simp (disch := omega) only [l_0, l_1, l_2, l_3, l_4, l_5, l_6, l_7, l_8, l_9, l_10, l_11, l_12, l_13, l_14, l_15, l_16, l_17, l_18, l_19, l_20, l_21, l_22, l_23, l_24, l_25, l_26, l_27, l_30, l_31, l_32, l_40, l_48, l_57, l_59, l_60, l_61, l_62, l_64, l_83, l_90, l_97, l_99, l_100, l_108, l_115, l_122, l_123, l_127, l_128, l_131, l_135, l_200, l_255, l_256, l_300, l_487, l_495, l_900, l_999, l_1000, l_1700, l_1792, l_1980, l_2048, l_2475, l_2970, l_3121, l_9999, l_10000, l_11351, l_65536, l_100000, l_1000000, ↓l_m1, l_neg, nI_add, pk_mul, pk_sub, q_leT, q_leF, q_ltT, q_ltF, q_eqT, q_eqF, q_m1e, q_m1e2, q_m1lt, q_m1le, q_m1nl, q_m1nle, q_m1s, q_ix, q_jat, q_jput, q_min1, q_min2, q_max1, q_max2, q_or0, q_0or, q_bs, if_true, if_false, true_and, and_true, false_and, and_false, not_true_eq_false, not_false_eq_true, eq_self, Bool.false_eq_true, q_z0, q_z1, m_0 hM, m_E hM, m_Es hM, m_Er hM, m_H hM, m_W hM, m_R0 hM, m_R1 hM, m_R2 hM, q_shl1, ml]) (fun s hs => by
      obtain ⟨fc, b, rfl, hb⟩ := hs
      refine ⟨(fc, b), ?_, fc, b, rfl, hb⟩
      unfold X12_playing_b46
      simp (disch := omega) only [l_0, l_1, l_2, l_3, l_4, l_5, l_6, l_7, l_8, l_9, l_10, l_11, l_12, l_13, l_14, l_15, l_16, l_17, l_18, l_19, l_20, l_21, l_22, l_23, l_24, l_25, l_26, l_27, l_30, l_31, l_32, l_40, l_48, l_57, l_59, l_60, l_61, l_62, l_64, l_83, l_90, l_97, l_99, l_100, l_108, l_115, l_122, l_123, l_127, l_128, l_131, l_135, l_200, l_255, l_256, l_300, l_487, l_495, l_900, l_999, l_1000, l_1700, l_1792, l_1980, l_2048, l_2475, l_2970, l_3121, l_9999, l_10000, l_11351, l_65536, l_100000, l_1000000, ↓l_m1, l_neg, nI_add, pk_mul, pk_sub, q_leT, q_leF, q_ltT, q_ltF, q_eqT, q_eqF, q_m1e, q_m1e2, q_m1lt, q_m1le, q_m1nl, q_m1nle, q_m1s, q_ix, q_jat, q_jput, q_min1, q_min2, q_max1, q_max2, q_or0, q_0or, q_bs, if_true, if_false, true_and, and_true, false_and, and_false, not_true_eq_false, not_false_eq_true, eq_self, Bool.false_eq_true, q_z0, q_z1, m_0 hM, m_E hM, m_Es hM, m_Er hM, m_H hM, m_W hM, m_R0 hM, m_R1 hM, m_R2 hM, q_shl1]) (s0 := (nI 0, fc, by0)) ⟨fc, by0, rfl, h0⟩ (show 2 ^ C 0 0 3 < F by omega)
  exact ⟨fc2, by2, h1, CBp_next h2⟩
theorem m_rows {F : Nat} {C : Cy} {g f by0 : Nat → Int32} {W : Nat → Nat → Nat} (fc x y z : Int32) (ok : Ok C) (hM : MS C g) (hB : CB C W f) (hW : ∀ c d, c < C 0 0 0 → W c d ≤ 100) (hF : 2000 < F) :
    ∃ fc2 by2, iter (X12_playing_b32 F g f x y z) F (nI 0, fc, by0) = some (fc2, by2) ∧ CB C (fun c d => lst C W c d (C 0 0 0)) by2 := by
  have o0 := ok.1
  obtain ⟨e, h1, fc2, by2, rfl, h2⟩ := it_rel (b := X12_playing_b32 F g f x y z) (C 0 0 0)
    (fun c s => ∃ fc b, s = (nI c, fc, b) ∧ CBp C (fun c d => lst C W c d (C 0 0 0)) b c 0)
    (fun e => ∃ fc b, e = (fc, b) ∧ CBp C (fun c d => lst C W c d (C 0 0 0)) b (C 0 0 0) 0) (fun c s hc hs => by
      obtain ⟨fc, b, rfl, hb⟩ := hs
      obtain ⟨fc2, b2, i1, i2⟩ := m_row (F := F) fc x y z ok hM hB hc hW hb hF
      refine Or.inl ⟨(nI (c + 1), fc2, b2), ?_, _, _, rfl, i2⟩
      unfold X12_playing_b32
      simp (disch := omega) only [l_0, l_1, l_2, l_3, l_4, l_5, l_6, l_7, l_8, l_9, l_10, l_11, l_12, l_13, l_14, l_15, l_16, l_17, l_18, l_19, l_20, l_21, l_22, l_23, l_24, l_25, l_26, l_27, l_30, l_31, l_32, l_40, l_48, l_57, l_59, l_60, l_61, l_62, l_64, l_83, l_90, l_97, l_99, l_100, l_108, l_115, l_122, l_123, l_127, l_128, l_131, l_135, l_200, l_255, l_256, l_300, l_487, l_495, l_900, l_999, l_1000, l_1700, l_1792, l_1980, l_2048, l_2475, l_2970, l_3121, l_9999, l_10000, l_11351, l_65536, l_100000, l_1000000, ↓l_m1, l_neg, nI_add, pk_mul, pk_sub, q_leT, q_leF, q_ltT, q_ltF, q_eqT, q_eqF, q_m1e, q_m1e2, q_m1lt, q_m1le, q_m1nl, q_m1nle, q_m1s, q_ix, q_jat, q_jput, q_min1, q_min2, q_max1, q_max2, q_or0, q_0or, q_bs, if_true, if_false, true_and, and_true, false_and, and_false, not_true_eq_false, not_false_eq_true, eq_self, Bool.false_eq_true, q_z0, q_z1, m_0 hM, m_E hM, m_Es hM, m_Er hM, m_H hM, m_W hM, m_R0 hM, m_R1 hM, m_R2 hM, i1]) (fun s hs => by
      obtain ⟨fc, b, rfl, hb⟩ := hs
      refine ⟨(fc, b), ?_, fc, b, rfl, hb⟩
      unfold X12_playing_b32
      simp (disch := omega) only [l_0, l_1, l_2, l_3, l_4, l_5, l_6, l_7, l_8, l_9, l_10, l_11, l_12, l_13, l_14, l_15, l_16, l_17, l_18, l_19, l_20, l_21, l_22, l_23, l_24, l_25, l_26, l_27, l_30, l_31, l_32, l_40, l_48, l_57, l_59, l_60, l_61, l_62, l_64, l_83, l_90, l_97, l_99, l_100, l_108, l_115, l_122, l_123, l_127, l_128, l_131, l_135, l_200, l_255, l_256, l_300, l_487, l_495, l_900, l_999, l_1000, l_1700, l_1792, l_1980, l_2048, l_2475, l_2970, l_3121, l_9999, l_10000, l_11351, l_65536, l_100000, l_1000000, ↓l_m1, l_neg, nI_add, pk_mul, pk_sub, q_leT, q_leF, q_ltT, q_ltF, q_eqT, q_eqF, q_m1e, q_m1e2, q_m1lt, q_m1le, q_m1nl, q_m1nle, q_m1s, q_ix, q_jat, q_jput, q_min1, q_min2, q_max1, q_max2, q_or0, q_0or, q_bs, if_true, if_false, true_and, and_true, false_and, and_false, not_true_eq_false, not_false_eq_true, eq_self, Bool.false_eq_true, q_z0, q_z1, m_0 hM, m_E hM, m_Es hM, m_Er hM, m_H hM, m_W hM, m_R0 hM, m_R1 hM, m_R2 hM]) (s0 := (nI 0, fc, by0)) ⟨fc, by0, rfl, fun c' d' a1 a2 a3 => by omega⟩ (show C 0 0 0 < F by omega)
  exact ⟨fc2, by2, h1, fun c d a1 a2 => h2 c d a1 a2 (Or.inl a1)⟩
theorem m_keep {F : Nat} {g by0 f0 : Nat → Int32} (fc x y z : Int32) (hF : 5000 < F) : ∃ f, iter (X12_playing_b96 F fc g by0 x y z) F (nI 0, f0) = some f ∧ ∀ k, k < 2048 → f k = by0 k := by
  refine it_rel (b := X12_playing_b96 F fc g by0 x y z) 2048 (fun i s => ∃ f, s = (nI i, f) ∧ ∀ k, k < i → f k = by0 k) (fun f => ∀ k, k < 2048 → f k = by0 k) (fun i s hi hs => by
      obtain ⟨f, rfl, hf⟩ := hs
      refine Or.inl ⟨(nI (i + 1), upd f i (by0 i)), ?_, _, rfl, fun k hk => ?_⟩
      · unfold X12_playing_b96
        simp (disch := omega) only [l_0, l_1, l_2, l_3, l_4, l_5, l_6, l_7, l_8, l_9, l_10, l_11, l_12, l_13, l_14, l_15, l_16, l_17, l_18, l_19, l_20, l_21, l_22, l_23, l_24, l_25, l_26, l_27, l_30, l_31, l_32, l_40, l_48, l_57, l_59, l_60, l_61, l_62, l_64, l_83, l_90, l_97, l_99, l_100, l_108, l_115, l_122, l_123, l_127, l_128, l_131, l_135, l_200, l_255, l_256, l_300, l_487, l_495, l_900, l_999, l_1000, l_1700, l_1792, l_1980, l_2048, l_2475, l_2970, l_3121, l_9999, l_10000, l_11351, l_65536, l_100000, l_1000000, ↓l_m1, l_neg, nI_add, pk_mul, pk_sub, q_leT, q_leF, q_ltT, q_ltF, q_eqT, q_eqF, q_m1e, q_m1e2, q_m1lt, q_m1le, q_m1nl, q_m1nle, q_m1s, q_ix, q_jat, q_jput, q_min1, q_min2, q_max1, q_max2, q_or0, q_0or, q_bs, if_true, if_false, true_and, and_true, false_and, and_false, not_true_eq_false, not_false_eq_true, eq_self, Bool.false_eq_true, q_z0, q_z1]
      · by_cases e : k = i
        · rw [e, pk_us]
        · rw [pk_un e]; exact hf k (by omega)) (fun s hs => by
      obtain ⟨f, rfl, hf⟩ := hs
      refine ⟨f, ?_, hf⟩
      unfold X12_playing_b96
      simp (disch := omega) only [l_0, l_1, l_2, l_3, l_4, l_5, l_6, l_7, l_8, l_9, l_10, l_11, l_12, l_13, l_14, l_15, l_16, l_17, l_18, l_19, l_20, l_21, l_22, l_23, l_24, l_25, l_26, l_27, l_30, l_31, l_32, l_40, l_48, l_57, l_59, l_60, l_61, l_62, l_64, l_83, l_90, l_97, l_99, l_100, l_108, l_115, l_122, l_123, l_127, l_128, l_131, l_135, l_200, l_255, l_256, l_300, l_487, l_495, l_900, l_999, l_1000, l_1700, l_1792, l_1980, l_2048, l_2475, l_2970, l_3121, l_9999, l_10000, l_11351, l_65536, l_100000, l_1000000, ↓l_m1, l_neg, nI_add, pk_mul, pk_sub, q_leT, q_leF, q_ltT, q_ltF, q_eqT, q_eqF, q_m1e, q_m1e2, q_m1lt, q_m1le, q_m1nl, q_m1nle, q_m1s, q_ix, q_jat, q_jput, q_min1, q_min2, q_max1, q_max2, q_or0, q_0or, q_bs, if_true, if_false, true_and, and_true, false_and, and_false, not_true_eq_false, not_false_eq_true, eq_self, Bool.false_eq_true, q_z0, q_z1]) (s0 := (nI 0, f0)) ⟨f0, rfl, fun k hk => by omega⟩ (show 2048 < F by omega)
theorem m_zero {F : Nat} {g by0 f0 : Nat → Int32} (fc x y : Int32) (hF : 5000 < F) : ∃ f, iter (X12_playing_b2 F fc g by0 x y) F (nI 0, f0) = some f ∧ ∀ k, k < 2048 → f k = nI 0 := by
  refine it_rel (b := X12_playing_b2 F fc g by0 x y) 2048 (fun i s => ∃ f, s = (nI i, f) ∧ ∀ k, k < i → f k = nI 0) (fun f => ∀ k, k < 2048 → f k = nI 0) (fun i s hi hs => by
      obtain ⟨f, rfl, hf⟩ := hs
      refine Or.inl ⟨(nI (i + 1), upd f i (nI 0)), ?_, _, rfl, fun k hk => ?_⟩
      · unfold X12_playing_b2
        simp (disch := omega) only [l_0, l_1, l_2, l_3, l_4, l_5, l_6, l_7, l_8, l_9, l_10, l_11, l_12, l_13, l_14, l_15, l_16, l_17, l_18, l_19, l_20, l_21, l_22, l_23, l_24, l_25, l_26, l_27, l_30, l_31, l_32, l_40, l_48, l_57, l_59, l_60, l_61, l_62, l_64, l_83, l_90, l_97, l_99, l_100, l_108, l_115, l_122, l_123, l_127, l_128, l_131, l_135, l_200, l_255, l_256, l_300, l_487, l_495, l_900, l_999, l_1000, l_1700, l_1792, l_1980, l_2048, l_2475, l_2970, l_3121, l_9999, l_10000, l_11351, l_65536, l_100000, l_1000000, ↓l_m1, l_neg, nI_add, pk_mul, pk_sub, q_leT, q_leF, q_ltT, q_ltF, q_eqT, q_eqF, q_m1e, q_m1e2, q_m1lt, q_m1le, q_m1nl, q_m1nle, q_m1s, q_ix, q_jat, q_jput, q_min1, q_min2, q_max1, q_max2, q_or0, q_0or, q_bs, if_true, if_false, true_and, and_true, false_and, and_false, not_true_eq_false, not_false_eq_true, eq_self, Bool.false_eq_true, q_z0, q_z1]
      · by_cases e : k = i
        · rw [e, pk_us]
        · rw [pk_un e]; exact hf k (by omega)) (fun s hs => by
      obtain ⟨f, rfl, hf⟩ := hs
      refine ⟨f, ?_, hf⟩
      unfold X12_playing_b2
      simp (disch := omega) only [l_0, l_1, l_2, l_3, l_4, l_5, l_6, l_7, l_8, l_9, l_10, l_11, l_12, l_13, l_14, l_15, l_16, l_17, l_18, l_19, l_20, l_21, l_22, l_23, l_24, l_25, l_26, l_27, l_30, l_31, l_32, l_40, l_48, l_57, l_59, l_60, l_61, l_62, l_64, l_83, l_90, l_97, l_99, l_100, l_108, l_115, l_122, l_123, l_127, l_128, l_131, l_135, l_200, l_255, l_256, l_300, l_487, l_495, l_900, l_999, l_1000, l_1700, l_1792, l_1980, l_2048, l_2475, l_2970, l_3121, l_9999, l_10000, l_11351, l_65536, l_100000, l_1000000, ↓l_m1, l_neg, nI_add, pk_mul, pk_sub, q_leT, q_leF, q_ltT, q_ltF, q_eqT, q_eqF, q_m1e, q_m1e2, q_m1lt, q_m1le, q_m1nl, q_m1nle, q_m1s, q_ix, q_jat, q_jput, q_min1, q_min2, q_max1, q_max2, q_or0, q_0or, q_bs, if_true, if_false, true_and, and_true, false_and, and_false, not_true_eq_false, not_false_eq_true, eq_self, Bool.false_eq_true, q_z0, q_z1]) (s0 := (nI 0, f0)) ⟨f0, rfl, fun k hk => by omega⟩ (show 2048 < F by omega)
theorem m_playing {F : Nat} {C : Cy} {g by0 f0 : Nat → Int32} {c t : Nat} (fc : Int32) (ok : Ok C) (hM : MS C g) (hc : c < C 0 0 0) (ht : t ≤ 3) (hF : 5000 < F) :
    ∃ a fc2 by2 f2, X12_playing F fc g by0 f0 (nI c) (nI t) = some (nI (gv C t c 0), a, by2, f2) ∧ (1 ≤ t → a = fstI C (gv C (t - 1)) c 0 fc2 (C 0 0 0)) := by
  have o0 := ok.1
  have p8 := pow_nH ok
  obtain ⟨f1, z1, z2⟩ := m_zero (F := F) (g := g) (by0 := by0) (f0 := f0) fc (nI c) (nI t) hF
  obtain ⟨e, h1, fc2, by2, th, rfl, h2⟩ := it_rel (b := X12_playing_b24 F g (nI c) (nI t)) (t - 1)
    (fun j s => ∃ fc b th, s = (nI (1 + j), fc, b, th) ∧ CB C (gv C j) th)
    (fun e => ∃ fc b th, e = (fc, b, th) ∧ CB C (gv C (t - 1)) th) (fun j s hj hs => by
      obtain ⟨fc, b, th, rfl, hb⟩ := hs
      obtain ⟨fc2, b2, i1, i2⟩ := m_rows (F := F) (by0 := b) fc (nI c) (nI t) (nI (1 + j)) ok hM hb (fun c d hc => by have := gv_le ok j c d hc; omega) (by omega)
      obtain ⟨th2, k1, k2⟩ := m_keep (F := F) (g := g) (by0 := b2) (f0 := th) fc2 (nI c) (nI t) (nI (1 + j)) hF
      refine Or.inl ⟨(nI (1 + (j + 1)), fc2, b2, th2), ?_, _, _, _, rfl, fun c d hc hd => ?_⟩
      · unfold X12_playing_b24
        simp (disch := omega) only [l_0, l_1, l_2, l_3, l_4, l_5, l_6, l_7, l_8, l_9, l_10, l_11, l_12, l_13, l_14, l_15, l_16, l_17, l_18, l_19, l_20, l_21, l_22, l_23, l_24, l_25, l_26, l_27, l_30, l_31, l_32, l_40, l_48, l_57, l_59, l_60, l_61, l_62, l_64, l_83, l_90, l_97, l_99, l_100, l_108, l_115, l_122, l_123, l_127, l_128, l_131, l_135, l_200, l_255, l_256, l_300, l_487, l_495, l_900, l_999, l_1000, l_1700, l_1792, l_1980, l_2048, l_2475, l_2970, l_3121, l_9999, l_10000, l_11351, l_65536, l_100000, l_1000000, ↓l_m1, l_neg, nI_add, pk_mul, pk_sub, q_leT, q_leF, q_ltT, q_ltF, q_eqT, q_eqF, q_m1e, q_m1e2, q_m1lt, q_m1le, q_m1nl, q_m1nle, q_m1s, q_ix, q_jat, q_jput, q_min1, q_min2, q_max1, q_max2, q_or0, q_0or, q_bs, if_true, if_false, true_and, and_true, false_and, and_false, not_true_eq_false, not_false_eq_true, eq_self, Bool.false_eq_true, q_z0, q_z1, i1, k1, Nat.add_assoc]
      · rw [k2 _ (by omega)]; exact i2 c d hc hd) (fun s hs => by
      obtain ⟨fc, b, th, rfl, hb⟩ := hs
      refine ⟨(fc, b, th), ?_, fc, b, th, rfl, hb⟩
      unfold X12_playing_b24
      simp (disch := omega) only [l_0, l_1, l_2, l_3, l_4, l_5, l_6, l_7, l_8, l_9, l_10, l_11, l_12, l_13, l_14, l_15, l_16, l_17, l_18, l_19, l_20, l_21, l_22, l_23, l_24, l_25, l_26, l_27, l_30, l_31, l_32, l_40, l_48, l_57, l_59, l_60, l_61, l_62, l_64, l_83, l_90, l_97, l_99, l_100, l_108, l_115, l_122, l_123, l_127, l_128, l_131, l_135, l_200, l_255, l_256, l_300, l_487, l_495, l_900, l_999, l_1000, l_1700, l_1792, l_1980, l_2048, l_2475, l_2970, l_3121, l_9999, l_10000, l_11351, l_65536, l_100000, l_1000000, ↓l_m1, l_neg, nI_add, pk_mul, pk_sub, q_leT, q_leF, q_ltT, q_ltF, q_eqT, q_eqF, q_m1e, q_m1e2, q_m1lt, q_m1le, q_m1nl, q_m1nle, q_m1s, q_ix, q_jat, q_jput, q_min1, q_min2, q_max1, q_max2, q_or0, q_0or, q_bs, if_true, if_false, true_and, and_true, false_and, and_false, not_true_eq_false, not_false_eq_true, eq_self, Bool.false_eq_true, q_z0, q_z1]) (s0 := (nI (1 + 0), fc, by0, f1)) ⟨fc, by0, f1, rfl, fun c d hc hd => z2 _ (by omega)⟩ (show t - 1 < F by omega)
  unfold X12_playing
  rw [show ((0 : Int32), f0) = (nI 0, f0) from rfl, z1, q_bs, show ((1 : Int32), fc, by0, f1) = (nI (1 + 0), fc, by0, f1) from rfl, h1, q_bs]
  by_cases e : t = 0
  · subst e
    exact ⟨fc2, fc2, by2, th, rfl, fun z => by omega⟩
  · obtain ⟨u, rfl⟩ : ∃ u, t = u + 1 := ⟨t - 1, by omega⟩
    rw [Nat.add_sub_cancel] at h2
    have ml := m_leastF (F := F) (c := c) (d := 0) fc2 ok hM h2 hc (Nat.two_pow_pos _) (fun c d hc => by have := gv_le ok u c d hc; omega) (by omega)
    refine ⟨_, fc2, by2, th, ?_, fun _ => by rw [Nat.add_sub_cancel]⟩
    simp (disch := omega) only [l_0, l_1, l_2, l_3, l_4, l_5, l_6, l_7, l_8, l_9, l_10, l_11, l_12, l_13, l_14, l_15, l_16, l_17, l_18, l_19, l_20, l_21, l_22, l_23, l_24, l_25, l_26, l_27, l_30, l_31, l_32, l_40, l_48, l_57, l_59, l_60, l_61, l_62, l_64, l_83, l_90, l_97, l_99, l_100, l_108, l_115, l_122, l_123, l_127, l_128, l_131, l_135, l_200, l_255, l_256, l_300, l_487, l_495, l_900, l_999, l_1000, l_1700, l_1792, l_1980, l_2048, l_2475, l_2970, l_3121, l_9999, l_10000, l_11351, l_65536, l_100000, l_1000000, ↓l_m1, l_neg, nI_add, pk_mul, pk_sub, q_leT, q_leF, q_ltT, q_ltF, q_eqT, q_eqF, q_m1e, q_m1e2, q_m1lt, q_m1le, q_m1nl, q_m1nle, q_m1s, q_ix, q_jat, q_jput, q_min1, q_min2, q_max1, q_max2, q_or0, q_0or, q_bs, if_true, if_false, true_and, and_true, false_and, and_false, not_true_eq_false, not_false_eq_true, eq_self, Bool.false_eq_true, q_z0, q_z1, ml]
    rfl
