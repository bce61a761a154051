/-! ===== PURE 18.b: games: the class's side, the calls ===== -/
theorem q_4096T {a : Nat} (h : 4096 ≤ a) (ha : a < 2 ^ 31) : (nI 4096 ≤ nI a) = True := q_leT h ha
/-- what the class has kept is right -/
def GI (C : Cy) (f : Nat → Int32) : Prop := ∀ t d c, t < 2 → d < 256 → c < C 0 0 0 → f ((t * 256 + d) * 8 + c) = m1 ∨ f ((t * 256 + d) * 8 + c) = nI (gv C (t + 1) c d)
theorem GI_put {C : Cy} {f : Nat → Int32} {t d c : Nat} (ok : Ok C) (h : GI C f) (hd : d < 256) (hc : c < C 0 0 0) : GI C (upd f ((t * 256 + d) * 8 + c) (nI (gv C (t + 1) c d))) := by
  have o0 := ok.1
  intro t' d' c' h1 h2 h3
  by_cases e : t' = t ∧ d' = d ∧ c' = c
  · obtain ⟨rfl, rfl, rfl⟩ := e; exact Or.inr (pk_us)
  · rw [pk_un (by omega)]; exact h t' d' c' h1 h2 h3
abbrev Gm : Type := (Nat → Int32) → Int32 → (Nat → Int32) → Int32 → (Nat → Int32) → Int32 → Int32 → Int32 → Option (Int32 × (Nat → Int32))
def SpL (C : Cy) (tf hf : Nat → Int32) (t : Nat) (g : Gm) : Prop := ∀ f c d, GI C f → c < C 0 0 0 → d < 256 → ∃ f2, g f (nI (C 0 0 0)) tf (nI (C 0 0 3)) hf (nI c) (nI t) (nI d) = some (nI (gv C t c d), f2) ∧ GI C f2
def SpM (C : Cy) (tf hf : Nat → Int32) (t : Nat) (g : Gm) : Prop := ∀ f c d, GI C f → c < C 0 0 0 → d < 256 → ∃ f2, g f (nI (C 0 0 0)) tf (nI (C 0 0 3)) hf (nI c) (nI (t + 1)) (nI d) = some (nI (wst C (gv C t) c d (C 0 0 3)), f2) ∧ GI C f2
theorem q_t1 (t : Nat) : nI (t + 1) - nI 1 = nI t := by rw [pk_sub (by omega), Nat.add_sub_cancel]
theorem c_most {F : Nat} {C : Cy} {tf hf : Nat → Int32} {t : Nat} {g : Gm} (ok : Ok C) (hH : CH C hf) (ht : t ≤ 3) (hg : SpL C tf hf t g) (hF : 100 < F) : SpM C tf hf t (X5_mostWorth_s g F) := by
  intro f c d hf0 hc hd
  have o0 := ok.1
  obtain ⟨f1, g1, g2⟩ := hg f c d hf0 hc hd
  obtain ⟨e, h1, f2, rfl, h2⟩ := it_rel (b := X5_mostWorth_s_b16 g F (nI (C 0 0 0)) tf (nI (C 0 0 3)) hf (nI c) (nI (t + 1)) (nI d)) (C 0 0 3)
    (fun h s => ∃ f, s = (nI (wst C (gv C t) c d h), nI h, f) ∧ GI C f)
    (fun e => ∃ f, e = (nI (wst C (gv C t) c d (C 0 0 3)), f) ∧ GI C f) (fun h s hh hs => by
      obtain ⟨f, rfl, hf1⟩ := hs
      have eh := ok.2.2.2.1 h hh
      have dl : d ||| 2 ^ h < 256 := or_lt (n := 8) hd (by omega)
      have b1 := gv_le ok t c (d ||| 2 ^ h) hc
      have b2 := wst_le ok (W := gv C t) (c := c) (B := 12) (fun d => by have := gv_le ok t c d hc; omega) d h (by omega)
      obtain ⟨f2, i1, i2⟩ := hg f c (d ||| 2 ^ h) hf1 hc dl
      unfold X5_mostWorth_s_b16 X5_mostWorth_s_j119 X5_mostWorth_s_j70 X5_mostWorth_s_j91
      unfold X5_mostWorth_s_j119
      cases hb : d.testBit h with
      | true =>
        have q : dnP C d h = false := by unfold dnP; rw [hb]; rfl
        refine Or.inl ⟨(nI (wst C (gv C t) c d h), nI (h + 1), f), ?_, f, by rw [wst_F q], hf1⟩
        simp (disch := omega) only [l_0, l_1, l_2, l_3, l_4, l_5, l_6, l_7, l_8, l_9, l_10, l_11, l_12, l_13, l_14, l_15, l_16, l_17, l_18, l_19, l_20, l_21, l_22, l_23, l_24, l_25, l_26, l_27, l_30, l_31, l_32, l_40, l_48, l_57, l_59, l_60, l_61, l_62, l_64, l_83, l_90, l_97, l_99, l_100, l_108, l_115, l_122, l_123, l_127, l_128, l_131, l_135, l_200, l_255, l_256, l_300, l_487, l_495, l_900, l_999, l_1000, l_1700, l_1792, l_1980, l_2048, l_2475, l_2970, l_3121, l_9999, l_10000, l_11351, l_65536, l_100000, l_1000000, ↓l_m1, l_neg, nI_add, pk_mul, pk_sub, q_leT, q_leF, q_ltT, q_ltF, q_eqT, q_eqF, q_m1e, q_m1e2, q_m1lt, q_m1le, q_m1nl, q_m1nle, q_m1s, q_ix, q_jat, q_jput, q_min1, q_min2, q_max1, q_max2, q_or0, q_0or, q_bs, if_true, if_false, true_and, and_true, false_and, and_false, not_true_eq_false, not_false_eq_true, eq_self, Bool.false_eq_true, q_z0, q_z1, q_get, q_set, q_raise, q_bitT hb]
      | false =>
        by_cases z : C 3 h 3 = 0
        · have q : dnP C d h = true := by unfold dnP fate; rw [hb, decide_eq_true z]; rfl
          refine Or.inl ⟨(nI (wst C (gv C t) c d (h + 1)), nI (h + 1), f2), ?_, f2, rfl, i2⟩
          rw [wst_T q]
          by_cases y : C 3 h 0 = c
          · have w : wv C c h = 0 := if_pos y
            rw [w]
            simp (disch := omega) only [l_0, l_1, l_2, l_3, l_4, l_5, l_6, l_7, l_8, l_9, l_10, l_11, l_12, l_13, l_14, l_15, l_16, l_17, l_18, l_19, l_20, l_21, l_22, l_23, l_24, l_25, l_26, l_27, l_30, l_31, l_32, l_40, l_48, l_57, l_59, l_60, l_61, l_62, l_64, l_83, l_90, l_97, l_99, l_100, l_108, l_115, l_122, l_123, l_127, l_128, l_131, l_135, l_200, l_255, l_256, l_300, l_487, l_495, l_900, l_999, l_1000, l_1700, l_1792, l_1980, l_2048, l_2475, l_2970, l_3121, l_9999, l_10000, l_11351, l_65536, l_100000, l_1000000, ↓l_m1, l_neg, nI_add, pk_mul, pk_sub, q_leT, q_leF, q_ltT, q_ltF, q_eqT, q_eqF, q_m1e, q_m1e2, q_m1lt, q_m1le, q_m1nl, q_m1nle, q_m1s, q_ix, q_jat, q_jput, q_min1, q_min2, q_max1, q_max2, q_or0, q_0or, q_bs, if_true, if_false, true_and, and_true, false_and, and_false, not_true_eq_false, not_false_eq_true, eq_self, Bool.false_eq_true, q_z0, q_z1, q_get, q_set, q_raise, q_bitF hb, c_tcT hH, hH h, q_shl1, fa_or, Nat.add_sub_cancel, i1, q_max]
          · have w : wv C c h = C 3 h 2 := if_neg y
            rw [w]
            simp (disch := omega) only [l_0, l_1, l_2, l_3, l_4, l_5, l_6, l_7, l_8, l_9, l_10, l_11, l_12, l_13, l_14, l_15, l_16, l_17, l_18, l_19, l_20, l_21, l_22, l_23, l_24, l_25, l_26, l_27, l_30, l_31, l_32, l_40, l_48, l_57, l_59, l_60, l_61, l_62, l_64, l_83, l_90, l_97, l_99, l_100, l_108, l_115, l_122, l_123, l_127, l_128, l_131, l_135, l_200, l_255, l_256, l_300, l_487, l_495, l_900, l_999, l_1000, l_1700, l_1792, l_1980, l_2048, l_2475, l_2970, l_3121, l_9999, l_10000, l_11351, l_65536, l_100000, l_1000000, ↓l_m1, l_neg, nI_add, pk_mul, pk_sub, q_leT, q_leF, q_ltT, q_ltF, q_eqT, q_eqF, q_m1e, q_m1e2, q_m1lt, q_m1le, q_m1nl, q_m1nle, q_m1s, q_ix, q_jat, q_jput, q_min1, q_min2, q_max1, q_max2, q_or0, q_0or, q_bs, if_true, if_false, true_and, and_true, false_and, and_false, not_true_eq_false, not_false_eq_true, eq_self, Bool.false_eq_true, q_z0, q_z1, q_get, q_set, q_raise, q_bitF hb, c_tcT hH, hH h, q_shl1, fa_or, Nat.add_sub_cancel, i1, q_max]
        · have q : dnP C d h = false := by unfold dnP fate; rw [decide_eq_false z, Bool.and_false]
          refine Or.inl ⟨(nI (wst C (gv C t) c d h), nI (h + 1), f), ?_, f, by rw [wst_F q], hf1⟩
          simp (disch := omega) only [l_0, l_1, l_2, l_3, l_4, l_5, l_6, l_7, l_8, l_9, l_10, l_11, l_12, l_13, l_14, l_15, l_16, l_17, l_18, l_19, l_20, l_21, l_22, l_23, l_24, l_25, l_26, l_27, l_30, l_31, l_32, l_40, l_48, l_57, l_59, l_60, l_61, l_62, l_64, l_83, l_90, l_97, l_99, l_100, l_108, l_115, l_122, l_123, l_127, l_128, l_131, l_135, l_200, l_255, l_256, l_300, l_487, l_495, l_900, l_999, l_1000, l_1700, l_1792, l_1980, l_2048, l_2475, l_2970, l_3121, l_9999, l_10000, l_11351, l_65536, l_100000, l_1000000, ↓l_m1, l_neg, nI_add, pk_mul, pk_sub, q_leT, q_leF, q_ltT, q_ltF, q_eqT, q_eqF, q_m1e, q_m1e2, q_m1lt, q_m1le, q_m1nl, q_m1nle, q_m1s, q_ix, q_jat, q_jput, q_min1, q_min2, q_max1, q_max2, q_or0, q_0or, q_bs, if_true, if_false, true_and, and_true, false_and, and_false, not_true_eq_false, not_false_eq_true, eq_self, Bool.false_eq_true, q_z0, q_z1, q_get, q_set, q_raise, q_bitF hb, c_tcF hH]) (fun s hs => by
      obtain ⟨f, rfl, hf1⟩ := hs
      refine ⟨_, ?_, f, rfl, hf1⟩
      unfold X5_mostWorth_s_b16
      simp (disch := omega) only [l_0, l_1, l_2, l_3, l_4, l_5, l_6, l_7, l_8, l_9, l_10, l_11, l_12, l_13, l_14, l_15, l_16, l_17, l_18, l_19, l_20, l_21, l_22, l_23, l_24, l_25, l_26, l_27, l_30, l_31, l_32, l_40, l_48, l_57, l_59, l_60, l_61, l_62, l_64, l_83, l_90, l_97, l_99, l_100, l_108, l_115, l_122, l_123, l_127, l_128, l_131, l_135, l_200, l_255, l_256, l_300, l_487, l_495, l_900, l_999, l_1000, l_1700, l_1792, l_1980, l_2048, l_2475, l_2970, l_3121, l_9999, l_10000, l_11351, l_65536, l_100000, l_1000000, ↓l_m1, l_neg, nI_add, pk_mul, pk_sub, q_leT, q_leF, q_ltT, q_ltF, q_eqT, q_eqF, q_m1e, q_m1e2, q_m1lt, q_m1le, q_m1nl, q_m1nle, q_m1s, q_ix, q_jat, q_jput, q_min1, q_min2, q_max1, q_max2, q_or0, q_0or, q_bs, if_true, if_false, true_and, and_true, false_and, and_false, not_true_eq_false, not_false_eq_true, eq_self, Bool.false_eq_true, q_z0, q_z1]) (s0 := (nI (gv C t c d), nI 0, f1)) ⟨f1, rfl, g2⟩ (show C 0 0 3 < F by omega)
  refine ⟨f2, ?_, h2⟩
  unfold X5_mostWorth_s
  rw [show (1 : Int32) = nI 1 from rfl, q_t1, g1, q_bs]
  show (iter (X5_mostWorth_s_b16 g F (nI (C 0 0 0)) tf (nI (C 0 0 3)) hf (nI c) (nI (t + 1)) (nI d)) F (nI (gv C t c d), nI 0, f1)).bind _ = _
  rw [h1, q_bs]
theorem c_move {C : Cy} {tf : Nat → Int32} {c k : Nat} (ok : Ok C) (hT : CT C tf) (hc : c < C 0 0 0) (hk : k < C 0 0 0) : X5_canMove tf (nI c) (nI k) = some (zb (mvP C c k)) := by
  have o0 := ok.1
  have tb := c_tB hT (show c < 8 by omega) (show k < 8 by omega)
  unfold X5_canMove X5_canMove_j17
  by_cases e : k = c
  · have q : mvP C c k = true := decide_eq_true (Or.inl e)
    rw [q, zb_t]
    simp (disch := omega) only [l_0, l_1, l_2, l_3, l_4, l_5, l_6, l_7, l_8, l_9, l_10, l_11, l_12, l_13, l_14, l_15, l_16, l_17, l_18, l_19, l_20, l_21, l_22, l_23, l_24, l_25, l_26, l_27, l_30, l_31, l_32, l_40, l_48, l_57, l_59, l_60, l_61, l_62, l_64, l_83, l_90, l_97, l_99, l_100, l_108, l_115, l_122, l_123, l_127, l_128, l_131, l_135, l_200, l_255, l_256, l_300, l_487, l_495, l_900, l_999, l_1000, l_1700, l_1792, l_1980, l_2048, l_2475, l_2970, l_3121, l_9999, l_10000, l_11351, l_65536, l_100000, l_1000000, ↓l_m1, l_neg, nI_add, pk_mul, pk_sub, q_leT, q_leF, q_ltT, q_ltF, q_eqT, q_eqF, q_m1e, q_m1e2, q_m1lt, q_m1le, q_m1nl, q_m1nle, q_m1s, q_ix, q_jat, q_jput, q_min1, q_min2, q_max1, q_max2, q_or0, q_0or, q_bs, if_true, if_false, true_and, and_true, false_and, and_false, not_true_eq_false, not_false_eq_true, eq_self, Bool.false_eq_true, q_z0, q_z1]
  · rcases tk_val ok c k with t | t
    · have q : mvP C c k = false := decide_eq_false (fun z => z.elim e (by omega))
      have t0 : tk0 C c k = 0 := if_pos t
      rw [q, zb_f]
      rw [t0] at tb
      simp (disch := omega) only [l_0, l_1, l_2, l_3, l_4, l_5, l_6, l_7, l_8, l_9, l_10, l_11, l_12, l_13, l_14, l_15, l_16, l_17, l_18, l_19, l_20, l_21, l_22, l_23, l_24, l_25, l_26, l_27, l_30, l_31, l_32, l_40, l_48, l_57, l_59, l_60, l_61, l_62, l_64, l_83, l_90, l_97, l_99, l_100, l_108, l_115, l_122, l_123, l_127, l_128, l_131, l_135, l_200, l_255, l_256, l_300, l_487, l_495, l_900, l_999, l_1000, l_1700, l_1792, l_1980, l_2048, l_2475, l_2970, l_3121, l_9999, l_10000, l_11351, l_65536, l_100000, l_1000000, ↓l_m1, l_neg, nI_add, pk_mul, pk_sub, q_leT, q_leF, q_ltT, q_ltF, q_eqT, q_eqF, q_m1e, q_m1e2, q_m1lt, q_m1le, q_m1nl, q_m1nle, q_m1s, q_ix, q_jat, q_jput, q_min1, q_min2, q_max1, q_max2, q_or0, q_0or, q_bs, if_true, if_false, true_and, and_true, false_and, and_false, not_true_eq_false, not_false_eq_true, eq_self, Bool.false_eq_true, q_z0, q_z1, tb]
    · have q : mvP C c k = true := decide_eq_true (Or.inr (by omega))
      have t0 : tk0 C c k = tk C c k := if_neg (by omega)
      rw [q, zb_t]
      rw [t0] at tb
      simp (disch := omega) only [l_0, l_1, l_2, l_3, l_4, l_5, l_6, l_7, l_8, l_9, l_10, l_11, l_12, l_13, l_14, l_15, l_16, l_17, l_18, l_19, l_20, l_21, l_22, l_23, l_24, l_25, l_26, l_27, l_30, l_31, l_32, l_40, l_48, l_57, l_59, l_60, l_61, l_62, l_64, l_83, l_90, l_97, l_99, l_100, l_108, l_115, l_122, l_123, l_127, l_128, l_131, l_135, l_200, l_255, l_256, l_300, l_487, l_495, l_900, l_999, l_1000, l_1700, l_1792, l_1980, l_2048, l_2475, l_2970, l_3121, l_9999, l_10000, l_11351, l_65536, l_100000, l_1000000, ↓l_m1, l_neg, nI_add, pk_mul, pk_sub, q_leT, q_leF, q_ltT, q_ltF, q_eqT, q_eqF, q_m1e, q_m1e2, q_m1lt, q_m1le, q_m1nl, q_m1nle, q_m1s, q_ix, q_jat, q_jput, q_min1, q_min2, q_max1, q_max2, q_or0, q_0or, q_bs, if_true, if_false, true_and, and_true, false_and, and_false, not_true_eq_false, not_false_eq_true, eq_self, Bool.false_eq_true, q_z0, q_z1, tb]
def lI (v : Nat) : Int32 := if v = 1000000 then m1 else nI v
theorem lI_1 : lI 1000000 = m1 := rfl
theorem lI_n {v : Nat} (h : v < 1000000) : lI v = nI v := if_neg (by omega)
theorem c_least_it {F : Nat} {C : Cy} {tf hf f0 : Nat → Int32} {t c d : Nat} {g : Gm} (x y : Int32) (ok : Ok C) (hT : CT C tf) (hc : c < C 0 0 0) (hd : d < 256) (ht : t < 3) (hg : SpM C tf hf t g) (h0 : GI C f0) (hF : 100 < F) :
    ∃ f2, iter (X5_leastWorth_s_b81 g F (nI (C 0 0 0)) tf (nI (C 0 0 3)) hf (nI c) (nI (t + 1)) (nI d) x y) F (m1, nI 0, f0) = some (nI (gv C (t + 1) c d), f2) ∧ GI C f2 := by
  have o0 := ok.1
  have gl := gv_le ok (t + 1) c d hc
  obtain ⟨e, h1, f2, rfl, h2⟩ := it_rel (b := X5_leastWorth_s_b81 g F (nI (C 0 0 0)) tf (nI (C 0 0 3)) hf (nI c) (nI (t + 1)) (nI d) x y) (C 0 0 0)
    (fun k s => ∃ f, s = (lI (lst C (gv C t) c d k), nI k, f) ∧ GI C f)
    (fun e => ∃ f, e = (lI (lst C (gv C t) c d (C 0 0 0)), f) ∧ GI C f) (fun k s hk hs => by
      obtain ⟨f, rfl, hf1⟩ := hs
      have mv := c_move ok hT hc hk
      obtain ⟨f2, i1, i2⟩ := hg f k d hf1 hk hd
      have b2 := wst_le ok (W := gv C t) (c := k) (B := 12) (fun d => by have := gv_le ok t k d hk; omega) d (C 0 0 3) (Nat.le_refl _)
      have l6 := lst_le6 C (gv C t) c d k
      unfold X5_leastWorth_s_b81 X5_leastWorth_s_j133 X5_leastWorth_s_j135
      cases q : mvP C c k with
      | false =>
        rw [q, zb_f] at mv
        refine Or.inl ⟨(lI (lst C (gv C t) c d k), nI (k + 1), f), ?_, f, by rw [lst_F q], hf1⟩
        simp (disch := omega) only [l_0, l_1, l_2, l_3, l_4, l_5, l_6, l_7, l_8, l_9, l_10, l_11, l_12, l_13, l_14, l_15, l_16, l_17, l_18, l_19, l_20, l_21, l_22, l_23, l_24, l_25, l_26, l_27, l_30, l_31, l_32, l_40, l_48, l_57, l_59, l_60, l_61, l_62, l_64, l_83, l_90, l_97, l_99, l_100, l_108, l_115, l_122, l_123, l_127, l_128, l_131, l_135, l_200, l_255, l_256, l_300, l_487, l_495, l_900, l_999, l_1000, l_1700, l_1792, l_1980, l_2048, l_2475, l_2970, l_3121, l_9999, l_10000, l_11351, l_65536, l_100000, l_1000000, ↓l_m1, l_neg, nI_add, pk_mul, pk_sub, q_leT, q_leF, q_ltT, q_ltF, q_eqT, q_eqF, q_m1e, q_m1e2, q_m1lt, q_m1le, q_m1nl, q_m1nle, q_m1s, q_ix, q_jat, q_jput, q_min1, q_min2, q_max1, q_max2, q_or0, q_0or, q_bs, if_true, if_false, true_and, and_true, false_and, and_false, not_true_eq_false, not_false_eq_true, eq_self, Bool.false_eq_true, q_z0, q_z1, mv]
      | true =>
        rw [q, zb_t] at mv
        refine Or.inl ⟨(lI (lst C (gv C t) c d (k + 1)), nI (k + 1), f2), ?_, f2, rfl, i2⟩
        rw [lst_T q]
        generalize lst C (gv C t) c d k = l at l6
        by_cases e : l = 1000000
        · rw [e, Nat.min_eq_right (by omega), lI_1, lI_n (by omega)]
          simp (disch := omega) only [l_0, l_1, l_2, l_3, l_4, l_5, l_6, l_7, l_8, l_9, l_10, l_11, l_12, l_13, l_14, l_15, l_16, l_17, l_18, l_19, l_20, l_21, l_22, l_23, l_24, l_25, l_26, l_27, l_30, l_31, l_32, l_40, l_48, l_57, l_59, l_60, l_61, l_62, l_64, l_83, l_90, l_97, l_99, l_100, l_108, l_115, l_122, l_123, l_127, l_128, l_131, l_135, l_200, l_255, l_256, l_300, l_487, l_495, l_900, l_999, l_1000, l_1700, l_1792, l_1980, l_2048, l_2475, l_2970, l_3121, l_9999, l_10000, l_11351, l_65536, l_100000, l_1000000, ↓l_m1, l_neg, nI_add, pk_mul, pk_sub, q_leT, q_leF, q_ltT, q_ltF, q_eqT, q_eqF, q_m1e, q_m1e2, q_m1lt, q_m1le, q_m1nl, q_m1nle, q_m1s, q_ix, q_jat, q_jput, q_min1, q_min2, q_max1, q_max2, q_or0, q_0or, q_bs, if_true, if_false, true_and, and_true, false_and, and_false, not_true_eq_false, not_false_eq_true, eq_self, Bool.false_eq_true, q_z0, q_z1, mv, i1]
        · rw [lI_n (show l < 1000000 by omega), lI_n (show min l (wst C (gv C t) k d (C 0 0 3)) < 1000000 by omega)]
          simp (disch := omega) only [l_0, l_1, l_2, l_3, l_4, l_5, l_6, l_7, l_8, l_9, l_10, l_11, l_12, l_13, l_14, l_15, l_16, l_17, l_18, l_19, l_20, l_21, l_22, l_23, l_24, l_25, l_26, l_27, l_30, l_31, l_32, l_40, l_48, l_57, l_59, l_60, l_61, l_62, l_64, l_83, l_90, l_97, l_99, l_100, l_108, l_115, l_122, l_123, l_127, l_128, l_131, l_135, l_200, l_255, l_256, l_300, l_487, l_495, l_900, l_999, l_1000, l_1700, l_1792, l_1980, l_2048, l_2475, l_2970, l_3121, l_9999, l_10000, l_11351, l_65536, l_100000, l_1000000, ↓l_m1, l_neg, nI_add, pk_mul, pk_sub, q_leT, q_leF, q_ltT, q_ltF, q_eqT, q_eqF, q_m1e, q_m1e2, q_m1lt, q_m1le, q_m1nl, q_m1nle, q_m1s, q_ix, q_jat, q_jput, q_min1, q_min2, q_max1, q_max2, q_or0, q_0or, q_bs, if_true, if_false, true_and, and_true, false_and, and_false, not_true_eq_false, not_false_eq_true, eq_self, Bool.false_eq_true, q_z0, q_z1, mv, i1, q_min]) (fun s hs => by
      obtain ⟨f, rfl, hf1⟩ := hs
      refine ⟨_, ?_, f, rfl, hf1⟩
      unfold X5_leastWorth_s_b81
      simp (disch := omega) only [l_0, l_1, l_2, l_3, l_4, l_5, l_6, l_7, l_8, l_9, l_10, l_11, l_12, l_13, l_14, l_15, l_16, l_17, l_18, l_19, l_20, l_21, l_22, l_23, l_24, l_25, l_26, l_27, l_30, l_31, l_32, l_40, l_48, l_57, l_59, l_60, l_61, l_62, l_64, l_83, l_90, l_97, l_99, l_100, l_108, l_115, l_122, l_123, l_127, l_128, l_131, l_135, l_200, l_255, l_256, l_300, l_487, l_495, l_900, l_999, l_1000, l_1700, l_1792, l_1980, l_2048, l_2475, l_2970, l_3121, l_9999, l_10000, l_11351, l_65536, l_100000, l_1000000, ↓l_m1, l_neg, nI_add, pk_mul, pk_sub, q_leT, q_leF, q_ltT, q_ltF, q_eqT, q_eqF, q_m1e, q_m1e2, q_m1lt, q_m1le, q_m1nl, q_m1nle, q_m1s, q_ix, q_jat, q_jput, q_min1, q_min2, q_max1, q_max2, q_or0, q_0or, q_bs, if_true, if_false, true_and, and_true, false_and, and_false, not_true_eq_false, not_false_eq_true, eq_self, Bool.false_eq_true, q_z0, q_z1]) (s0 := (m1, nI 0, f0)) ⟨f0, rfl, h0⟩ (show C 0 0 0 < F by omega)
  refine ⟨f2, ?_, h2⟩
  rw [h1, lI_n (show lst C (gv C t) c d (C 0 0 0) < 1000000 from by show gv C (t + 1) c d < 1000000; omega)]; rfl
theorem c_least {F : Nat} {C : Cy} {tf hf : Nat → Int32} {t : Nat} {g : Gm} (ok : Ok C) (hT : CT C tf) (ht : t < 3) (hg : SpM C tf hf t g) (hF : 100 < F) : SpL C tf hf (t + 1) (X5_leastWorth_s g F) := by
  intro f c d hf0 hc hd
  have o0 := ok.1
  have gl := gv_le ok (t + 1) c d hc
  unfold X5_leastWorth_s X5_leastWorth_s_j48 X5_leastWorth_s_j49 X5_leastWorth_s_j75
  by_cases h2 : t < 2
  · rcases hf0 t d c h2 hd hc with k | k
    · obtain ⟨f2, i1, i2⟩ := c_least_it (F := F) (nI ((t * 256 + d) * 8 + c)) (nI 1) ok hT hc hd ht hg hf0 hF
      refine ⟨upd f2 ((t * 256 + d) * 8 + c) (nI (gv C (t + 1) c d)), ?_, GI_put ok i2 hd hc⟩
      simp (disch := omega) only [l_0, l_1, l_2, l_3, l_4, l_5, l_6, l_7, l_8, l_9, l_10, l_11, l_12, l_13, l_14, l_15, l_16, l_17, l_18, l_19, l_20, l_21, l_22, l_23, l_24, l_25, l_26, l_27, l_30, l_31, l_32, l_40, l_48, l_57, l_59, l_60, l_61, l_62, l_64, l_83, l_90, l_97, l_99, l_100, l_108, l_115, l_122, l_123, l_127, l_128, l_131, l_135, l_200, l_255, l_256, l_300, l_487, l_495, l_900, l_999, l_1000, l_1700, l_1792, l_1980, l_2048, l_2475, l_2970, l_3121, l_9999, l_10000, l_11351, l_65536, l_100000, l_1000000, ↓l_m1, l_neg, nI_add, pk_mul, pk_sub, q_leT, q_leF, q_ltT, q_ltF, q_eqT, q_eqF, q_m1e, q_m1e2, q_m1lt, q_m1le, q_m1nl, q_m1nle, q_m1s, q_ix, q_jat, q_jput, q_min1, q_min2, q_max1, q_max2, q_or0, q_0or, q_bs, if_true, if_false, true_and, and_true, false_and, and_false, not_true_eq_false, not_false_eq_true, eq_self, Bool.false_eq_true, q_z0, q_z1, l_4096, Nat.add_sub_cancel, k, i1]
    · refine ⟨f, ?_, hf0⟩
      simp (disch := omega) only [l_0, l_1, l_2, l_3, l_4, l_5, l_6, l_7, l_8, l_9, l_10, l_11, l_12, l_13, l_14, l_15, l_16, l_17, l_18, l_19, l_20, l_21, l_22, l_23, l_24, l_25, l_26, l_27, l_30, l_31, l_32, l_40, l_48, l_57, l_59, l_60, l_61, l_62, l_64, l_83, l_90, l_97, l_99, l_100, l_108, l_115, l_122, l_123, l_127, l_128, l_131, l_135, l_200, l_255, l_256, l_300, l_487, l_495, l_900, l_999, l_1000, l_1700, l_1792, l_1980, l_2048, l_2475, l_2970, l_3121, l_9999, l_10000, l_11351, l_65536, l_100000, l_1000000, ↓l_m1, l_neg, nI_add, pk_mul, pk_sub, q_leT, q_leF, q_ltT, q_ltF, q_eqT, q_eqF, q_m1e, q_m1e2, q_m1lt, q_m1le, q_m1nl, q_m1nle, q_m1s, q_ix, q_jat, q_jput, q_min1, q_min2, q_max1, q_max2, q_or0, q_0or, q_bs, if_true, if_false, true_and, and_true, false_and, and_false, not_true_eq_false, not_false_eq_true, eq_self, Bool.false_eq_true, q_z0, q_z1, l_4096, Nat.add_sub_cancel, k]
  · obtain ⟨f2, i1, i2⟩ := c_least_it (F := F) (nI ((t * 256 + d) * 8 + c)) (nI 0) ok hT hc hd ht hg hf0 hF
    refine ⟨f2, ?_, i2⟩
    simp (disch := omega) only [l_0, l_1, l_2, l_3, l_4, l_5, l_6, l_7, l_8, l_9, l_10, l_11, l_12, l_13, l_14, l_15, l_16, l_17, l_18, l_19, l_20, l_21, l_22, l_23, l_24, l_25, l_26, l_27, l_30, l_31, l_32, l_40, l_48, l_57, l_59, l_60, l_61, l_62, l_64, l_83, l_90, l_97, l_99, l_100, l_108, l_115, l_122, l_123, l_127, l_128, l_131, l_135, l_200, l_255, l_256, l_300, l_487, l_495, l_900, l_999, l_1000, l_1700, l_1792, l_1980, l_2048, l_2475, l_2970, l_3121, l_9999, l_10000, l_11351, l_65536, l_100000, l_1000000, ↓l_m1, l_neg, nI_add, pk_mul, pk_sub, q_leT, q_leF, q_ltT, q_ltF, q_eqT, q_eqF, q_m1e, q_m1e2, q_m1lt, q_m1le, q_m1nl, q_m1nle, q_m1s, q_ix, q_jat, q_jput, q_min1, q_min2, q_max1, q_max2, q_or0, q_0or, q_bs, if_true, if_false, true_and, and_true, false_and, and_false, not_true_eq_false, not_false_eq_true, eq_self, Bool.false_eq_true, q_z0, q_z1, l_4096, Nat.add_sub_cancel, i1]
theorem c_rec {F : Nat} {C : Cy} {tf hf : Nat → Int32} (ok : Ok C) (hT : CT C tf) (hH : CH C hf) (hF : 100 < F) : ∀ t, t ≤ 3 → ∀ G, t < G → SpL C tf hf t (X5_leastWorth_r F G)
  | 0, _, G, hG => by
    obtain ⟨G, rfl⟩ : ∃ k, G = k + 1 := ⟨G - 1, by omega⟩
    intro f c d hf0 hc hd
    refine ⟨f, ?_, hf0⟩
    show X5_leastWorth_s (X5_mostWorth_s (X5_leastWorth_r F G) F) F f (nI (C 0 0 0)) tf (nI (C 0 0 3)) hf (nI c) (nI 0) (nI d) = _
    unfold X5_leastWorth_s
    rw [if_pos (show nI 0 < (1 : Int32) by decide)]
    rfl
  | t + 1, ht, G, hG => by
    obtain ⟨G, rfl⟩ : ∃ k, G = k + 1 := ⟨G - 1, by omega⟩
    exact c_least ok hT (by omega) (c_most ok hH (by omega) (c_rec ok hT hH hF t (by omega) G (by omega)) hF) hF
theorem c_forget {F : Nat} (C : Cy) {f0 : Nat → Int32} (o8 : C 0 0 0 ≤ 8) (hF : 5000 < F) : ∃ f, X5_forget F f0 = some f ∧ GI C f := by
  obtain ⟨f, h1, h2⟩ := it_rel (b := X5_forget_b2 F) 4096 (fun i s => ∃ f, s = (nI i, f) ∧ ∀ k, k < i → f k = m1) (fun f => ∀ k, k < 4096 → f k = m1) (fun i s hi hs => by
      obtain ⟨f, rfl, hf⟩ := hs
      refine Or.inl ⟨(nI (i + 1), upd f i m1), ?_, _, rfl, fun k hk => ?_⟩
      · unfold X5_forget_b2
        simp (disch := omega) only [l_0, l_1, l_2, l_3, l_4, l_5, l_6, l_7, l_8, l_9, l_10, l_11, l_12, l_13, l_14, l_15, l_16, l_17, l_18, l_19, l_20, l_21, l_22, l_23, l_24, l_25, l_26, l_27, l_30, l_31, l_32, l_40, l_48, l_57, l_59, l_60, l_61, l_62, l_64, l_83, l_90, l_97, l_99, l_100, l_108, l_115, l_122, l_123, l_127, l_128, l_131, l_135, l_200, l_255, l_256, l_300, l_487, l_495, l_900, l_999, l_1000, l_1700, l_1792, l_1980, l_2048, l_2475, l_2970, l_3121, l_9999, l_10000, l_11351, l_65536, l_100000, l_1000000, ↓l_m1, l_neg, nI_add, pk_mul, pk_sub, q_leT, q_leF, q_ltT, q_ltF, q_eqT, q_eqF, q_m1e, q_m1e2, q_m1lt, q_m1le, q_m1nl, q_m1nle, q_m1s, q_ix, q_jat, q_jput, q_min1, q_min2, q_max1, q_max2, q_or0, q_0or, q_bs, if_true, if_false, true_and, and_true, false_and, and_false, not_true_eq_false, not_false_eq_true, eq_self, Bool.false_eq_true, q_z0, q_z1, l_4096]
      · by_cases e : k = i
        · rw [e, pk_us]
        · rw [pk_un e]; exact hf k (by omega)) (fun s hs => by
      obtain ⟨f, rfl, hf⟩ := hs
      refine ⟨f, ?_, hf⟩
      unfold X5_forget_b2
      simp (disch := omega) only [l_0, l_1, l_2, l_3, l_4, l_5, l_6, l_7, l_8, l_9, l_10, l_11, l_12, l_13, l_14, l_15, l_16, l_17, l_18, l_19, l_20, l_21, l_22, l_23, l_24, l_25, l_26, l_27, l_30, l_31, l_32, l_40, l_48, l_57, l_59, l_60, l_61, l_62, l_64, l_83, l_90, l_97, l_99, l_100, l_108, l_115, l_122, l_123, l_127, l_128, l_131, l_135, l_200, l_255, l_256, l_300, l_487, l_495, l_900, l_999, l_1000, l_1700, l_1792, l_1980, l_2048, l_2475, l_2970, l_3121, l_9999, l_10000, l_11351, l_65536, l_100000, l_1000000, ↓l_m1, l_neg, nI_add, pk_mul, pk_sub, q_leT, q_leF, q_ltT, q_ltF, q_eqT, q_eqF, q_m1e, q_m1e2, q_m1lt, q_m1le, q_m1nl, q_m1nle, q_m1s, q_ix, q_jat, q_jput, q_min1, q_min2, q_max1, q_max2, q_or0, q_0or, q_bs, if_true, if_false, true_and, and_true, false_and, and_false, not_true_eq_false, not_false_eq_true, eq_self, Bool.false_eq_true, q_z0, q_z1, l_4096]) (s0 := (nI 0, f0)) ⟨f0, rfl, fun k hk => by omega⟩ (show 4096 < F by omega)
  refine ⟨f, ?_, fun t d c a1 a2 a3 => Or.inl (h2 _ (by omega))⟩
  unfold X5_forget
  rw [show ((0 : Int32), f0) = (nI 0, f0) from rfl, h1, q_bs]
theorem c_worth {F : Nat} {C : Cy} {tf hf f0 : Nat → Int32} {c t : Nat} (ok : Ok C) (hT : CT C tf) (hH : CH C hf) (hc : c < C 0 0 0) (ht : t ≤ 3) (hF : 5000 < F) : ∃ f, X5_worthOf F f0 (nI (C 0 0 0)) tf (nI (C 0 0 3)) hf (nI c) (nI t) = some (nI (gv C t c 0), f) := by
  obtain ⟨f1, h1, h2⟩ := c_forget (F := F) C (f0 := f0) (by have := ok.1; omega) hF
  obtain ⟨f2, h3, _⟩ := c_rec (F := F) ok hT hH (by omega) t ht 5 (by omega) f1 c 0 h2 hc (by omega)
  refine ⟨f2, ?_⟩
  unfold X5_worthOf
  rw [h1, q_bs]
  unfold X5_leastWorth
  rw [show (0 : Int32) = nI 0 from rfl, h3, q_bs]
theorem c_first1 {F : Nat} {C : Cy} {tf hf f0 : Nat → Int32} {c t : Nat} (ok : Ok C) (hT : CT C tf) (hH : CH C hf) (hc : c < C 0 0 0) (ht : t < 3) (hF : 5000 < F) : ∃ f, X5_firstMove F f0 (nI (C 0 0 0)) tf (nI (C 0 0 3)) hf (nI c) (nI (t + 1)) = some (fstI C (gv C t) c 0 (nI c) (C 0 0 0), f) := by
  have o0 := ok.1
  obtain ⟨f1, z1, z2⟩ := c_forget (F := F) C (f0 := f0) (by have := ok.1; omega) hF
  have hg : SpM C tf hf t (X5_mostWorth_s (X5_leastWorth_r F 5) F) := c_most ok hH (by omega) (c_rec (F := F) ok hT hH (by omega) t (by omega) 5 (by omega)) (by omega)
  obtain ⟨e, h1, f2, rfl⟩ := it_rel (b := X5_firstMove_b13 F (nI (C 0 0 0)) tf (nI (C 0 0 3)) hf (nI c) (nI (t + 1))) (C 0 0 0)
    (fun k s => ∃ f, s = (fstI C (gv C t) c 0 (nI c) k, lI (lst C (gv C t) c 0 k), nI k, f) ∧ GI C f)
    (fun e => ∃ f, e = (fstI C (gv C t) c 0 (nI c) (C 0 0 0), f)) (fun k s hk hs => by
      obtain ⟨f, rfl, hf1⟩ := hs
      have mv := c_move ok hT hc hk
      obtain ⟨f2, i1, i2⟩ := hg f k 0 hf1 hk (by omega)
      have b2 := wst_le ok (W := gv C t) (c := k) (B := 12) (fun d => by have := gv_le ok t k d hk; omega) 0 (C 0 0 3) (Nat.le_refl _)
      have l6 := lst_le6 C (gv C t) c 0 k
      unfold X5_firstMove_b13 X5_firstMove_j62 X5_firstMove_j70 X5_mostWorth
      cases q : mvP C c k with
      | false =>
        rw [q, zb_f] at mv
        refine Or.inl ⟨(fstI C (gv C t) c 0 (nI c) k, lI (lst C (gv C t) c 0 k), nI (k + 1), f), ?_, f, by rw [lst_F q, fstI_F q], hf1⟩
        simp (disch := omega) only [l_0, l_1, l_2, l_3, l_4, l_5, l_6, l_7, l_8, l_9, l_10, l_11, l_12, l_13, l_14, l_15, l_16, l_17, l_18, l_19, l_20, l_21, l_22, l_23, l_24, l_25, l_26, l_27, l_30, l_31, l_32, l_40, l_48, l_57, l_59, l_60, l_61, l_62, l_64, l_83, l_90, l_97, l_99, l_100, l_108, l_115, l_122, l_123, l_127, l_128, l_131, l_135, l_200, l_255, l_256, l_300, l_487, l_495, l_900, l_999, l_1000, l_1700, l_1792, l_1980, l_2048, l_2475, l_2970, l_3121, l_9999, l_10000, l_11351, l_65536, l_100000, l_1000000, ↓l_m1, l_neg, nI_add, pk_mul, pk_sub, q_leT, q_leF, q_ltT, q_ltF, q_eqT, q_eqF, q_m1e, q_m1e2, q_m1lt, q_m1le, q_m1nl, q_m1nle, q_m1s, q_ix, q_jat, q_jput, q_min1, q_min2, q_max1, q_max2, q_or0, q_0or, q_bs, if_true, if_false, true_and, and_true, false_and, and_false, not_true_eq_false, not_false_eq_true, eq_self, Bool.false_eq_true, q_z0, q_z1, mv]
      | true =>
        rw [q, zb_t] at mv
        refine Or.inl ⟨(fstI C (gv C t) c 0 (nI c) (k + 1), lI (lst C (gv C t) c 0 (k + 1)), nI (k + 1), f2), ?_, f2, rfl, i2⟩
        rw [lst_T q]
        by_cases y : wst C (gv C t) k 0 (C 0 0 3) < lst C (gv C t) c 0 k
        · rw [fstI_T q y, Nat.min_eq_right (by omega), lI_n (show wst C (gv C t) k 0 (C 0 0 3) < 1000000 by omega)]
          by_cases e : lst C (gv C t) c 0 k = 1000000
          · rw [e, lI_1]
            simp (disch := omega) only [l_0, l_1, l_2, l_3, l_4, l_5, l_6, l_7, l_8, l_9, l_10, l_11, l_12, l_13, l_14, l_15, l_16, l_17, l_18, l_19, l_20, l_21, l_22, l_23, l_24, l_25, l_26, l_27, l_30, l_31, l_32, l_40, l_48, l_57, l_59, l_60, l_61, l_62, l_64, l_83, l_90, l_97, l_99, l_100, l_108, l_115, l_122, l_123, l_127, l_128, l_131, l_135, l_200, l_255, l_256, l_300, l_487, l_495, l_900, l_999, l_1000, l_1700, l_1792, l_1980, l_2048, l_2475, l_2970, l_3121, l_9999, l_10000, l_11351, l_65536, l_100000, l_1000000, ↓l_m1, l_neg, nI_add, pk_mul, pk_sub, q_leT, q_leF, q_ltT, q_ltF, q_eqT, q_eqF, q_m1e, q_m1e2, q_m1lt, q_m1le, q_m1nl, q_m1nle, q_m1s, q_ix, q_jat, q_jput, q_min1, q_min2, q_max1, q_max2, q_or0, q_0or, q_bs, if_true, if_false, true_and, and_true, false_and, and_false, not_true_eq_false, not_false_eq_true, eq_self, Bool.false_eq_true, q_z0, q_z1, mv, i1]
          · rw [lI_n (show lst C (gv C t) c 0 k < 1000000 by omega)]
            simp (disch := omega) only [l_0, l_1, l_2, l_3, l_4, l_5, l_6, l_7, l_8, l_9, l_10, l_11, l_12, l_13, l_14, l_15, l_16, l_17, l_18, l_19, l_20, l_21, l_22, l_23, l_24, l_25, l_26, l_27, l_30, l_31, l_32, l_40, l_48, l_57, l_59, l_60, l_61, l_62, l_64, l_83, l_90, l_97, l_99, l_100, l_108, l_115, l_122, l_123, l_127, l_128, l_131, l_135, l_200, l_255, l_256, l_300, l_487, l_495, l_900, l_999, l_1000, l_1700, l_1792, l_1980, l_2048, l_2475, l_2970, l_3121, l_9999, l_10000, l_11351, l_65536, l_100000, l_1000000, ↓l_m1, l_neg, nI_add, pk_mul, pk_sub, q_leT, q_leF, q_ltT, q_ltF, q_eqT, q_eqF, q_m1e, q_m1e2, q_m1lt, q_m1le, q_m1nl, q_m1nle, q_m1s, q_ix, q_jat, q_jput, q_min1, q_min2, q_max1, q_max2, q_or0, q_0or, q_bs, if_true, if_false, true_and, and_true, false_and, and_false, not_true_eq_false, not_false_eq_true, eq_self, Bool.false_eq_true, q_z0, q_z1, mv, i1]
        · rw [fstI_N q y, Nat.min_eq_left (by omega), lI_n (show lst C (gv C t) c 0 k < 1000000 by omega)]
          simp (disch := omega) only [l_0, l_1, l_2, l_3, l_4, l_5, l_6, l_7, l_8, l_9, l_10, l_11, l_12, l_13, l_14, l_15, l_16, l_17, l_18, l_19, l_20, l_21, l_22, l_23, l_24, l_25, l_26, l_27, l_30, l_31, l_32, l_40, l_48, l_57, l_59, l_60, l_61, l_62, l_64, l_83, l_90, l_97, l_99, l_100, l_108, l_115, l_122, l_123, l_127, l_128, l_131, l_135, l_200, l_255, l_256, l_300, l_487, l_495, l_900, l_999, l_1000, l_1700, l_1792, l_1980, l_2048, l_2475, l_2970, l_3121, l_9999, l_10000, l_11351, l_65536, l_100000, l_1000000, ↓l_m1, l_neg, nI_add, pk_mul, pk_sub, q_leT, q_leF, q_ltT, q_ltF, q_eqT, q_eqF, q_m1e, q_m1e2, q_m1lt, q_m1le, q_m1nl, q_m1nle, q_m1s, q_ix, q_jat, q_jput, q_min1, q_min2, q_max1, q_max2, q_or0, q_0or, q_bs, if_true, if_false, true_and, and_true, false_and, and_false, not_true_eq_false, not_false_eq_true, eq_self, Bool.false_eq_true, q_z0, q_z1, mv, i1]) (fun s hs => by
      obtain ⟨f, rfl, hf1⟩ := hs
      refine ⟨_, ?_, f, rfl⟩
      unfold X5_firstMove_b13
      simp (disch := omega) only [l_0, l_1, l_2, l_3, l_4, l_5, l_6, l_7, l_8, l_9, l_10, l_11, l_12, l_13, l_14, l_15, l_16, l_17, l_18, l_19, l_20, l_21, l_22, l_23, l_24, l_25, l_26, l_27, l_30, l_31, l_32, l_40, l_48, l_57, l_59, l_60, l_61, l_62, l_64, l_83, l_90, l_97, l_99, l_100, l_108, l_115, l_122, l_123, l_127, l_128, l_131, l_135, l_200, l_255, l_256, l_300, l_487, l_495, l_900, l_999, l_1000, l_1700, l_1792, l_1980, l_2048, l_2475, l_2970, l_3121, l_9999, l_10000, l_11351, l_65536, l_100000, l_1000000, ↓l_m1, l_neg, nI_add, pk_mul, pk_sub, q_leT, q_leF, q_ltT, q_ltF, q_eqT, q_eqF, q_m1e, q_m1e2, q_m1lt, q_m1le, q_m1nl, q_m1nle, q_m1s, q_ix, q_jat, q_jput, q_min1, q_min2, q_max1, q_max2, q_or0, q_0or, q_bs, if_true, if_false, true_and, and_true, false_and, and_false, not_true_eq_false, not_false_eq_true, eq_self, Bool.false_eq_true, q_z0, q_z1]) (s0 := (nI c, m1, nI 0, f1)) ⟨f1, rfl, z2⟩ (show C 0 0 0 < F by omega)
  refine ⟨f2, ?_⟩
  unfold X5_firstMove
  rw [z1, q_bs]
  show (iter (X5_firstMove_b13 F (nI (C 0 0 0)) tf (nI (C 0 0 3)) hf (nI c) (nI (t + 1))) F (nI c, m1, nI 0, f1)).bind _ = _
  rw [h1, q_bs]
theorem game_lift {S T : vS} (h : Rel S T) {x : Option (Int32 × Int32 × (Nat → Int32))} {y : Option (Int32 × Int32 × Int32 × (Nat → Int32) × (Nat → Int32))} (hxy : ∃ r st f a b c, x = some (r, st, f) ∧ y = some (r, st, a, b, c)) :
    ∃ (r : Int32) (S2 T2 : vS), x.map (fun u => (u.1, (sA (sI S 5 u.2.1) 61 u.2.2))) = some (r, S2) ∧ y.map (fun u => (u.1, (sA (sA (sI (sI T 0 u.2.1) 15 u.2.2.1) 9 u.2.2.2.1) 10 u.2.2.2.2))) = some (r, T2) ∧ Rel S2 T2 := by
  obtain ⟨r, st, f, a, b, c, rfl, rfl⟩ := hxy
  refine ⟨r, _, _, rfl, rfl, Rel_ask h ⟨fun k hk => ?_, ⟨rfl, rfl⟩, fun k hk => ?_, fun _ _ => rfl⟩ ⟨fun k hk => ?_, ⟨rfl, rfl⟩, fun k h1 h2 => rfl, fun k hk => ?_, fun _ _ _ => rfl, rfl⟩ ⟨fun k h1 h2 => ?_, fun k hk => ?_, rfl⟩ ⟨fun k hk => rfl, fun _ _ => rfl⟩ rfl⟩
  · simp (disch := omega) only [sI, sA, sB, up_n]
  · simp (disch := omega) only [sI, sA, sB, up_n]
  · simp (disch := omega) only [sI, sA, sB, up_n]
  · simp (disch := omega) only [sI, sA, sB, up_n]
  · simp (disch := omega) only [sI, sA, sB, up_n]
  · simp (disch := omega) only [sI, sA, sB, up_n]
theorem ok_game' {F : Nat} (hF : 5000 < F) : ok_game F Rel := fun S T v w h => by
  obtain ⟨C, ok, h8, wb, ⟨⟨c0, c1, c2, c3, c5, c6, c8, c9, c10⟩, cR, cT, cF, cX, cH, cW⟩, hM, nr, wr⟩ := Rel_city h
  have c0 : S.1 6 = nI (C 0 0 5) := c0; have c1 : S.1 7 = nI (C 0 0 6) := c1; have c2 : S.1 8 = nI (C 0 0 7) := c2; have c3 : S.1 9 = nI (C 0 0 8) := c3; have c5 : S.1 11 = nI (C 0 0 0) := c5; have c6 : S.1 12 = nI (C 0 0 1) := c6; have c8 : S.1 14 = nI (C 0 0 2) := c8; have c9 : S.1 15 = nI (C 0 0 3) := c9; have c10 : S.1 16 = nI (C 0 0 4) := c10; have cT : CT C (S.2.2.1 1) := cT; have cF : CF C (S.2.2.1 2) := cF; have cX : CX C (S.2.2.1 5) := cX; have cH : CH C (S.2.2.1 6) := cH; have cW : CW C (S.2.2.1 7) := cW
  have o0 := ok.1
  refine game_lift h ?_
  rw [c5, c9]
  unfold X11_game X12_game X11_game_j17 X12_game_j33 X11_none X11_answer X12_refuse X12_gives
  rcases rng v (n := C 0 0 0) (by omega) with ⟨x, hx, rfl⟩ | hv
  case inr => exact ⟨m1, nI 1, S.2.2.1 61, T.1 15, T.2.2.1 9, T.2.2.1 10, by simp (disch := omega) only [l_0, l_1, l_2, l_3, l_4, l_5, l_6, l_7, l_8, l_9, l_10, l_11, l_12, l_13, l_14, l_15, l_16, l_17, l_18, l_19, l_20, l_21, l_22, l_23, l_24, l_25, l_26, l_27, l_30, l_31, l_32, l_40, l_48, l_57, l_59, l_60, l_61, l_62, l_64, l_83, l_90, l_97, l_99, l_100, l_108, l_115, l_122, l_123, l_127, l_128, l_131, l_135, l_200, l_255, l_256, l_300, l_487, l_495, l_900, l_999, l_1000, l_1700, l_1792, l_1980, l_2048, l_2475, l_2970, l_3121, l_9999, l_10000, l_11351, l_65536, l_100000, l_1000000, ↓l_m1, l_neg, nI_add, pk_mul, pk_sub, q_leT, q_leF, q_ltT, q_ltF, q_eqT, q_eqF, q_m1e, q_m1e2, q_m1lt, q_m1le, q_m1nl, q_m1nle, q_m1s, q_ix, q_jat, q_jput, q_min1, q_min2, q_max1, q_max2, q_or0, q_0or, q_bs, if_true, if_false, true_and, and_true, false_and, and_false, not_true_eq_false, not_false_eq_true, eq_self, Bool.false_eq_true, q_z0, q_z1, q_iCF hv], by simp (disch := omega) only [l_0, l_1, l_2, l_3, l_4, l_5, l_6, l_7, l_8, l_9, l_10, l_11, l_12, l_13, l_14, l_15, l_16, l_17, l_18, l_19, l_20, l_21, l_22, l_23, l_24, l_25, l_26, l_27, l_30, l_31, l_32, l_40, l_48, l_57, l_59, l_60, l_61, l_62, l_64, l_83, l_90, l_97, l_99, l_100, l_108, l_115, l_122, l_123, l_127, l_128, l_131, l_135, l_200, l_255, l_256, l_300, l_487, l_495, l_900, l_999, l_1000, l_1700, l_1792, l_1980, l_2048, l_2475, l_2970, l_3121, l_9999, l_10000, l_11351, l_65536, l_100000, l_1000000, ↓l_m1, l_neg, nI_add, pk_mul, pk_sub, q_leT, q_leF, q_ltT, q_ltF, q_eqT, q_eqF, q_m1e, q_m1e2, q_m1lt, q_m1le, q_m1nl, q_m1nle, q_m1s, q_ix, q_jat, q_jput, q_min1, q_min2, q_max1, q_max2, q_or0, q_0or, q_bs, if_true, if_false, true_and, and_true, false_and, and_false, not_true_eq_false, not_false_eq_true, eq_self, Bool.false_eq_true, q_z0, q_z1, m_iCF hM hv]⟩
  rcases rngw w (a := 0) (b := 3) (by omega) (by omega) with ⟨t, _, ht, rfl⟩ | hw
  case inr => exact ⟨m1, nI 1, S.2.2.1 61, T.1 15, T.2.2.1 9, T.2.2.1 10, by simp (disch := omega) only [l_0, l_1, l_2, l_3, l_4, l_5, l_6, l_7, l_8, l_9, l_10, l_11, l_12, l_13, l_14, l_15, l_16, l_17, l_18, l_19, l_20, l_21, l_22, l_23, l_24, l_25, l_26, l_27, l_30, l_31, l_32, l_40, l_48, l_57, l_59, l_60, l_61, l_62, l_64, l_83, l_90, l_97, l_99, l_100, l_108, l_115, l_122, l_123, l_127, l_128, l_131, l_135, l_200, l_255, l_256, l_300, l_487, l_495, l_900, l_999, l_1000, l_1700, l_1792, l_1980, l_2048, l_2475, l_2970, l_3121, l_9999, l_10000, l_11351, l_65536, l_100000, l_1000000, ↓l_m1, l_neg, nI_add, pk_mul, pk_sub, q_leT, q_leF, q_ltT, q_ltF, q_eqT, q_eqF, q_m1e, q_m1e2, q_m1lt, q_m1le, q_m1nl, q_m1nle, q_m1s, q_ix, q_jat, q_jput, q_min1, q_min2, q_max1, q_max2, q_or0, q_0or, q_bs, if_true, if_false, true_and, and_true, false_and, and_false, not_true_eq_false, not_false_eq_true, eq_self, Bool.false_eq_true, q_z0, q_z1, q_iCT hx, q_wF hw], by simp (disch := omega) only [l_0, l_1, l_2, l_3, l_4, l_5, l_6, l_7, l_8, l_9, l_10, l_11, l_12, l_13, l_14, l_15, l_16, l_17, l_18, l_19, l_20, l_21, l_22, l_23, l_24, l_25, l_26, l_27, l_30, l_31, l_32, l_40, l_48, l_57, l_59, l_60, l_61, l_62, l_64, l_83, l_90, l_97, l_99, l_100, l_108, l_115, l_122, l_123, l_127, l_128, l_131, l_135, l_200, l_255, l_256, l_300, l_487, l_495, l_900, l_999, l_1000, l_1700, l_1792, l_1980, l_2048, l_2475, l_2970, l_3121, l_9999, l_10000, l_11351, l_65536, l_100000, l_1000000, ↓l_m1, l_neg, nI_add, pk_mul, pk_sub, q_leT, q_leF, q_ltT, q_ltF, q_eqT, q_eqF, q_m1e, q_m1e2, q_m1lt, q_m1le, q_m1nl, q_m1nle, q_m1s, q_ix, q_jat, q_jput, q_min1, q_min2, q_max1, q_max2, q_or0, q_0or, q_bs, if_true, if_false, true_and, and_true, false_and, and_false, not_true_eq_false, not_false_eq_true, eq_self, Bool.false_eq_true, q_z0, q_z1, m_iCT hM hx, q_fF (a := 0) (b := 3) (A := 0) (B := 3) (by decide) (by decide) hw]⟩
  obtain ⟨f1, r1⟩ := c_worth (F := F) (f0 := S.2.2.1 61) ok cT cH hx ht hF
  obtain ⟨a, fc2, by2, f2, r2, _⟩ := m_playing (F := F) (by0 := T.2.2.1 9) (f0 := T.2.2.1 10) (T.1 15) ok hM hx ht hF
  exact ⟨nI (gv C t x 0), nI 0, f1, a, by2, f2, by simp (disch := omega) only [l_0, l_1, l_2, l_3, l_4, l_5, l_6, l_7, l_8, l_9, l_10, l_11, l_12, l_13, l_14, l_15, l_16, l_17, l_18, l_19, l_20, l_21, l_22, l_23, l_24, l_25, l_26, l_27, l_30, l_31, l_32, l_40, l_48, l_57, l_59, l_60, l_61, l_62, l_64, l_83, l_90, l_97, l_99, l_100, l_108, l_115, l_122, l_123, l_127, l_128, l_131, l_135, l_200, l_255, l_256, l_300, l_487, l_495, l_900, l_999, l_1000, l_1700, l_1792, l_1980, l_2048, l_2475, l_2970, l_3121, l_9999, l_10000, l_11351, l_65536, l_100000, l_1000000, ↓l_m1, l_neg, nI_add, pk_mul, pk_sub, q_leT, q_leF, q_ltT, q_ltF, q_eqT, q_eqF, q_m1e, q_m1e2, q_m1lt, q_m1le, q_m1nl, q_m1nle, q_m1s, q_ix, q_jat, q_jput, q_min1, q_min2, q_max1, q_max2, q_or0, q_0or, q_bs, if_true, if_false, true_and, and_true, false_and, and_false, not_true_eq_false, not_false_eq_true, eq_self, Bool.false_eq_true, q_z0, q_z1, q_iCT hx, q_wT, r1], by simp (disch := omega) only [l_0, l_1, l_2, l_3, l_4, l_5, l_6, l_7, l_8, l_9, l_10, l_11, l_12, l_13, l_14, l_15, l_16, l_17, l_18, l_19, l_20, l_21, l_22, l_23, l_24, l_25, l_26, l_27, l_30, l_31, l_32, l_40, l_48, l_57, l_59, l_60, l_61, l_62, l_64, l_83, l_90, l_97, l_99, l_100, l_108, l_115, l_122, l_123, l_127, l_128, l_131, l_135, l_200, l_255, l_256, l_300, l_487, l_495, l_900, l_999, l_1000, l_1700, l_1792, l_1980, l_2048, l_2475, l_2970, l_3121, l_9999, l_10000, l_11351, l_65536, l_100000, l_1000000, ↓l_m1, l_neg, nI_add, pk_mul, pk_sub, q_leT, q_leF, q_ltT, q_ltF, q_eqT, q_eqF, q_m1e, q_m1e2, q_m1lt, q_m1le, q_m1nl, q_m1nle, q_m1s, q_ix, q_jat, q_jput, q_min1, q_min2, q_max1, q_max2, q_or0, q_0or, q_bs, if_true, if_false, true_and, and_true, false_and, and_false, not_true_eq_false, not_false_eq_true, eq_self, Bool.false_eq_true, q_z0, q_z1, m_iCT hM hx, q_fT (a := 0) (b := 3) (A := 0) (B := 3) (by decide) (by decide), r2]⟩
theorem ok_moveOf' {F : Nat} (hF : 5000 < F) : ok_moveOf F Rel := fun S T v w h => by
  obtain ⟨C, ok, h8, wb, ⟨⟨c0, c1, c2, c3, c5, c6, c8, c9, c10⟩, cR, cT, cF, cX, cH, cW⟩, hM, nr, wr⟩ := Rel_city h
  have c0 : S.1 6 = nI (C 0 0 5) := c0; have c1 : S.1 7 = nI (C 0 0 6) := c1; have c2 : S.1 8 = nI (C 0 0 7) := c2; have c3 : S.1 9 = nI (C 0 0 8) := c3; have c5 : S.1 11 = nI (C 0 0 0) := c5; have c6 : S.1 12 = nI (C 0 0 1) := c6; have c8 : S.1 14 = nI (C 0 0 2) := c8; have c9 : S.1 15 = nI (C 0 0 3) := c9; have c10 : S.1 16 = nI (C 0 0 4) := c10; have cT : CT C (S.2.2.1 1) := cT; have cF : CF C (S.2.2.1 2) := cF; have cX : CX C (S.2.2.1 5) := cX; have cH : CH C (S.2.2.1 6) := cH; have cW : CW C (S.2.2.1 7) := cW
  have o0 := ok.1
  refine game_lift h ?_
  rw [c5, c9]
  unfold X11_moveOf X12_moveOf X11_moveOf_j17 X12_moveOf_j20 X11_none X11_answer X12_refuse X12_gives
  rcases rng v (n := C 0 0 0) (by omega) with ⟨x, hx, rfl⟩ | hv
  case inr => exact ⟨m1, nI 1, S.2.2.1 61, T.1 15, T.2.2.1 9, T.2.2.1 10, by simp (disch := omega) only [l_0, l_1, l_2, l_3, l_4, l_5, l_6, l_7, l_8, l_9, l_10, l_11, l_12, l_13, l_14, l_15, l_16, l_17, l_18, l_19, l_20, l_21, l_22, l_23, l_24, l_25, l_26, l_27, l_30, l_31, l_32, l_40, l_48, l_57, l_59, l_60, l_61, l_62, l_64, l_83, l_90, l_97, l_99, l_100, l_108, l_115, l_122, l_123, l_127, l_128, l_131, l_135, l_200, l_255, l_256, l_300, l_487, l_495, l_900, l_999, l_1000, l_1700, l_1792, l_1980, l_2048, l_2475, l_2970, l_3121, l_9999, l_10000, l_11351, l_65536, l_100000, l_1000000, ↓l_m1, l_neg, nI_add, pk_mul, pk_sub, q_leT, q_leF, q_ltT, q_ltF, q_eqT, q_eqF, q_m1e, q_m1e2, q_m1lt, q_m1le, q_m1nl, q_m1nle, q_m1s, q_ix, q_jat, q_jput, q_min1, q_min2, q_max1, q_max2, q_or0, q_0or, q_bs, if_true, if_false, true_and, and_true, false_and, and_false, not_true_eq_false, not_false_eq_true, eq_self, Bool.false_eq_true, q_z0, q_z1, q_iCF hv], by simp (disch := omega) only [l_0, l_1, l_2, l_3, l_4, l_5, l_6, l_7, l_8, l_9, l_10, l_11, l_12, l_13, l_14, l_15, l_16, l_17, l_18, l_19, l_20, l_21, l_22, l_23, l_24, l_25, l_26, l_27, l_30, l_31, l_32, l_40, l_48, l_57, l_59, l_60, l_61, l_62, l_64, l_83, l_90, l_97, l_99, l_100, l_108, l_115, l_122, l_123, l_127, l_128, l_131, l_135, l_200, l_255, l_256, l_300, l_487, l_495, l_900, l_999, l_1000, l_1700, l_1792, l_1980, l_2048, l_2475, l_2970, l_3121, l_9999, l_10000, l_11351, l_65536, l_100000, l_1000000, ↓l_m1, l_neg, nI_add, pk_mul, pk_sub, q_leT, q_leF, q_ltT, q_ltF, q_eqT, q_eqF, q_m1e, q_m1e2, q_m1lt, q_m1le, q_m1nl, q_m1nle, q_m1s, q_ix, q_jat, q_jput, q_min1, q_min2, q_max1, q_max2, q_or0, q_0or, q_bs, if_true, if_false, true_and, and_true, false_and, and_false, not_true_eq_false, not_false_eq_true, eq_self, Bool.false_eq_true, q_z0, q_z1, m_iCF hM hv]⟩
  rcases rngw w (a := 1) (b := 3) (by omega) (by omega) with ⟨t, ht1, ht, rfl⟩ | hw
  case inr => exact ⟨m1, nI 1, S.2.2.1 61, T.1 15, T.2.2.1 9, T.2.2.1 10, by simp (disch := omega) only [l_0, l_1, l_2, l_3, l_4, l_5, l_6, l_7, l_8, l_9, l_10, l_11, l_12, l_13, l_14, l_15, l_16, l_17, l_18, l_19, l_20, l_21, l_22, l_23, l_24, l_25, l_26, l_27, l_30, l_31, l_32, l_40, l_48, l_57, l_59, l_60, l_61, l_62, l_64, l_83, l_90, l_97, l_99, l_100, l_108, l_115, l_122, l_123, l_127, l_128, l_131, l_135, l_200, l_255, l_256, l_300, l_487, l_495, l_900, l_999, l_1000, l_1700, l_1792, l_1980, l_2048, l_2475, l_2970, l_3121, l_9999, l_10000, l_11351, l_65536, l_100000, l_1000000, ↓l_m1, l_neg, nI_add, pk_mul, pk_sub, q_leT, q_leF, q_ltT, q_ltF, q_eqT, q_eqF, q_m1e, q_m1e2, q_m1lt, q_m1le, q_m1nl, q_m1nle, q_m1s, q_ix, q_jat, q_jput, q_min1, q_min2, q_max1, q_max2, q_or0, q_0or, q_bs, if_true, if_false, true_and, and_true, false_and, and_false, not_true_eq_false, not_false_eq_true, eq_self, Bool.false_eq_true, q_z0, q_z1, q_iCT hx, q_wF hw], by simp (disch := omega) only [l_0, l_1, l_2, l_3, l_4, l_5, l_6, l_7, l_8, l_9, l_10, l_11, l_12, l_13, l_14, l_15, l_16, l_17, l_18, l_19, l_20, l_21, l_22, l_23, l_24, l_25, l_26, l_27, l_30, l_31, l_32, l_40, l_48, l_57, l_59, l_60, l_61, l_62, l_64, l_83, l_90, l_97, l_99, l_100, l_108, l_115, l_122, l_123, l_127, l_128, l_131, l_135, l_200, l_255, l_256, l_300, l_487, l_495, l_900, l_999, l_1000, l_1700, l_1792, l_1980, l_2048, l_2475, l_2970, l_3121, l_9999, l_10000, l_11351, l_65536, l_100000, l_1000000, ↓l_m1, l_neg, nI_add, pk_mul, pk_sub, q_leT, q_leF, q_ltT, q_ltF, q_eqT, q_eqF, q_m1e, q_m1e2, q_m1lt, q_m1le, q_m1nl, q_m1nle, q_m1s, q_ix, q_jat, q_jput, q_min1, q_min2, q_max1, q_max2, q_or0, q_0or, q_bs, if_true, if_false, true_and, and_true, false_and, and_false, not_true_eq_false, not_false_eq_true, eq_self, Bool.false_eq_true, q_z0, q_z1, m_iCT hM hx, q_fF (a := 1) (b := 3) (A := 1) (B := 3) (by decide) (by decide) hw]⟩
  obtain ⟨u, rfl⟩ : ∃ u, t = u + 1 := ⟨t - 1, by omega⟩
  obtain ⟨f1, r1⟩ := c_first1 (F := F) (f0 := S.2.2.1 61) ok cT cH hx (show u < 3 by omega) hF
  obtain ⟨a, fc2, by2, f2, r2, r3⟩ := m_playing (F := F) (by0 := T.2.2.1 9) (f0 := T.2.2.1 10) (T.1 15) ok hM hx ht hF
  have r4 := r3 (by omega)
  rw [Nat.add_sub_cancel] at r4
  have gl := gv_le ok (u + 1) x 0 hx
  rw [fstI_any fc2 (nI x) (C 0 0 0) (show gv C (u + 1) x 0 < 1000000 by omega)] at r4
  refine ⟨fstI C (gv C u) x 0 (nI x) (C 0 0 0), nI 0, f1, a, by2, f2, by simp (disch := omega) only [l_0, l_1, l_2, l_3, l_4, l_5, l_6, l_7, l_8, l_9, l_10, l_11, l_12, l_13, l_14, l_15, l_16, l_17, l_18, l_19, l_20, l_21, l_22, l_23, l_24, l_25, l_26, l_27, l_30, l_31, l_32, l_40, l_48, l_57, l_59, l_60, l_61, l_62, l_64, l_83, l_90, l_97, l_99, l_100, l_108, l_115, l_122, l_123, l_127, l_128, l_131, l_135, l_200, l_255, l_256, l_300, l_487, l_495, l_900, l_999, l_1000, l_1700, l_1792, l_1980, l_2048, l_2475, l_2970, l_3121, l_9999, l_10000, l_11351, l_65536, l_100000, l_1000000, ↓l_m1, l_neg, nI_add, pk_mul, pk_sub, q_leT, q_leF, q_ltT, q_ltF, q_eqT, q_eqF, q_m1e, q_m1e2, q_m1lt, q_m1le, q_m1nl, q_m1nle, q_m1s, q_ix, q_jat, q_jput, q_min1, q_min2, q_max1, q_max2, q_or0, q_0or, q_bs, if_true, if_false, true_and, and_true, false_and, and_false, not_true_eq_false, not_false_eq_true, eq_self, Bool.false_eq_true, q_z0, q_z1, q_iCT hx, q_wT, r1], ?_⟩
  rw [← r4]
  simp (disch := omega) only [l_0, l_1, l_2, l_3, l_4, l_5, l_6, l_7, l_8, l_9, l_10, l_11, l_12, l_13, l_14, l_15, l_16, l_17, l_18, l_19, l_20, l_21, l_22, l_23, l_24, l_25, l_26, l_27, l_30, l_31, l_32, l_40, l_48, l_57, l_59, l_60, l_61, l_62, l_64, l_83, l_90, l_97, l_99, l_100, l_108, l_115, l_122, l_123, l_127, l_128, l_131, l_135, l_200, l_255, l_256, l_300, l_487, l_495, l_900, l_999, l_1000, l_1700, l_1792, l_1980, l_2048, l_2475, l_2970, l_3121, l_9999, l_10000, l_11351, l_65536, l_100000, l_1000000, ↓l_m1, l_neg, nI_add, pk_mul, pk_sub, q_leT, q_leF, q_ltT, q_ltF, q_eqT, q_eqF, q_m1e, q_m1e2, q_m1lt, q_m1le, q_m1nl, q_m1nle, q_m1s, q_ix, q_jat, q_jput, q_min1, q_min2, q_max1, q_max2, q_or0, q_0or, q_bs, if_true, if_false, true_and, and_true, false_and, and_false, not_true_eq_false, not_false_eq_true, eq_self, Bool.false_eq_true, q_z0, q_z1, m_iCT hM hx, q_fT (a := 1) (b := 3) (A := 1) (B := 3) (by decide) (by decide), r2]
