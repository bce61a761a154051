/-! ===== PURE 19.b: a step on both sides ===== -/
def Cxt (C0 C : Cy) (R : Nat → Nat → Nat) (tf df xf hf wf wk : Nat → Int32) (M : Nat) (g ran : Nat → Int32) (q s : Nat) : Prop :=
  Dv C0 C ∧ CT C tf ∧ CF C df ∧ CX C xf ∧ CH C hf ∧ CW C wf ∧ MS C g ∧ TL C0 C ran ∧ s < 65536 ∧ cls R q < M ∧ M ≤ 30 ∧ ClRow R wk q ∧ (∀ c, c < 6 → c ≠ 3 → g (127 + 6 * q + c) = nI (R q c)) ∧ q < 60
def Act (F : Nat) (C0 C : Cy) (R : Nat → Nat → Nat) (tf df xf hf wf wk : Nat → Int32) (M : Nat) (g f ran : Nat → Int32) (q s : Nat) (mis : Int32) (tm : Nat) (ov : Int32) : Prop :=
  ∃ (D : Cy) (s' : Nat) (can : Bool) (xf2 hf2 wf2 g2 f2 ran2 : Nat → Int32),
    X2_timesOf F (nI s) (nI 0) mis (nI (C 0 0 5)) (nI (C 0 0 6)) (nI (C 0 0 8)) (nI (C 0 0 0)) tf df (nI (C 0 0 2)) xf (nI (C 0 0 3)) hf (nI (C 0 0 4)) wf (nI M) wk (nI (cls R q)) = some (nI tm, nI s', ov, (if can then mis else mis + nI 1), nI (D 0 0 8), xf2, hf2, wf2) ∧
    X12_does F (nI s) g f ran (nI (127 + 6 * q)) = some (zb can, nI s', g2, f2, ran2) ∧
    s' < 65536 ∧ CX D xf2 ∧ CH D hf2 ∧ CW D wf2 ∧ MS D g2 ∧ Fr g g2 ∧ Dv C0 D ∧ TL C0 D ran2 ∧ ran2 0 = ran 0 ∧ ran2 4 = ran 4
theorem wk_get {R : Nat → Nat → Nat} {wk : Nat → Int32} {q M c v : Nat} (hi : cls R q < M) (h30 : M ≤ 30) (hc : c < 6) (h : wk (cls R q * 6 + c) = nI v) : X7_get 180 (nI 6) (nI M) wk (nI (cls R q)) (nI c) = some (nI v) := by
  rw [q_get hi hc (by omega) (by omega), h]
theorem wk_any {R : Nat → Nat → Nat} {wk : Nat → Int32} {q M c : Nat} (hi : cls R q < M) (h30 : M ≤ 30) (hc : c < 6) : X7_get 180 (nI 6) (nI M) wk (nI (cls R q)) (nI c) = some (wk (cls R q * 6 + c)) := q_get hi hc (by omega) (by omega)
theorem act_hour {F : Nat} {C0 C : Cy} {R : Nat → Nat → Nat} {tf df xf hf wf wk g f ran : Nat → Int32} {M q s : Nat} (mis : Int32) (x : Cxt C0 C R tf df xf hf wf wk M g ran q s) (hR : R q 0 = 11) (h1 : 1 ≤ R q 1) (h48 : R q 1 ≤ 48) (hF : 2000 < F) : Act F C0 C R tf df xf hf wf wk M g f ran q s mis 0 (nI 0) := by
  obtain ⟨dv, hT, hD, hX, hH, hW, hM, tl, hs, hi, h30, cr, wg, hq⟩ := x
  have ok := dv.1
  have o0 := ok.1
  have r0 := wk_get (c := 0) hi h30 (by omega) cr.1
  rw [hR, show cw 11 = 10 from rfl] at r0
  have r1 := wk_any (wk := wk) (c := 1) hi h30 (by omega)
  have r2 := wk_get (c := 2) hi h30 (by omega) (cr.2.2.1 (Or.inl hR))
  have g0 : g (127 + 6 * q) = nI (R q 0) := wg 0 (by omega) (by omega)
  rw [hR] at g0
  have g1 := wg 1 (by omega) (by omega)
  have g8 : g 8 = nI (C 0 0 8) := hM.1 8 (by omega)
  unfold Act
  by_cases h9 : C 0 0 8 + R q 1 ≤ 9999
  · obtain ⟨xf2, hf2, wf2, p1, p2, p3, p4⟩ := c_pass (F := F) (n := R q 1) ok hT hD hX hH hW (by omega) (by omega) hF
    obtain ⟨g2, f2, m1', m2, m3, m4⟩ := m_hours (F := F) (f := f) (n := R q 1) ok hM (by omega) (by omega) hF
    have okp := pass_ok ok (R q 1) (by omega)
    have a1 := m_allW (F := F) ok hM (by omega)
    have a2 := m_allW (F := F) okp m2 (by omega)
    have hw := wsm_pass C (R q 1)
    have fp : fct (pass C (R q 1)) = fct C + hapS C (R q 1) := by
      unfold fct; rw [pass_0 C (by omega)]; exact fct_pass C _
    refine ⟨pass C (R q 1), s, true, xf2, hf2, wf2, g2, f2, upd (upd (upd ran 2 (ran 2 + nI (hapS C (R q 1)))) 1 (ran 1 + nI (R q 1))) 3 (ran 3 + nI (wsm (pass C (R q 1)) - wsm C)), ?_, ?_, hs, p2, p3, p4, m2, m3, Dv_pass dv h9, ?_, ?_, ?_⟩
    · rw [pass_8]
      unfold X2_timesOf X2_timesOf_j184 X0_canPass
      simp (disch := omega) only [l_0, l_1, l_2, l_3, l_4, l_5, l_6, l_7, l_8, l_9, l_10, l_11, l_12, l_13, l_14, l_15, l_16, l_17, l_18, l_19, l_20, l_21, l_22, l_23, l_24, l_25, l_26, l_27, l_30, l_31, l_32, l_40, l_48, l_57, l_59, l_60, l_61, l_62, l_64, l_83, l_90, l_97, l_99, l_100, l_108, l_115, l_122, l_123, l_127, l_128, l_131, l_135, l_200, l_255, l_256, l_300, l_487, l_495, l_900, l_999, l_1000, l_1700, l_1792, l_1980, l_2048, l_2475, l_2970, l_3121, l_9999, l_10000, l_11351, l_65536, l_100000, l_1000000, ↓l_m1, l_neg, nI_add, pk_mul, pk_sub, q_leT, q_leF, q_ltT, q_ltF, q_eqT, q_eqF, q_m1e, q_m1e2, q_m1lt, q_m1le, q_m1nl, q_m1nle, q_m1s, q_ix, q_jat, q_jput, q_min1, q_min2, q_max1, q_max2, q_or0, q_0or, q_bs, if_true, if_false, true_and, and_true, false_and, and_false, not_true_eq_false, not_false_eq_true, eq_self, Bool.false_eq_true, q_z0, q_z1, r0, r1, r2, p1]
    · unfold X12_does X12_hoursBy
      simp (disch := omega) only [l_0, l_1, l_2, l_3, l_4, l_5, l_6, l_7, l_8, l_9, l_10, l_11, l_12, l_13, l_14, l_15, l_16, l_17, l_18, l_19, l_20, l_21, l_22, l_23, l_24, l_25, l_26, l_27, l_30, l_31, l_32, l_40, l_48, l_57, l_59, l_60, l_61, l_62, l_64, l_83, l_90, l_97, l_99, l_100, l_108, l_115, l_122, l_123, l_127, l_128, l_131, l_135, l_200, l_255, l_256, l_300, l_487, l_495, l_900, l_999, l_1000, l_1700, l_1792, l_1980, l_2048, l_2475, l_2970, l_3121, l_9999, l_10000, l_11351, l_65536, l_100000, l_1000000, ↓l_m1, l_neg, nI_add, pk_mul, pk_sub, q_leT, q_leF, q_ltT, q_ltF, q_eqT, q_eqF, q_m1e, q_m1e2, q_m1lt, q_m1le, q_m1nl, q_m1nle, q_m1s, q_ix, q_jat, q_jput, q_min1, q_min2, q_max1, q_max2, q_or0, q_0or, q_bs, if_true, if_false, true_and, and_true, false_and, and_false, not_true_eq_false, not_false_eq_true, eq_self, Bool.false_eq_true, q_z0, q_z1, g0, g1, g8, a1, m1', a2, pk_un, zb_t]
    · obtain ⟨t1, t2, t3, t4, t5, t6⟩ := tl
      refine ⟨by rw [pass_8]; omega, by omega, by omega, ?_, ?_, ?_⟩
      · rw [pk_un (by omega), pk_us, t4, nI_add, pass_8]; congr 1; omega
      · rw [pk_un (by omega), pk_un (by omega), pk_us, t5, nI_add]; congr 1; omega
      · rw [pk_us, t6, nI_add]; congr 1; omega
    · rw [pk_un (by omega), pk_un (by omega), pk_un (by omega)]
    · rw [pk_un (by omega), pk_un (by omega), pk_un (by omega)]
  · refine ⟨C, s, false, xf, hf, wf, g, f, ran, ?_, ?_, hs, hX, hH, hW, hM, Fr_r g, dv, tl, rfl, rfl⟩
    · unfold X2_timesOf X2_timesOf_j184 X0_canPass
      simp (disch := omega) only [l_0, l_1, l_2, l_3, l_4, l_5, l_6, l_7, l_8, l_9, l_10, l_11, l_12, l_13, l_14, l_15, l_16, l_17, l_18, l_19, l_20, l_21, l_22, l_23, l_24, l_25, l_26, l_27, l_30, l_31, l_32, l_40, l_48, l_57, l_59, l_60, l_61, l_62, l_64, l_83, l_90, l_97, l_99, l_100, l_108, l_115, l_122, l_123, l_127, l_128, l_131, l_135, l_200, l_255, l_256, l_300, l_487, l_495, l_900, l_999, l_1000, l_1700, l_1792, l_1980, l_2048, l_2475, l_2970, l_3121, l_9999, l_10000, l_11351, l_65536, l_100000, l_1000000, ↓l_m1, l_neg, nI_add, pk_mul, pk_sub, q_leT, q_leF, q_ltT, q_ltF, q_eqT, q_eqF, q_m1e, q_m1e2, q_m1lt, q_m1le, q_m1nl, q_m1nle, q_m1s, q_ix, q_jat, q_jput, q_min1, q_min2, q_max1, q_max2, q_or0, q_0or, q_bs, if_true, if_false, true_and, and_true, false_and, and_false, not_true_eq_false, not_false_eq_true, eq_self, Bool.false_eq_true, q_z0, q_z1, r0, r1, r2]
    · unfold X12_does X12_hoursBy
      simp (disch := omega) only [l_0, l_1, l_2, l_3, l_4, l_5, l_6, l_7, l_8, l_9, l_10, l_11, l_12, l_13, l_14, l_15, l_16, l_17, l_18, l_19, l_20, l_21, l_22, l_23, l_24, l_25, l_26, l_27, l_30, l_31, l_32, l_40, l_48, l_57, l_59, l_60, l_61, l_62, l_64, l_83, l_90, l_97, l_99, l_100, l_108, l_115, l_122, l_123, l_127, l_128, l_131, l_135, l_200, l_255, l_256, l_300, l_487, l_495, l_900, l_999, l_1000, l_1700, l_1792, l_1980, l_2048, l_2475, l_2970, l_3121, l_9999, l_10000, l_11351, l_65536, l_100000, l_1000000, ↓l_m1, l_neg, nI_add, pk_mul, pk_sub, q_leT, q_leF, q_ltT, q_ltF, q_eqT, q_eqF, q_m1e, q_m1e2, q_m1lt, q_m1le, q_m1nl, q_m1nle, q_m1s, q_ix, q_jat, q_jput, q_min1, q_min2, q_max1, q_max2, q_or0, q_0or, q_bs, if_true, if_false, true_and, and_true, false_and, and_false, not_true_eq_false, not_false_eq_true, eq_self, Bool.false_eq_true, q_z0, q_z1, g0, g1, g8, zb_f]
theorem act_order {F : Nat} {C0 C : Cy} {R : Nat → Nat → Nat} {tf df xf hf wf wk g f ran : Nat → Int32} {M q s : Nat} (mis : Int32) (x : Cxt C0 C R tf df xf hf wf wk M g ran q s) (hR : R q 0 = 14) (h1 : R q 1 < C 0 0 2) (h2 : R q 2 < C 0 0 3) : Act F C0 C R tf df xf hf wf wk M g f ran q s mis 0 (nI 0) := by
  obtain ⟨dv, hT, hD, hX, hH, hW, hM, tl, hs, hi, h30, cr, wg, hq⟩ := x
  have ok := dv.1
  have o0 := ok.1
  have r0 := wk_get (c := 0) hi h30 (by omega) cr.1
  rw [hR, show cw 14 = 15 from rfl] at r0
  have r1 := wk_get (c := 1) hi h30 (by omega) (cr.2.1 (by omega) (by omega)).1
  have r2 := wk_get (c := 2) hi h30 (by omega) (cr.2.1 (by omega) (by omega)).2
  have g0 : g (127 + 6 * q) = nI (R q 0) := wg 0 (by omega) (by omega)
  rw [hR] at g0
  have g1 := wg 1 (by omega) (by omega)
  have g2 := wg 2 (by omega) (by omega)
  have e1 := ok.2.2.1 _ h1
  have xl := xor_lt e1.2.2 (show R q 2 < 8 by omega)
  have k2 : g (48 + 5 * R q 1 + 2) = nI (C 2 (R q 1) 2) := hM.2.2.2.2.1 _ 2 h1 (by omega) (by omega)
  have okD := Ok_ro (x := R q 1) ok xl
  unfold Act
  refine ⟨setC C 2 (R q 1) 2 (C 2 (R q 1) 2 ^^^ 2 ^ R q 2), s, true, upd xf (R q 1 * 5 + 2) (nI (C 2 (R q 1) 2 ^^^ 2 ^ R q 2)), hf, wf, upd g (48 + 5 * R q 1 + 2) (nI (C 2 (R q 1) 2 ^^^ 2 ^ R q 2)), f, ran, ?_, ?_, hs, CX_upd hX (by omega), CH_o hH (by omega) (by omega), CW_o hW (by omega) (by omega), MS_Ec ok hM h1 (by omega) (by omega), Fr_upd (by omega) (by omega), Dv_set dv okD (by omega), TL_same tl (setC_t C (by omega)) (fct_o (setC_t C (by omega)) (fun k => setC_t C (by omega))) (wsm_t (setC_t C (by omega)) (fun k => setC_t C (by omega))), rfl, rfl⟩
  · rw [setC_t C (show (0 : Nat) ≠ 2 by omega)]
    unfold X2_timesOf X2_timesOf_j184 X0_turnOrder
    simp (disch := omega) only [l_0, l_1, l_2, l_3, l_4, l_5, l_6, l_7, l_8, l_9, l_10, l_11, l_12, l_13, l_14, l_15, l_16, l_17, l_18, l_19, l_20, l_21, l_22, l_23, l_24, l_25, l_26, l_27, l_30, l_31, l_32, l_40, l_48, l_57, l_59, l_60, l_61, l_62, l_64, l_83, l_90, l_97, l_99, l_100, l_108, l_115, l_122, l_123, l_127, l_128, l_131, l_135, l_200, l_255, l_256, l_300, l_487, l_495, l_900, l_999, l_1000, l_1700, l_1792, l_1980, l_2048, l_2475, l_2970, l_3121, l_9999, l_10000, l_11351, l_65536, l_100000, l_1000000, ↓l_m1, l_neg, nI_add, pk_mul, pk_sub, q_leT, q_leF, q_ltT, q_ltF, q_eqT, q_eqF, q_m1e, q_m1e2, q_m1lt, q_m1le, q_m1nl, q_m1nle, q_m1s, q_ix, q_jat, q_jput, q_min1, q_min2, q_max1, q_max2, q_or0, q_0or, q_bs, if_true, if_false, true_and, and_true, false_and, and_false, not_true_eq_false, not_false_eq_true, eq_self, Bool.false_eq_true, q_z0, q_z1, q_get, q_set, q_raise, r0, r1, r2, hX (R q 1), q_shl1, fb_xorI]
  · unfold X12_does X12_ordersBy X12_extraRow
    simp (disch := omega) only [l_0, l_1, l_2, l_3, l_4, l_5, l_6, l_7, l_8, l_9, l_10, l_11, l_12, l_13, l_14, l_15, l_16, l_17, l_18, l_19, l_20, l_21, l_22, l_23, l_24, l_25, l_26, l_27, l_30, l_31, l_32, l_40, l_48, l_57, l_59, l_60, l_61, l_62, l_64, l_83, l_90, l_97, l_99, l_100, l_108, l_115, l_122, l_123, l_127, l_128, l_131, l_135, l_200, l_255, l_256, l_300, l_487, l_495, l_900, l_999, l_1000, l_1700, l_1792, l_1980, l_2048, l_2475, l_2970, l_3121, l_9999, l_10000, l_11351, l_65536, l_100000, l_1000000, ↓l_m1, l_neg, nI_add, pk_mul, pk_sub, q_leT, q_leF, q_ltT, q_ltF, q_eqT, q_eqF, q_m1e, q_m1e2, q_m1lt, q_m1le, q_m1nl, q_m1nle, q_m1s, q_ix, q_jat, q_jput, q_min1, q_min2, q_max1, q_max2, q_or0, q_0or, q_bs, if_true, if_false, true_and, and_true, false_and, and_false, not_true_eq_false, not_false_eq_true, eq_self, Bool.false_eq_true, q_z0, q_z1, g0, g1, g2, k2, q_shl1, fb_xorI, zb_t]
theorem act_put {F : Nat} {C0 C : Cy} {R : Nat → Nat → Nat} {tf df xf hf wf wk g f ran : Nat → Int32} {M q s : Nat} (mis : Int32) (x : Cxt C0 C R tf df xf hf wf wk M g ran q s) (hR : R q 0 = 15) (h1 : R q 1 < C 0 0 3) (h2 : R q 2 ≤ 99) : Act F C0 C R tf df xf hf wf wk M g f ran q s mis 0 (nI 0) := by
  obtain ⟨dv, hT, hD, hX, hH, hW, hM, tl, hs, hi, h30, cr, wg, hq⟩ := x
  have ok := dv.1
  have o0 := ok.1
  have r0 := wk_get (c := 0) hi h30 (by omega) cr.1
  rw [hR, show cw 15 = 16 from rfl] at r0
  have r1 := wk_get (c := 1) hi h30 (by omega) (cr.2.1 (by omega) (by omega)).1
  have r2 := wk_get (c := 2) hi h30 (by omega) (cr.2.1 (by omega) (by omega)).2
  have g0 : g (127 + 6 * q) = nI (R q 0) := wg 0 (by omega) (by omega)
  rw [hR] at g0
  have g1 := wg 1 (by omega) (by omega)
  have g2 := wg 2 (by omega) (by omega)
  have e1 := ok.2.2.2.1 _ h1
  have k1 : g (83 + 4 * R q 1 + 1) = nI (C 3 (R q 1) 1) := hM.2.2.2.2.2.1 _ 1 h1 (by omega)
  unfold Act
  by_cases q1 : C 3 (R q 1) 3 = 0
  case neg =>
    refine ⟨C, s, false, xf, hf, wf, g, f, ran, ?_, ?_, hs, hX, hH, hW, hM, Fr_r g, dv, tl, rfl, rfl⟩
    · unfold X2_timesOf X2_timesOf_j184 X0_putOff
      simp (disch := omega) only [l_0, l_1, l_2, l_3, l_4, l_5, l_6, l_7, l_8, l_9, l_10, l_11, l_12, l_13, l_14, l_15, l_16, l_17, l_18, l_19, l_20, l_21, l_22, l_23, l_24, l_25, l_26, l_27, l_30, l_31, l_32, l_40, l_48, l_57, l_59, l_60, l_61, l_62, l_64, l_83, l_90, l_97, l_99, l_100, l_108, l_115, l_122, l_123, l_127, l_128, l_131, l_135, l_200, l_255, l_256, l_300, l_487, l_495, l_900, l_999, l_1000, l_1700, l_1792, l_1980, l_2048, l_2475, l_2970, l_3121, l_9999, l_10000, l_11351, l_65536, l_100000, l_1000000, ↓l_m1, l_neg, nI_add, pk_mul, pk_sub, q_leT, q_leF, q_ltT, q_ltF, q_eqT, q_eqF, q_m1e, q_m1e2, q_m1lt, q_m1le, q_m1nl, q_m1nle, q_m1s, q_ix, q_jat, q_jput, q_min1, q_min2, q_max1, q_max2, q_or0, q_0or, q_bs, if_true, if_false, true_and, and_true, false_and, and_false, not_true_eq_false, not_false_eq_true, eq_self, Bool.false_eq_true, q_z0, q_z1, r0, r1, r2, c_tcF hH]
    · unfold X12_does X12_puts
      simp (disch := omega) only [l_0, l_1, l_2, l_3, l_4, l_5, l_6, l_7, l_8, l_9, l_10, l_11, l_12, l_13, l_14, l_15, l_16, l_17, l_18, l_19, l_20, l_21, l_22, l_23, l_24, l_25, l_26, l_27, l_30, l_31, l_32, l_40, l_48, l_57, l_59, l_60, l_61, l_62, l_64, l_83, l_90, l_97, l_99, l_100, l_108, l_115, l_122, l_123, l_127, l_128, l_131, l_135, l_200, l_255, l_256, l_300, l_487, l_495, l_900, l_999, l_1000, l_1700, l_1792, l_1980, l_2048, l_2475, l_2970, l_3121, l_9999, l_10000, l_11351, l_65536, l_100000, l_1000000, ↓l_m1, l_neg, nI_add, pk_mul, pk_sub, q_leT, q_leF, q_ltT, q_ltF, q_eqT, q_eqF, q_m1e, q_m1e2, q_m1lt, q_m1le, q_m1nl, q_m1nle, q_m1s, q_ix, q_jat, q_jput, q_min1, q_min2, q_max1, q_max2, q_or0, q_0or, q_bs, if_true, if_false, true_and, and_true, false_and, and_false, not_true_eq_false, not_false_eq_true, eq_self, Bool.false_eq_true, q_z0, q_z1, g0, g1, g2, m_tcF hM, zb_f]
  by_cases q2 : C 3 (R q 1) 1 + R q 2 ≤ 9999
  case neg =>
    refine ⟨C, s, false, xf, hf, wf, g, f, ran, ?_, ?_, hs, hX, hH, hW, hM, Fr_r g, dv, tl, rfl, rfl⟩
    · unfold X2_timesOf X2_timesOf_j184 X0_putOff
      simp (disch := omega) only [l_0, l_1, l_2, l_3, l_4, l_5, l_6, l_7, l_8, l_9, l_10, l_11, l_12, l_13, l_14, l_15, l_16, l_17, l_18, l_19, l_20, l_21, l_22, l_23, l_24, l_25, l_26, l_27, l_30, l_31, l_32, l_40, l_48, l_57, l_59, l_60, l_61, l_62, l_64, l_83, l_90, l_97, l_99, l_100, l_108, l_115, l_122, l_123, l_127, l_128, l_131, l_135, l_200, l_255, l_256, l_300, l_487, l_495, l_900, l_999, l_1000, l_1700, l_1792, l_1980, l_2048, l_2475, l_2970, l_3121, l_9999, l_10000, l_11351, l_65536, l_100000, l_1000000, ↓l_m1, l_neg, nI_add, pk_mul, pk_sub, q_leT, q_leF, q_ltT, q_ltF, q_eqT, q_eqF, q_m1e, q_m1e2, q_m1lt, q_m1le, q_m1nl, q_m1nle, q_m1s, q_ix, q_jat, q_jput, q_min1, q_min2, q_max1, q_max2, q_or0, q_0or, q_bs, if_true, if_false, true_and, and_true, false_and, and_false, not_true_eq_false, not_false_eq_true, eq_self, Bool.false_eq_true, q_z0, q_z1, q_get, q_set, q_raise, r0, r1, r2, c_tcT hH, hH (R q 1)]
    · unfold X12_does X12_puts
      simp (disch := omega) only [l_0, l_1, l_2, l_3, l_4, l_5, l_6, l_7, l_8, l_9, l_10, l_11, l_12, l_13, l_14, l_15, l_16, l_17, l_18, l_19, l_20, l_21, l_22, l_23, l_24, l_25, l_26, l_27, l_30, l_31, l_32, l_40, l_48, l_57, l_59, l_60, l_61, l_62, l_64, l_83, l_90, l_97, l_99, l_100, l_108, l_115, l_122, l_123, l_127, l_128, l_131, l_135, l_200, l_255, l_256, l_300, l_487, l_495, l_900, l_999, l_1000, l_1700, l_1792, l_1980, l_2048, l_2475, l_2970, l_3121, l_9999, l_10000, l_11351, l_65536, l_100000, l_1000000, ↓l_m1, l_neg, nI_add, pk_mul, pk_sub, q_leT, q_leF, q_ltT, q_ltF, q_eqT, q_eqF, q_m1e, q_m1e2, q_m1lt, q_m1le, q_m1nl, q_m1nle, q_m1s, q_ix, q_jat, q_jput, q_min1, q_min2, q_max1, q_max2, q_or0, q_0or, q_bs, if_true, if_false, true_and, and_true, false_and, and_false, not_true_eq_false, not_false_eq_true, eq_self, Bool.false_eq_true, q_z0, q_z1, g0, g1, g2, m_tcT hM, m_0 hM, m_E hM, m_Es hM, m_Er hM, m_H hM, m_W hM, m_R0 hM, m_R1 hM, m_R2 hM, zb_f]
  have okD : Ok (setC C 3 (R q 1) 1 (C 3 (R q 1) 1 + R q 2)) := Ok_H ok (by omega)
  refine ⟨setC C 3 (R q 1) 1 (C 3 (R q 1) 1 + R q 2), s, true, xf, upd hf (R q 1 * 5 + 1) (nI (C 3 (R q 1) 1 + R q 2)), wf, upd g (83 + 4 * R q 1 + 1) (nI (C 3 (R q 1) 1 + R q 2)), f, ran, ?_, ?_, hs, CX_o hX (by omega) (by omega), CH_upd hH (by omega), CW_o hW (by omega) (by omega), MS_H ok hM h1 (by omega), Fr_upd (by omega) (by omega), Dv_set dv okD (by omega), TL_same tl (setC_t C (by omega)) (fct_o (setC_t C (by omega)) (fun k => setC_c C (by omega))) (wsm_t (setC_t C (by omega)) (fun k => setC_t C (by omega))), rfl, rfl⟩
  · rw [setC_t C (show (0 : Nat) ≠ 3 by omega)]
    unfold X2_timesOf X2_timesOf_j184 X0_putOff
    simp (disch := omega) only [l_0, l_1, l_2, l_3, l_4, l_5, l_6, l_7, l_8, l_9, l_10, l_11, l_12, l_13, l_14, l_15, l_16, l_17, l_18, l_19, l_20, l_21, l_22, l_23, l_24, l_25, l_26, l_27, l_30, l_31, l_32, l_40, l_48, l_57, l_59, l_60, l_61, l_62, l_64, l_83, l_90, l_97, l_99, l_100, l_108, l_115, l_122, l_123, l_127, l_128, l_131, l_135, l_200, l_255, l_256, l_300, l_487, l_495, l_900, l_999, l_1000, l_1700, l_1792, l_1980, l_2048, l_2475, l_2970, l_3121, l_9999, l_10000, l_11351, l_65536, l_100000, l_1000000, ↓l_m1, l_neg, nI_add, pk_mul, pk_sub, q_leT, q_leF, q_ltT, q_ltF, q_eqT, q_eqF, q_m1e, q_m1e2, q_m1lt, q_m1le, q_m1nl, q_m1nle, q_m1s, q_ix, q_jat, q_jput, q_min1, q_min2, q_max1, q_max2, q_or0, q_0or, q_bs, if_true, if_false, true_and, and_true, false_and, and_false, not_true_eq_false, not_false_eq_true, eq_self, Bool.false_eq_true, q_z0, q_z1, q_get, q_set, q_raise, r0, r1, r2, c_tcT hH, hH (R q 1)]
  · unfold X12_does X12_puts X12_happeningRow
    simp (disch := omega) only [l_0, l_1, l_2, l_3, l_4, l_5, l_6, l_7, l_8, l_9, l_10, l_11, l_12, l_13, l_14, l_15, l_16, l_17, l_18, l_19, l_20, l_21, l_22, l_23, l_24, l_25, l_26, l_27, l_30, l_31, l_32, l_40, l_48, l_57, l_59, l_60, l_61, l_62, l_64, l_83, l_90, l_97, l_99, l_100, l_108, l_115, l_122, l_123, l_127, l_128, l_131, l_135, l_200, l_255, l_256, l_300, l_487, l_495, l_900, l_999, l_1000, l_1700, l_1792, l_1980, l_2048, l_2475, l_2970, l_3121, l_9999, l_10000, l_11351, l_65536, l_100000, l_1000000, ↓l_m1, l_neg, nI_add, pk_mul, pk_sub, q_leT, q_leF, q_ltT, q_ltF, q_eqT, q_eqF, q_m1e, q_m1e2, q_m1lt, q_m1le, q_m1nl, q_m1nle, q_m1s, q_ix, q_jat, q_jput, q_min1, q_min2, q_max1, q_max2, q_or0, q_0or, q_bs, if_true, if_false, true_and, and_true, false_and, and_false, not_true_eq_false, not_false_eq_true, eq_self, Bool.false_eq_true, q_z0, q_z1, g0, g1, g2, m_tcT hM, m_0 hM, m_E hM, m_Es hM, m_Er hM, m_H hM, m_W hM, m_R0 hM, m_R1 hM, m_R2 hM, k1, zb_t]
theorem act_loop {F : Nat} {C0 C : Cy} {R : Nat → Nat → Nat} {tf df xf hf wf wk g f ran : Nat → Int32} {M q s : Nat} (mis : Int32) (x : Cxt C0 C R tf df xf hf wf wk M g ran q s) (hR : R q 0 = 18) : Act F C0 C R tf df xf hf wf wk M g f ran q s mis (R q 1) (nI 0) := by
  obtain ⟨dv, hT, hD, hX, hH, hW, hM, tl, hs, hi, h30, cr, wg, hq⟩ := x
  have r0 := wk_get (c := 0) hi h30 (by omega) cr.1
  rw [hR, show cw 18 = 23 from rfl] at r0
  have r1 := wk_any (wk := wk) (c := 1) hi h30 (by omega)
  have r2 := wk_get (c := 2) hi h30 (by omega) (cr.2.2.1 (Or.inr hR))
  have g0 : g (127 + 6 * q) = nI (R q 0) := wg 0 (by omega) (by omega)
  rw [hR] at g0
  unfold Act
  refine ⟨C, s, true, xf, hf, wf, g, f, ran, ?_, ?_, hs, hX, hH, hW, hM, Fr_r g, dv, tl, rfl, rfl⟩
  · unfold X2_timesOf
    simp (disch := omega) only [l_0, l_1, l_2, l_3, l_4, l_5, l_6, l_7, l_8, l_9, l_10, l_11, l_12, l_13, l_14, l_15, l_16, l_17, l_18, l_19, l_20, l_21, l_22, l_23, l_24, l_25, l_26, l_27, l_30, l_31, l_32, l_40, l_48, l_57, l_59, l_60, l_61, l_62, l_64, l_83, l_90, l_97, l_99, l_100, l_108, l_115, l_122, l_123, l_127, l_128, l_131, l_135, l_200, l_255, l_256, l_300, l_487, l_495, l_900, l_999, l_1000, l_1700, l_1792, l_1980, l_2048, l_2475, l_2970, l_3121, l_9999, l_10000, l_11351, l_65536, l_100000, l_1000000, ↓l_m1, l_neg, nI_add, pk_mul, pk_sub, q_leT, q_leF, q_ltT, q_ltF, q_eqT, q_eqF, q_m1e, q_m1e2, q_m1lt, q_m1le, q_m1nl, q_m1nle, q_m1s, q_ix, q_jat, q_jput, q_min1, q_min2, q_max1, q_max2, q_or0, q_0or, q_bs, if_true, if_false, true_and, and_true, false_and, and_false, not_true_eq_false, not_false_eq_true, eq_self, Bool.false_eq_true, q_z0, q_z1, r0, r1, r2]
  · unfold X12_does
    simp (disch := omega) only [l_0, l_1, l_2, l_3, l_4, l_5, l_6, l_7, l_8, l_9, l_10, l_11, l_12, l_13, l_14, l_15, l_16, l_17, l_18, l_19, l_20, l_21, l_22, l_23, l_24, l_25, l_26, l_27, l_30, l_31, l_32, l_40, l_48, l_57, l_59, l_60, l_61, l_62, l_64, l_83, l_90, l_97, l_99, l_100, l_108, l_115, l_122, l_123, l_127, l_128, l_131, l_135, l_200, l_255, l_256, l_300, l_487, l_495, l_900, l_999, l_1000, l_1700, l_1792, l_1980, l_2048, l_2475, l_2970, l_3121, l_9999, l_10000, l_11351, l_65536, l_100000, l_1000000, ↓l_m1, l_neg, nI_add, pk_mul, pk_sub, q_leT, q_leF, q_ltT, q_ltF, q_eqT, q_eqF, q_m1e, q_m1e2, q_m1lt, q_m1le, q_m1nl, q_m1nle, q_m1s, q_ix, q_jat, q_jput, q_min1, q_min2, q_max1, q_max2, q_or0, q_0or, q_bs, if_true, if_false, true_and, and_true, false_and, and_false, not_true_eq_false, not_false_eq_true, eq_self, Bool.false_eq_true, q_z0, q_z1, g0, zb_t]
theorem act_stop {F : Nat} {C0 C : Cy} {R : Nat → Nat → Nat} {tf df xf hf wf wk g f ran : Nat → Int32} {M q s : Nat} (mis : Int32) (x : Cxt C0 C R tf df xf hf wf wk M g ran q s) (hR : R q 0 = 20) : Act F C0 C R tf df xf hf wf wk M g f ran q s mis 0 (nI 1) := by
  obtain ⟨dv, hT, hD, hX, hH, hW, hM, tl, hs, hi, h30, cr, wg, hq⟩ := x
  have r0 := wk_get (c := 0) hi h30 (by omega) cr.1
  rw [hR, show cw 20 = 25 from rfl] at r0
  have r1 := wk_any (wk := wk) (c := 1) hi h30 (by omega)
  have r2 := wk_any (wk := wk) (c := 2) hi h30 (by omega)
  have g0 : g (127 + 6 * q) = nI (R q 0) := wg 0 (by omega) (by omega)
  rw [hR] at g0
  unfold Act
  refine ⟨C, s, true, xf, hf, wf, g, f, ran, ?_, ?_, hs, hX, hH, hW, hM, Fr_r g, dv, tl, rfl, rfl⟩
  · unfold X2_timesOf X2_timesOf_j184
    simp (disch := omega) only [l_0, l_1, l_2, l_3, l_4, l_5, l_6, l_7, l_8, l_9, l_10, l_11, l_12, l_13, l_14, l_15, l_16, l_17, l_18, l_19, l_20, l_21, l_22, l_23, l_24, l_25, l_26, l_27, l_30, l_31, l_32, l_40, l_48, l_57, l_59, l_60, l_61, l_62, l_64, l_83, l_90, l_97, l_99, l_100, l_108, l_115, l_122, l_123, l_127, l_128, l_131, l_135, l_200, l_255, l_256, l_300, l_487, l_495, l_900, l_999, l_1000, l_1700, l_1792, l_1980, l_2048, l_2475, l_2970, l_3121, l_9999, l_10000, l_11351, l_65536, l_100000, l_1000000, ↓l_m1, l_neg, nI_add, pk_mul, pk_sub, q_leT, q_leF, q_ltT, q_ltF, q_eqT, q_eqF, q_m1e, q_m1e2, q_m1lt, q_m1le, q_m1nl, q_m1nle, q_m1s, q_ix, q_jat, q_jput, q_min1, q_min2, q_max1, q_max2, q_or0, q_0or, q_bs, if_true, if_false, true_and, and_true, false_and, and_false, not_true_eq_false, not_false_eq_true, eq_self, Bool.false_eq_true, q_z0, q_z1, r0, r1, r2]
  · unfold X12_does
    simp (disch := omega) only [l_0, l_1, l_2, l_3, l_4, l_5, l_6, l_7, l_8, l_9, l_10, l_11, l_12, l_13, l_14, l_15, l_16, l_17, l_18, l_19, l_20, l_21, l_22, l_23, l_24, l_25, l_26, l_27, l_30, l_31, l_32, l_40, l_48, l_57, l_59, l_60, l_61, l_62, l_64, l_83, l_90, l_97, l_99, l_100, l_108, l_115, l_122, l_123, l_127, l_128, l_131, l_135, l_200, l_255, l_256, l_300, l_487, l_495, l_900, l_999, l_1000, l_1700, l_1792, l_1980, l_2048, l_2475, l_2970, l_3121, l_9999, l_10000, l_11351, l_65536, l_100000, l_1000000, ↓l_m1, l_neg, nI_add, pk_mul, pk_sub, q_leT, q_leF, q_ltT, q_ltF, q_eqT, q_eqF, q_m1e, q_m1e2, q_m1lt, q_m1le, q_m1nl, q_m1nle, q_m1s, q_ix, q_jat, q_jput, q_min1, q_min2, q_max1, q_max2, q_or0, q_0or, q_bs, if_true, if_false, true_and, and_true, false_and, and_false, not_true_eq_false, not_false_eq_true, eq_self, Bool.false_eq_true, q_z0, q_z1, g0, zb_t]
/-! any: all watchers at a corner warn -/
def fldC (C : Cy) (c : Nat) : Nat → Cy
  | 0 => C
  | w + 1 => if C 4 w 0 = c then warn1 (fldC C c w) w else fldC C c w
theorem fldC_t (C : Cy) {c t r d : Nat} (h : (t ≠ 4 ∨ d ≠ 2) ∧ (t ≠ 3 ∨ d ≠ 1)) : ∀ n, fldC C c n t r d = C t r d
  | 0 => rfl
  | n + 1 => by
    rw [fldC]
    by_cases q : C 4 n 0 = c
    · rw [if_pos q, warn1_t _ h, fldC_t C h n]
    · rw [if_neg q, fldC_t C h n]
theorem fldC_dv {C0 C : Cy} {c : Nat} (h : Dv C0 C) : ∀ n, Dv C0 (fldC C c n)
  | 0 => h
  | n + 1 => by
    rw [fldC]
    by_cases q : C 4 n 0 = c
    · rw [if_pos q]; exact Dv_warn (fldC_dv h n)
    · rw [if_neg q]; exact fldC_dv h n
theorem fldC_w {C : Cy} {c : Nat} : ∀ n, n ≤ C 0 0 4 → wsm C ≤ wsm (fldC C c n)
  | 0, _ => Nat.le_refl _
  | n + 1, h => by
    have i := fldC_w (C := C) (c := c) n (by omega)
    rw [fldC]
    by_cases q : C 4 n 0 = c
    · rw [if_pos q, wsm_warn (by rw [fldC_t C (by omega)]; omega)]; omega
    · rw [if_neg q]; exact i
theorem c_fall {F : Nat} {C0 C : Cy} {hf wf : Nat → Int32} {c : Nat} (u v : Int32) (a : Nat → Int32) (dv : Dv C0 C) (hH : CH C hf) (hW : CW C wf) (hc : c < 100) (hF : 100 < F) :
    ∃ hf2 wf2, iter (X2_oneFalls_b72 F u (nI (C 0 0 6)) v a (nI (C 0 0 3)) (nI (C 0 0 4)) (nI c)) F (nI 0, hf, wf) = some (hf2, wf2) ∧ CH (fldC C c (C 0 0 4)) hf2 ∧ CW (fldC C c (C 0 0 4)) wf2 := by
  have o0 := dv.1.1
  obtain ⟨e, h1, hf2, wf2, rfl, h2, h3⟩ := it_rel (b := X2_oneFalls_b72 F u (nI (C 0 0 6)) v a (nI (C 0 0 3)) (nI (C 0 0 4)) (nI c)) (C 0 0 4)
    (fun w s => ∃ hf wf, s = (nI w, hf, wf) ∧ CH (fldC C c w) hf ∧ CW (fldC C c w) wf)
    (fun e => ∃ hf wf, e = (hf, wf) ∧ CH (fldC C c (C 0 0 4)) hf ∧ CW (fldC C c (C 0 0 4)) wf) (fun w s hw hs => by
      obtain ⟨hf, wf, rfl, hH, hW⟩ := hs
      have okw := (fldC_dv (c := c) dv w).1
      have z := fun k => fldC_t C (c := c) (t := 0) (r := 0) (d := k) (by omega) w
      have ew := dv.1.2.2.2.2 w hw
      have w0 : wf (w * 3 + 0) = nI (C 4 w 0) := by rw [hW w 0 (by rw [z]; exact hw) (by omega), fldC_t C (by omega)]
      unfold X2_oneFalls_b72 X2_oneFalls_j105
      by_cases q : C 4 w 0 = c
      · obtain ⟨hf2, wf2, c1, c2, c3⟩ := c_warn (F := F) (w := w) okw hH hW (by rw [z]; exact hw) hF
        rw [z, z, z] at c1
        have e : fldC C c (w + 1) = warn1 (fldC C c w) w := by rw [fldC, if_pos q]
        refine Or.inl ⟨(nI (w + 1), hf2, wf2), ?_, hf2, wf2, rfl, by rw [e]; exact c2, by rw [e]; exact c3⟩
        simp (disch := omega) only [l_0, l_1, l_2, l_3, l_4, l_5, l_6, l_7, l_8, l_9, l_10, l_11, l_12, l_13, l_14, l_15, l_16, l_17, l_18, l_19, l_20, l_21, l_22, l_23, l_24, l_25, l_26, l_27, l_30, l_31, l_32, l_40, l_48, l_57, l_59, l_60, l_61, l_62, l_64, l_83, l_90, l_97, l_99, l_100, l_108, l_115, l_122, l_123, l_127, l_128, l_131, l_135, l_200, l_255, l_256, l_300, l_487, l_495, l_900, l_999, l_1000, l_1700, l_1792, l_1980, l_2048, l_2475, l_2970, l_3121, l_9999, l_10000, l_11351, l_65536, l_100000, l_1000000, ↓l_m1, l_neg, nI_add, pk_mul, pk_sub, q_leT, q_leF, q_ltT, q_ltF, q_eqT, q_eqF, q_m1e, q_m1e2, q_m1lt, q_m1le, q_m1nl, q_m1nle, q_m1s, q_ix, q_jat, q_jput, q_min1, q_min2, q_max1, q_max2, q_or0, q_0or, q_bs, if_true, if_false, true_and, and_true, false_and, and_false, not_true_eq_false, not_false_eq_true, eq_self, Bool.false_eq_true, q_z0, q_z1, q_get, q_set, q_raise, w0, c1]
      · have e : fldC C c (w + 1) = fldC C c w := by rw [fldC, if_neg q]
        refine Or.inl ⟨(nI (w + 1), hf, wf), ?_, hf, wf, rfl, by rw [e]; exact hH, by rw [e]; exact hW⟩
        simp (disch := omega) only [l_0, l_1, l_2, l_3, l_4, l_5, l_6, l_7, l_8, l_9, l_10, l_11, l_12, l_13, l_14, l_15, l_16, l_17, l_18, l_19, l_20, l_21, l_22, l_23, l_24, l_25, l_26, l_27, l_30, l_31, l_32, l_40, l_48, l_57, l_59, l_60, l_61, l_62, l_64, l_83, l_90, l_97, l_99, l_100, l_108, l_115, l_122, l_123, l_127, l_128, l_131, l_135, l_200, l_255, l_256, l_300, l_487, l_495, l_900, l_999, l_1000, l_1700, l_1792, l_1980, l_2048, l_2475, l_2970, l_3121, l_9999, l_10000, l_11351, l_65536, l_100000, l_1000000, ↓l_m1, l_neg, nI_add, pk_mul, pk_sub, q_leT, q_leF, q_ltT, q_ltF, q_eqT, q_eqF, q_m1e, q_m1e2, q_m1lt, q_m1le, q_m1nl, q_m1nle, q_m1s, q_ix, q_jat, q_jput, q_min1, q_min2, q_max1, q_max2, q_or0, q_0or, q_bs, if_true, if_false, true_and, and_true, false_and, and_false, not_true_eq_false, not_false_eq_true, eq_self, Bool.false_eq_true, q_z0, q_z1, q_get, q_set, q_raise, w0]) (fun s hs => by
      obtain ⟨hf, wf, rfl, hH, hW⟩ := hs
      refine ⟨_, ?_, hf, wf, rfl, hH, hW⟩
      unfold X2_oneFalls_b72
      simp (disch := omega) only [l_0, l_1, l_2, l_3, l_4, l_5, l_6, l_7, l_8, l_9, l_10, l_11, l_12, l_13, l_14, l_15, l_16, l_17, l_18, l_19, l_20, l_21, l_22, l_23, l_24, l_25, l_26, l_27, l_30, l_31, l_32, l_40, l_48, l_57, l_59, l_60, l_61, l_62, l_64, l_83, l_90, l_97, l_99, l_100, l_108, l_115, l_122, l_123, l_127, l_128, l_131, l_135, l_200, l_255, l_256, l_300, l_487, l_495, l_900, l_999, l_1000, l_1700, l_1792, l_1980, l_2048, l_2475, l_2970, l_3121, l_9999, l_10000, l_11351, l_65536, l_100000, l_1000000, ↓l_m1, l_neg, nI_add, pk_mul, pk_sub, q_leT, q_leF, q_ltT, q_ltF, q_eqT, q_eqF, q_m1e, q_m1e2, q_m1lt, q_m1le, q_m1nl, q_m1nle, q_m1s, q_ix, q_jat, q_jput, q_min1, q_min2, q_max1, q_max2, q_or0, q_0or, q_bs, if_true, if_false, true_and, and_true, false_and, and_false, not_true_eq_false, not_false_eq_true, eq_self, Bool.false_eq_true, q_z0, q_z1]) (s0 := (nI 0, hf, wf)) ⟨hf, wf, rfl, hH, hW⟩ (show C 0 0 4 < F by omega)
  exact ⟨hf2, wf2, h1, h2, h3⟩
theorem m_fall {F : Nat} {C0 C : Cy} {g ran : Nat → Int32} {x : Nat} (u : Int32) (dv : Dv C0 C) (hM : MS C g) (hx : x < C 0 0 2) (h0 : C 2 x 1 = 0) (tl : TL C0 C ran) (hF : 100 < F) :
    ∃ g2 ran2, iter (X12_fallsAny_b34 F u (nI x)) F (nI 0, g, ran) = some (g2, ran2) ∧ MS (fldC C (C 2 x 0) (C 0 0 4)) g2 ∧ Fr g g2 ∧ ran2 3 = nI (wsm (fldC C (C 2 x 0) (C 0 0 4)) - wsm C0) ∧ ∀ k, k ≠ 3 → ran2 k = ran k := by
  have o0 := dv.1.1
  have ex := dv.1.2.2.1 x hx
  obtain ⟨e, h1, g2, ran2, rfl, h2, h3, h4, h5⟩ := it_rel (b := X12_fallsAny_b34 F u (nI x)) (C 0 0 4)
    (fun w s => ∃ g' r', s = (nI w, g', r') ∧ MS (fldC C (C 2 x 0) w) g' ∧ Fr g g' ∧ r' 3 = nI (wsm (fldC C (C 2 x 0) w) - wsm C0) ∧ ∀ k, k ≠ 3 → r' k = ran k)
    (fun e => ∃ g' r', e = (g', r') ∧ MS (fldC C (C 2 x 0) (C 0 0 4)) g' ∧ Fr g g' ∧ r' 3 = nI (wsm (fldC C (C 2 x 0) (C 0 0 4)) - wsm C0) ∧ ∀ k, k ≠ 3 → r' k = ran k) (fun w s hw hs => by
      obtain ⟨g', r', rfl, hM', hFr, h3, hk⟩ := hs
      have okw := (fldC_dv (c := C 2 x 0) dv w).1
      have z := fun k => fldC_t C (c := C 2 x 0) (t := 0) (r := 0) (d := k) (by omega) w
      have z2 := fun k => fldC_t C (c := C 2 x 0) (t := 2) (r := x) (d := k) (by omega) w
      have ew := dv.1.2.2.2.2 w hw
      have w0 : X12_watcherOf g' (nI w) (nI 0) = some (nI (C 4 w 0)) := by rw [m_W hM' (by rw [z]; exact hw) (by rw [z]; omega) (by omega), fldC_t C (by omega)]
      have x0 : X12_extraOf g' (nI x) (nI 0) = some (nI (C 2 x 0)) := by rw [m_Es hM' (by rw [z]; exact hx) (by rw [z]; omega) (by rw [z2]; exact h0), z2]
      have y4 : g' 4 = nI (C 0 0 4) := by rw [hM'.1 4 (by omega), z]
      have wl := fldC_w (C := C) (c := C 2 x 0) w (by omega)
      have tl3 := tl.2.2.1
      unfold X12_fallsAny_b34 X12_fallsAny_j77
      by_cases q : C 4 w 0 = C 2 x 0
      · obtain ⟨g2, c1, c2, c3⟩ := m_warn (F := F) (w := w) okw hM' (by rw [z]; exact hw) hF
        have e : fldC C (C 2 x 0) (w + 1) = warn1 (fldC C (C 2 x 0) w) w := by rw [fldC, if_pos q]
        refine Or.inl ⟨(nI (w + 1), g2, upd r' 3 (r' 3 + nI 1)), ?_, _, _, rfl, by rw [e]; exact c2, Fr_t hFr c3, ?_, fun k hk' => by rw [pk_un hk']; exact hk k hk'⟩
        · simp (disch := omega) only [l_0, l_1, l_2, l_3, l_4, l_5, l_6, l_7, l_8, l_9, l_10, l_11, l_12, l_13, l_14, l_15, l_16, l_17, l_18, l_19, l_20, l_21, l_22, l_23, l_24, l_25, l_26, l_27, l_30, l_31, l_32, l_40, l_48, l_57, l_59, l_60, l_61, l_62, l_64, l_83, l_90, l_97, l_99, l_100, l_108, l_115, l_122, l_123, l_127, l_128, l_131, l_135, l_200, l_255, l_256, l_300, l_487, l_495, l_900, l_999, l_1000, l_1700, l_1792, l_1980, l_2048, l_2475, l_2970, l_3121, l_9999, l_10000, l_11351, l_65536, l_100000, l_1000000, ↓l_m1, l_neg, nI_add, pk_mul, pk_sub, q_leT, q_leF, q_ltT, q_ltF, q_eqT, q_eqF, q_m1e, q_m1e2, q_m1lt, q_m1le, q_m1nl, q_m1nle, q_m1s, q_ix, q_jat, q_jput, q_min1, q_min2, q_max1, q_max2, q_or0, q_0or, q_bs, if_true, if_false, true_and, and_true, false_and, and_false, not_true_eq_false, not_false_eq_true, eq_self, Bool.false_eq_true, q_z0, q_z1, y4, w0, x0, c1]
        · rw [pk_us, h3, nI_add, e, wsm_warn (by rw [z]; exact hw)]; congr 1; omega
      · have e : fldC C (C 2 x 0) (w + 1) = fldC C (C 2 x 0) w := by rw [fldC, if_neg q]
        refine Or.inl ⟨(nI (w + 1), g', r'), ?_, _, _, rfl, by rw [e]; exact hM', hFr, by rw [e]; exact h3, hk⟩
        simp (disch := omega) only [l_0, l_1, l_2, l_3, l_4, l_5, l_6, l_7, l_8, l_9, l_10, l_11, l_12, l_13, l_14, l_15, l_16, l_17, l_18, l_19, l_20, l_21, l_22, l_23, l_24, l_25, l_26, l_27, l_30, l_31, l_32, l_40, l_48, l_57, l_59, l_60, l_61, l_62, l_64, l_83, l_90, l_97, l_99, l_100, l_108, l_115, l_122, l_123, l_127, l_128, l_131, l_135, l_200, l_255, l_256, l_300, l_487, l_495, l_900, l_999, l_1000, l_1700, l_1792, l_1980, l_2048, l_2475, l_2970, l_3121, l_9999, l_10000, l_11351, l_65536, l_100000, l_1000000, ↓l_m1, l_neg, nI_add, pk_mul, pk_sub, q_leT, q_leF, q_ltT, q_ltF, q_eqT, q_eqF, q_m1e, q_m1e2, q_m1lt, q_m1le, q_m1nl, q_m1nle, q_m1s, q_ix, q_jat, q_jput, q_min1, q_min2, q_max1, q_max2, q_or0, q_0or, q_bs, if_true, if_false, true_and, and_true, false_and, and_false, not_true_eq_false, not_false_eq_true, eq_self, Bool.false_eq_true, q_z0, q_z1, y4, w0, x0]) (fun s hs => by
      obtain ⟨g', r', rfl, hM', hFr, h3, hk⟩ := hs
      have y4 : g' 4 = nI (C 0 0 4) := by rw [hM'.1 4 (by omega), fldC_t C (by omega)]
      refine ⟨_, ?_, g', r', rfl, hM', hFr, h3, hk⟩
      unfold X12_fallsAny_b34
      simp (disch := omega) only [l_0, l_1, l_2, l_3, l_4, l_5, l_6, l_7, l_8, l_9, l_10, l_11, l_12, l_13, l_14, l_15, l_16, l_17, l_18, l_19, l_20, l_21, l_22, l_23, l_24, l_25, l_26, l_27, l_30, l_31, l_32, l_40, l_48, l_57, l_59, l_60, l_61, l_62, l_64, l_83, l_90, l_97, l_99, l_100, l_108, l_115, l_122, l_123, l_127, l_128, l_131, l_135, l_200, l_255, l_256, l_300, l_487, l_495, l_900, l_999, l_1000, l_1700, l_1792, l_1980, l_2048, l_2475, l_2970, l_3121, l_9999, l_10000, l_11351, l_65536, l_100000, l_1000000, ↓l_m1, l_neg, nI_add, pk_mul, pk_sub, q_leT, q_leF, q_ltT, q_ltF, q_eqT, q_eqF, q_m1e, q_m1e2, q_m1lt, q_m1le, q_m1nl, q_m1nle, q_m1s, q_ix, q_jat, q_jput, q_min1, q_min2, q_max1, q_max2, q_or0, q_0or, q_bs, if_true, if_false, true_and, and_true, false_and, and_false, not_true_eq_false, not_false_eq_true, eq_self, Bool.false_eq_true, q_z0, q_z1, y4]) (s0 := (nI 0, g, ran)) ⟨g, ran, rfl, hM, Fr_r g, tl.2.2.2.2.2, fun _ _ => rfl⟩ (show C 0 0 4 < F by omega)
  exact ⟨g2, ran2, h1, h2, h3, h4, h5⟩
def nxs (s : Nat) : Nat := (s * 3121 + 11351) % 65536
theorem act_any {F : Nat} {C0 C : Cy} {R : Nat → Nat → Nat} {tf df xf hf wf wk g f ran : Nat → Int32} {M q s : Nat} (mis : Int32) (x : Cxt C0 C R tf df xf hf wf wk M g ran q s) (hR : R q 0 = 16) (hF : 2000 < F) : Act F C0 C R tf df xf hf wf wk M g f ran q s mis 0 (nI 0) := by
  obtain ⟨dv, hT, hD, hX, hH, hW, hM, tl, hs, hi, h30, cr, wg, hq⟩ := x
  have ok := dv.1
  have o0 := ok.1
  have r0 := wk_get (c := 0) hi h30 (by omega) cr.1
  rw [hR, show cw 16 = 17 from rfl] at r0
  have r1 := wk_any (wk := wk) (c := 1) hi h30 (by omega)
  have r2 := wk_any (wk := wk) (c := 2) hi h30 (by omega)
  have g0 : g (127 + 6 * q) = nI (R q 0) := wg 0 (by omega) (by omega)
  rw [hR] at g0
  have y2 : g 2 = nI (C 0 0 2) := hM.1 2 (by omega)
  unfold Act
  by_cases n0 : C 0 0 2 = 0
  · refine ⟨C, s, false, xf, hf, wf, g, f, ran, ?_, ?_, hs, hX, hH, hW, hM, Fr_r g, dv, tl, rfl, rfl⟩
    · unfold X2_timesOf X2_timesOf_j184 X2_oneFalls
      simp (disch := omega) only [l_0, l_1, l_2, l_3, l_4, l_5, l_6, l_7, l_8, l_9, l_10, l_11, l_12, l_13, l_14, l_15, l_16, l_17, l_18, l_19, l_20, l_21, l_22, l_23, l_24, l_25, l_26, l_27, l_30, l_31, l_32, l_40, l_48, l_57, l_59, l_60, l_61, l_62, l_64, l_83, l_90, l_97, l_99, l_100, l_108, l_115, l_122, l_123, l_127, l_128, l_131, l_135, l_200, l_255, l_256, l_300, l_487, l_495, l_900, l_999, l_1000, l_1700, l_1792, l_1980, l_2048, l_2475, l_2970, l_3121, l_9999, l_10000, l_11351, l_65536, l_100000, l_1000000, ↓l_m1, l_neg, nI_add, pk_mul, pk_sub, q_leT, q_leF, q_ltT, q_ltF, q_eqT, q_eqF, q_m1e, q_m1e2, q_m1lt, q_m1le, q_m1nl, q_m1nle, q_m1s, q_ix, q_jat, q_jput, q_min1, q_min2, q_max1, q_max2, q_or0, q_0or, q_bs, if_true, if_false, true_and, and_true, false_and, and_false, not_true_eq_false, not_false_eq_true, eq_self, Bool.false_eq_true, q_z0, q_z1, r0, r1, r2]
    · unfold X12_does X12_fallsAny
      simp (disch := omega) only [l_0, l_1, l_2, l_3, l_4, l_5, l_6, l_7, l_8, l_9, l_10, l_11, l_12, l_13, l_14, l_15, l_16, l_17, l_18, l_19, l_20, l_21, l_22, l_23, l_24, l_25, l_26, l_27, l_30, l_31, l_32, l_40, l_48, l_57, l_59, l_60, l_61, l_62, l_64, l_83, l_90, l_97, l_99, l_100, l_108, l_115, l_122, l_123, l_127, l_128, l_131, l_135, l_200, l_255, l_256, l_300, l_487, l_495, l_900, l_999, l_1000, l_1700, l_1792, l_1980, l_2048, l_2475, l_2970, l_3121, l_9999, l_10000, l_11351, l_65536, l_100000, l_1000000, ↓l_m1, l_neg, nI_add, pk_mul, pk_sub, q_leT, q_leF, q_ltT, q_ltF, q_eqT, q_eqF, q_m1e, q_m1e2, q_m1lt, q_m1le, q_m1nl, q_m1nle, q_m1s, q_ix, q_jat, q_jput, q_min1, q_min2, q_max1, q_max2, q_or0, q_0or, q_bs, if_true, if_false, true_and, and_true, false_and, and_false, not_true_eq_false, not_false_eq_true, eq_self, Bool.false_eq_true, q_z0, q_z1, g0, y2, zb_f]
  have e1 : jrem (nI (s * 3121 + 11351)) (nI 65536) = nI (nxs s) := q_rem (by omega) (by omega) (by omega)
  have nl : nxs s < 65536 := Nat.mod_lt _ (by omega)
  have e2 : nI (nxs s) / nI 8 = nI (nxs s / 8) := pk_div (by omega) (by omega) (by omega)
  have e3 : jrem (nI (nxs s / 8)) (nI (C 0 0 2)) = nI (nxs s / 8 % C 0 0 2) := q_rem (by omega) (by omega) (by omega)
  have xl : nxs s / 8 % C 0 0 2 < C 0 0 2 := Nat.mod_lt _ (by omega)
  generalize nxs s / 8 % C 0 0 2 = x at e3 xl
  have ex := ok.2.2.1 x xl
  by_cases l0 : C 2 x 1 = 0
  · obtain ⟨hf2, wf2, c1, c2, c3⟩ := c_fall (F := F) (c := C 2 x 0) (nI (nxs s)) (nI (C 0 0 2)) xf dv hH hW (by omega) (by omega)
    have zz : (fun k => xf k) = xf := rfl
    obtain ⟨g2, ran2, d1, d2, d3, d4, d5⟩ := m_fall (F := F) (nI (nxs s)) dv hM xl l0 tl (by omega)
    have dvD := fldC_dv (c := C 2 x 0) dv (C 0 0 4)
    refine ⟨fldC C (C 2 x 0) (C 0 0 4), nxs s, true, xf, hf2, wf2, g2, f, ran2, ?_, ?_, nl, CX_t hX (fldC_t C (by omega) _) (fun r c => fldC_t C (by omega) _), c2, c3, d2, d3, dvD, ?_, d5 0 (by omega), d5 4 (by omega)⟩
    · rw [fldC_t C (by omega)]
      unfold X2_timesOf X2_timesOf_j184 X2_oneFalls
      simp (disch := omega) only [l_0, l_1, l_2, l_3, l_4, l_5, l_6, l_7, l_8, l_9, l_10, l_11, l_12, l_13, l_14, l_15, l_16, l_17, l_18, l_19, l_20, l_21, l_22, l_23, l_24, l_25, l_26, l_27, l_30, l_31, l_32, l_40, l_48, l_57, l_59, l_60, l_61, l_62, l_64, l_83, l_90, l_97, l_99, l_100, l_108, l_115, l_122, l_123, l_127, l_128, l_131, l_135, l_200, l_255, l_256, l_300, l_487, l_495, l_900, l_999, l_1000, l_1700, l_1792, l_1980, l_2048, l_2475, l_2970, l_3121, l_9999, l_10000, l_11351, l_65536, l_100000, l_1000000, ↓l_m1, l_neg, nI_add, pk_mul, pk_sub, q_leT, q_leF, q_ltT, q_ltF, q_eqT, q_eqF, q_m1e, q_m1e2, q_m1lt, q_m1le, q_m1nl, q_m1nle, q_m1s, q_ix, q_jat, q_jput, q_min1, q_min2, q_max1, q_max2, q_or0, q_0or, q_bs, if_true, if_false, true_and, and_true, false_and, and_false, not_true_eq_false, not_false_eq_true, eq_self, Bool.false_eq_true, q_z0, q_z1, q_get, q_set, q_raise, r0, r1, r2, e1, e2, e3, hX x, l0, c1]
    · unfold X12_does X12_fallsAny X12_draw
      simp (disch := omega) only [l_0, l_1, l_2, l_3, l_4, l_5, l_6, l_7, l_8, l_9, l_10, l_11, l_12, l_13, l_14, l_15, l_16, l_17, l_18, l_19, l_20, l_21, l_22, l_23, l_24, l_25, l_26, l_27, l_30, l_31, l_32, l_40, l_48, l_57, l_59, l_60, l_61, l_62, l_64, l_83, l_90, l_97, l_99, l_100, l_108, l_115, l_122, l_123, l_127, l_128, l_131, l_135, l_200, l_255, l_256, l_300, l_487, l_495, l_900, l_999, l_1000, l_1700, l_1792, l_1980, l_2048, l_2475, l_2970, l_3121, l_9999, l_10000, l_11351, l_65536, l_100000, l_1000000, ↓l_m1, l_neg, nI_add, pk_mul, pk_sub, q_leT, q_leF, q_ltT, q_ltF, q_eqT, q_eqF, q_m1e, q_m1e2, q_m1lt, q_m1le, q_m1nl, q_m1nle, q_m1s, q_ix, q_jat, q_jput, q_min1, q_min2, q_max1, q_max2, q_or0, q_0or, q_bs, if_true, if_false, true_and, and_true, false_and, and_false, not_true_eq_false, not_false_eq_true, eq_self, Bool.false_eq_true, q_z0, q_z1, g0, y2, e1, e2, e3, m_dsT hM, d1, zb_t]
    · have tl' := TL_same (D := fldC C (C 2 x 0) 0) tl rfl rfl rfl
      obtain ⟨t1, t2, t3, t4, t5, t6⟩ := tl
      have ff : fct (fldC C (C 2 x 0) (C 0 0 4)) = fct C := fct_o (fldC_t C (by omega) _) (fun k => fldC_t C (by omega) _)
      have wl := fldC_w (C := C) (c := C 2 x 0) (C 0 0 4) (Nat.le_refl _)
      refine ⟨by rw [fldC_t C (by omega)]; exact t1, by rw [ff]; exact t2, by omega, ?_, ?_, d4⟩
      · rw [d5 1 (by omega), fldC_t C (by omega)]; exact t4
      · rw [d5 2 (by omega), ff]; exact t5
  · refine ⟨C, nxs s, false, xf, hf, wf, g, f, ran, ?_, ?_, nl, hX, hH, hW, hM, Fr_r g, dv, tl, rfl, rfl⟩
    · unfold X2_timesOf X2_timesOf_j184 X2_oneFalls
      simp (disch := omega) only [l_0, l_1, l_2, l_3, l_4, l_5, l_6, l_7, l_8, l_9, l_10, l_11, l_12, l_13, l_14, l_15, l_16, l_17, l_18, l_19, l_20, l_21, l_22, l_23, l_24, l_25, l_26, l_27, l_30, l_31, l_32, l_40, l_48, l_57, l_59, l_60, l_61, l_62, l_64, l_83, l_90, l_97, l_99, l_100, l_108, l_115, l_122, l_123, l_127, l_128, l_131, l_135, l_200, l_255, l_256, l_300, l_487, l_495, l_900, l_999, l_1000, l_1700, l_1792, l_1980, l_2048, l_2475, l_2970, l_3121, l_9999, l_10000, l_11351, l_65536, l_100000, l_1000000, ↓l_m1, l_neg, nI_add, pk_mul, pk_sub, q_leT, q_leF, q_ltT, q_ltF, q_eqT, q_eqF, q_m1e, q_m1e2, q_m1lt, q_m1le, q_m1nl, q_m1nle, q_m1s, q_ix, q_jat, q_jput, q_min1, q_min2, q_max1, q_max2, q_or0, q_0or, q_bs, if_true, if_false, true_and, and_true, false_and, and_false, not_true_eq_false, not_false_eq_true, eq_self, Bool.false_eq_true, q_z0, q_z1, q_get, q_set, q_raise, r0, r1, r2, e1, e2, e3, hX x]
    · unfold X12_does X12_fallsAny X12_draw
      simp (disch := omega) only [l_0, l_1, l_2, l_3, l_4, l_5, l_6, l_7, l_8, l_9, l_10, l_11, l_12, l_13, l_14, l_15, l_16, l_17, l_18, l_19, l_20, l_21, l_22, l_23, l_24, l_25, l_26, l_27, l_30, l_31, l_32, l_40, l_48, l_57, l_59, l_60, l_61, l_62, l_64, l_83, l_90, l_97, l_99, l_100, l_108, l_115, l_122, l_123, l_127, l_128, l_131, l_135, l_200, l_255, l_256, l_300, l_487, l_495, l_900, l_999, l_1000, l_1700, l_1792, l_1980, l_2048, l_2475, l_2970, l_3121, l_9999, l_10000, l_11351, l_65536, l_100000, l_1000000, ↓l_m1, l_neg, nI_add, pk_mul, pk_sub, q_leT, q_leF, q_ltT, q_ltF, q_eqT, q_eqF, q_m1e, q_m1e2, q_m1lt, q_m1le, q_m1nl, q_m1nle, q_m1s, q_ix, q_jat, q_jput, q_min1, q_min2, q_max1, q_max2, q_or0, q_0or, q_bs, if_true, if_false, true_and, and_true, false_and, and_false, not_true_eq_false, not_false_eq_true, eq_self, Bool.false_eq_true, q_z0, q_z1, g0, y2, e1, e2, e3, m_dsF hM, zb_f]

