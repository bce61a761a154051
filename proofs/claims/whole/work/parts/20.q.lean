/-! ===== PURE 20.q: both cities told ===== -/
theorem parse_e {F n : Nat} {rt hd ln pl nx so va ft fpl wg dl od ck hw cn rm nn xm hm wm wk : Int32} {cd : Int64} {f xr xt xh0 sos nus xx xh xw : Nat → Int32} {co : Nat → Int64} {cs : cSt} {e22 : vS} {hs : Nat → Int32} (hF : 2000 < F) (hb : X8_begin F hd ln pl nx so va cd ft fpl f (nI n) = some (0, nI n, cs.1, cs.2.1, cs.2.2.1, cs.2.2.2.1, cs.2.2.2.2, 0, -1)) (hl : iter (X1_parse_b22 F 0 (nI n) f 0 0 (hz xh0) 0 (nI n)) F (lpS 0 0 0 cs m1 cy0 xr (tz xt) sos nus xx xh xw co) = some e22) (hms : X6_measure F (e22.2.2.1 1) (hz xh0) = some hs) :
    X1_parse F rt hd ln pl nx so va cd ft fpl f wg dl od ck hw cn rm xr xt xh0 nn co sos nus xm xx hm xh wm xw wk (nI n) = some (mkS [if e22.1 5 = 0 then 1 else 0, e22.1 0, 0, nI n, e22.1 1, e22.1 2, e22.1 3, e22.1 4, e22.1 5, e22.1 6, e22.1 7, e22.1 8, e22.1 9, 0, 0, e22.1 10, e22.1 11, e22.1 12, e22.1 13, e22.1 14, e22.1 15, 0] [e22.2.1 0] [e22.2.2.1 0, e22.2.2.1 1, hs, e22.2.2.1 2, e22.2.2.1 3, e22.2.2.1 4, e22.2.2.1 5, e22.2.2.1 6] [e22.2.2.2 0]) := by
  unfold X1_parse
  refine bd_st (c_clear hF) (bd_st hb (bd_st hl ?_))
  unfold X1_parse_j47
  refine bd_st hms ?_
  by_cases y : e22.1 5 = 0
  · refine (if_pos y).trans ?_
    rw [if_pos y]; rfl
  · refine (if_neg y).trans ?_
    rw [if_neg y]; rfl
theorem c_begin {F n n0 : Nat} {ln pl nx so va ft fpl : Int32} {cd : Int64} {f : Nat → Int32} {cs : cSt} (h : n ≤ n0) (h9 : n0 ≤ 900) (ha : X8_advance F (nI n) pl (nI 0) so va cd f = some cs) : X8_begin F (nI n0) ln pl nx so va cd ft fpl f (nI n) = some (0, nI n, cs.1, cs.2.1, cs.2.2.1, cs.2.2.2.1, cs.2.2.2.2, 0, -1) := by
  unfold X8_begin
  simp (maxSteps := 4000000) (disch := omega) only [↓reduceIte, l_0, l_1, l_2, l_3, l_4, l_5, l_6, l_7, l_8, l_9, l_10, l_11, l_12, l_13, l_14, l_15, l_16, l_17, l_18, l_19, l_20, l_21, l_22, l_23, l_24, l_25, l_26, l_27, l_30, l_31, l_32, l_40, l_48, l_57, l_59, l_60, l_61, l_62, l_64, l_83, l_90, l_97, l_99, l_100, l_108, l_115, l_122, l_123, l_127, l_128, l_131, l_135, l_200, l_255, l_256, l_300, l_487, l_495, l_900, l_999, l_1000, l_1700, l_1792, l_1980, l_2048, l_2475, l_2970, l_3121, l_9999, l_10000, l_11351, l_65536, l_100000, l_1000000, ↓l_m1, l_neg, nI_add, pk_mul, pk_sub, q_leT, q_leF, q_ltT, q_ltF, q_eqT, q_eqF, q_m1e, q_m1e2, q_m1lt, q_m1le, q_m1nl, q_m1nle, q_m1s, q_ix, q_jat, q_jput, q_min1, q_min2, q_max1, q_max2, q_or0, q_0or, q_bs, if_true, if_false, true_and, and_true, false_and, and_false, not_true_eq_false, not_false_eq_true, eq_self, Bool.false_eq_true, q_z0, q_z1, ha]
theorem m_begins {F n n0 : Nat} {sz tk fr en vl fpl fts sn : Int32} {tp tx : Nat → Int32} {ms : mTk} (h : n ≤ n0) (h9 : n0 ≤ 900) (hF : 2000 < F) (ha : X12_ahead F (nI n) tk fr (nI 0) vl (jputs tx tp n) = some ms) : X12_begins F (nI n0) sz tk fr en vl fpl fts sn tp tx (nI n) (nI 900) = some (mkS [1, 0, nI n, ms.1, ms.2.1, ms.2.2.1, ms.2.2.2, -1, 0, 0] [] [jputs tx tp n] []) := by
  have it := m_copy (F := F) (n := n) (a := nI n0) (b := nI n) (c := tk) (d := fr) (e := en) (h := vl) (i := fpl) (j := fts) (k := sn) (tp := tp) (tx := tx) (by omega) hF
  unfold X12_begins
  simp (maxSteps := 4000000) (disch := omega) only [↓reduceIte, l_0, l_1, l_2, l_3, l_4, l_5, l_6, l_7, l_8, l_9, l_10, l_11, l_12, l_13, l_14, l_15, l_16, l_17, l_18, l_19, l_20, l_21, l_22, l_23, l_24, l_25, l_26, l_27, l_30, l_31, l_32, l_40, l_48, l_57, l_59, l_60, l_61, l_62, l_64, l_83, l_90, l_97, l_99, l_100, l_108, l_115, l_122, l_123, l_127, l_128, l_131, l_135, l_200, l_255, l_256, l_300, l_487, l_495, l_900, l_999, l_1000, l_1700, l_1792, l_1980, l_2048, l_2475, l_2970, l_3121, l_9999, l_10000, l_11351, l_65536, l_100000, l_1000000, ↓l_m1, l_neg, nI_add, pk_mul, pk_sub, q_leT, q_leF, q_ltT, q_ltF, q_eqT, q_eqF, q_m1e, q_m1e2, q_m1lt, q_m1le, q_m1nl, q_m1nle, q_m1s, q_ix, q_jat, q_jput, q_min1, q_min2, q_max1, q_max2, q_or0, q_0or, q_bs, if_true, if_false, true_and, and_true, false_and, and_false, not_true_eq_false, not_false_eq_true, eq_self, Bool.false_eq_true, q_z0, q_z1, it, ha]
def cpA (at1 : Nat → Int32) : Nat → Int32 := putN at1 (fun j => at1 (1980 + j)) 0 495
def cpN (nm : Nat → Int64) : Nat → Int64 := putN nm (fun j => nm (108 + j)) 0 27
theorem m_cpA {F : Nat} {a b c d e g h i j k l m' : Int32} {nm : Nat → Int64} {tp tx at1 : Nat → Int32} (hF : 2000 < F) : iter (X12_city_b59 F a b c d e g h i j k l m' nm tp tx) F (nI 0, at1) = some (cpA at1) := by
  have := iter_count (b := X12_city_b59 F a b c d e g h i j k l m' nm tp tx) (fun i => (nI i, putN at1 (fun j => at1 (1980 + j)) 0 i)) 495 (e := cpA at1) (fun i hi => ?_) ?_ F (by omega)
  · rw [← this, putN_0]
  · have e2 := putN_s at1 (fun j => at1 (1980 + j)) 0 i
    rw [Nat.zero_add] at e2
    have e3 : putN at1 (fun j => at1 (1980 + j)) 0 i (1980 + i) = at1 (1980 + i) := by unfold putN; rw [if_neg (by omega)]
    unfold X12_city_b59
    simp (maxSteps := 4000000) (disch := omega) only [↓reduceIte, l_0, l_1, l_2, l_3, l_4, l_5, l_6, l_7, l_8, l_9, l_10, l_11, l_12, l_13, l_14, l_15, l_16, l_17, l_18, l_19, l_20, l_21, l_22, l_23, l_24, l_25, l_26, l_27, l_30, l_31, l_32, l_40, l_48, l_57, l_59, l_60, l_61, l_62, l_64, l_83, l_90, l_97, l_99, l_100, l_108, l_115, l_122, l_123, l_127, l_128, l_131, l_135, l_200, l_255, l_256, l_300, l_487, l_495, l_900, l_999, l_1000, l_1700, l_1792, l_1980, l_2048, l_2475, l_2970, l_3121, l_9999, l_10000, l_11351, l_65536, l_100000, l_1000000, ↓l_m1, l_neg, nI_add, pk_mul, pk_sub, q_leT, q_leF, q_ltT, q_ltF, q_eqT, q_eqF, q_m1e, q_m1e2, q_m1lt, q_m1le, q_m1nl, q_m1nle, q_m1s, q_ix, q_jat, q_jput, q_min1, q_min2, q_max1, q_max2, q_or0, q_0or, q_bs, if_true, if_false, true_and, and_true, false_and, and_false, not_true_eq_false, not_false_eq_true, eq_self, Bool.false_eq_true, q_z0, q_z1, e3, e2]
  · unfold X12_city_b59
    simp (maxSteps := 4000000) (disch := omega) only [↓reduceIte, l_0, l_1, l_2, l_3, l_4, l_5, l_6, l_7, l_8, l_9, l_10, l_11, l_12, l_13, l_14, l_15, l_16, l_17, l_18, l_19, l_20, l_21, l_22, l_23, l_24, l_25, l_26, l_27, l_30, l_31, l_32, l_40, l_48, l_57, l_59, l_60, l_61, l_62, l_64, l_83, l_90, l_97, l_99, l_100, l_108, l_115, l_122, l_123, l_127, l_128, l_131, l_135, l_200, l_255, l_256, l_300, l_487, l_495, l_900, l_999, l_1000, l_1700, l_1792, l_1980, l_2048, l_2475, l_2970, l_3121, l_9999, l_10000, l_11351, l_65536, l_100000, l_1000000, ↓l_m1, l_neg, nI_add, pk_mul, pk_sub, q_leT, q_leF, q_ltT, q_ltF, q_eqT, q_eqF, q_m1e, q_m1e2, q_m1lt, q_m1le, q_m1nl, q_m1nle, q_m1s, q_ix, q_jat, q_jput, q_min1, q_min2, q_max1, q_max2, q_or0, q_0or, q_bs, if_true, if_false, true_and, and_true, false_and, and_false, not_true_eq_false, not_false_eq_true, eq_self, Bool.false_eq_true, q_z0, q_z1]
    rfl
theorem m_cpN {F : Nat} {a b c d e g h i j k l m' : Int32} {nm : Nat → Int64} {tp tx at1 : Nat → Int32} (hF : 2000 < F) : iter (X12_city_b90 F a b c d e g h i j k l m' at1 tp tx) F (nI 0, nm) = some (cpN nm) := by
  have := iter_count (b := X12_city_b90 F a b c d e g h i j k l m' at1 tp tx) (fun i => (nI i, putN nm (fun j => nm (108 + j)) 0 i)) 27 (e := cpN nm) (fun i hi => ?_) ?_ F (by omega)
  · rw [← this, putN_0]
  · have e2 : jputL (putN nm (fun j => nm (108 + j)) 0 i) (nI i) (putN nm (fun j => nm (108 + j)) 0 i (108 + i)) = putN nm (fun j => nm (108 + j)) 0 (i + 1) := by
      rw [jputL_nI _ _ (by omega)]
      funext k
      unfold putN
      rw [if_neg (show ¬ (0 ≤ 108 + i ∧ 108 + i < 0 + i) by omega)]
      by_cases e : k = i
      · subst e
        rw [if_pos (by omega), Nat.sub_zero]; exact pk_uLs
      · rw [pk_uLn e]
        by_cases y : k < i
        · rw [if_pos (by omega), if_pos (by omega)]
        · rw [if_neg (by omega), if_neg (by omega)]
    unfold X12_city_b90
    simp (maxSteps := 4000000) (disch := omega) only [↓reduceIte, l_0, l_1, l_2, l_3, l_4, l_5, l_6, l_7, l_8, l_9, l_10, l_11, l_12, l_13, l_14, l_15, l_16, l_17, l_18, l_19, l_20, l_21, l_22, l_23, l_24, l_25, l_26, l_27, l_30, l_31, l_32, l_40, l_48, l_57, l_59, l_60, l_61, l_62, l_64, l_83, l_90, l_97, l_99, l_100, l_108, l_115, l_122, l_123, l_127, l_128, l_131, l_135, l_200, l_255, l_256, l_300, l_487, l_495, l_900, l_999, l_1000, l_1700, l_1792, l_1980, l_2048, l_2475, l_2970, l_3121, l_9999, l_10000, l_11351, l_65536, l_100000, l_1000000, ↓l_m1, l_neg, nI_add, pk_mul, pk_sub, q_leT, q_leF, q_ltT, q_ltF, q_eqT, q_eqF, q_m1e, q_m1e2, q_m1lt, q_m1le, q_m1nl, q_m1nle, q_m1s, q_ix, q_jat, q_jput, q_min1, q_min2, q_max1, q_max2, q_or0, q_0or, q_bs, if_true, if_false, true_and, and_true, false_and, and_false, not_true_eq_false, not_false_eq_true, eq_self, Bool.false_eq_true, q_z0, q_z1, e2]
  · unfold X12_city_b90
    simp (maxSteps := 4000000) (disch := omega) only [↓reduceIte, l_0, l_1, l_2, l_3, l_4, l_5, l_6, l_7, l_8, l_9, l_10, l_11, l_12, l_13, l_14, l_15, l_16, l_17, l_18, l_19, l_20, l_21, l_22, l_23, l_24, l_25, l_26, l_27, l_30, l_31, l_32, l_40, l_48, l_57, l_59, l_60, l_61, l_62, l_64, l_83, l_90, l_97, l_99, l_100, l_108, l_115, l_122, l_123, l_127, l_128, l_131, l_135, l_200, l_255, l_256, l_300, l_487, l_495, l_900, l_999, l_1000, l_1700, l_1792, l_1980, l_2048, l_2475, l_2970, l_3121, l_9999, l_10000, l_11351, l_65536, l_100000, l_1000000, ↓l_m1, l_neg, nI_add, pk_mul, pk_sub, q_leT, q_leF, q_ltT, q_ltF, q_eqT, q_eqF, q_m1e, q_m1e2, q_m1lt, q_m1le, q_m1nl, q_m1nle, q_m1s, q_ix, q_jat, q_jput, q_min1, q_min2, q_max1, q_max2, q_or0, q_0or, q_bs, if_true, if_false, true_and, and_true, false_and, and_false, not_true_eq_false, not_false_eq_true, eq_self, Bool.false_eq_true, q_z0, q_z1]
    rfl
theorem m_city_e {F n n0 : Nat} {st sz tk fr en vl fk fpl fts sn td : Int32} {at0 tp tx : Nat → Int32} {names : Nat → Int64} {ms : mTk} {w : Int32 × Int32 × Int32 × Int32 × Int32 × Int32 × Int32 × (Nat → Int32) × (Nat → Int64)} (h : n ≤ n0) (h9 : n0 ≤ 900) (hF : 2000 < F) (ha : X12_ahead F (nI n) tk fr (nI 0) vl (jputs tx tp n) = some ms) (hl : iter (X12_city_b31 F st 0 (nI n) fk 0 tp (jputs tx tp n)) F (nI 1, ms.1, ms.2.1, ms.2.2.1, ms.2.2.2, m1, nI 0, nI 0, pln at0, names) = some w) :
    X12_city F st (nI n0) sz tk fr en vl fk fpl fts sn td at0 names tp tx (nI n) = X12_city_j50 F st 0 (nI n) w.1 w.2.1 w.2.2.1 w.2.2.2.1 fk w.2.2.2.2.1 w.2.2.2.2.2.1 0 w.2.2.2.2.2.2.1 w.2.2.2.2.2.2.2.1 w.2.2.2.2.2.2.2.2 tp (jputs tx tp n) := by
  unfold X12_city
  exact bd_st (m_begins (sz := sz) (en := en) (fpl := fpl) (fts := fts) (sn := sn) h h9 hF ha) ((if_neg (show ¬ ((1 : Int32) = 0) by decide)).trans (bd_st (m_plain hF) (bd_st hl rfl)))
theorem m_yes {F : Nat} {st tpd sz tk fr en vl fk fpl sn td : Int32} {at1 tp tx : Nat → Int32} {names : Nat → Int64} (hF : 2000 < F) : X12_city_j50 F st tpd sz tk fr en vl fk fpl (nI 0) sn td at1 names tp tx = some (mkS [at1 1980, 0, tpd, sz, tk, fr, en, vl, nI 0, fpl, nI 0, sn, td] [] [cpA at1, tx] [cpN names]) := by
  have i1 := m_cpA (F := F) (a := st) (b := tpd) (c := sz) (d := tk) (e := fr) (g := en) (h := vl) (i := fk) (j := fpl) (k := nI 0) (l := sn) (m' := td) (nm := names) (tp := tp) (tx := tx) (at1 := at1) hF
  have i2 := m_cpN (F := F) (a := st) (b := tpd) (c := sz) (d := tk) (e := fr) (g := en) (h := vl) (i := fk) (j := fpl) (k := nI 0) (l := sn) (m' := td) (nm := names) (tp := tp) (tx := tx) (at1 := cpA at1) hF
  have v0 : cpA at1 0 = at1 1980 := rfl
  unfold X12_city_j50 X12_city_j117 X12_taken X12_gives
  simp (maxSteps := 4000000) (disch := omega) only [↓reduceIte, l_0, l_1, l_2, l_3, l_4, l_5, l_6, l_7, l_8, l_9, l_10, l_11, l_12, l_13, l_14, l_15, l_16, l_17, l_18, l_19, l_20, l_21, l_22, l_23, l_24, l_25, l_26, l_27, l_30, l_31, l_32, l_40, l_48, l_57, l_59, l_60, l_61, l_62, l_64, l_83, l_90, l_97, l_99, l_100, l_108, l_115, l_122, l_123, l_127, l_128, l_131, l_135, l_200, l_255, l_256, l_300, l_487, l_495, l_900, l_999, l_1000, l_1700, l_1792, l_1980, l_2048, l_2475, l_2970, l_3121, l_9999, l_10000, l_11351, l_65536, l_100000, l_1000000, ↓l_m1, l_neg, nI_add, pk_mul, pk_sub, q_leT, q_leF, q_ltT, q_ltF, q_eqT, q_eqF, q_m1e, q_m1e2, q_m1lt, q_m1le, q_m1nl, q_m1nle, q_m1s, q_ix, q_jat, q_jput, q_min1, q_min2, q_max1, q_max2, q_or0, q_0or, q_bs, if_true, if_false, true_and, and_true, false_and, and_false, not_true_eq_false, not_false_eq_true, eq_self, Bool.false_eq_true, q_z0, q_z1, i1, i2, v0]
theorem m_no {F k : Nat} {st tpd sz tk fr en vl fk fpl sn td : Int32} {at1 tp tx : Nat → Int32} {names : Nat → Int64} (k1 : 1 ≤ k) (k7 : k ≤ 7) : X12_city_j50 F st tpd sz tk fr en vl fk fpl (nI k) sn td at1 names tp tx = some (mkS [m1, nI 9, tpd, sz, tk, fr, en, vl, nI k, fpl, nI k, sn, td] [] [at1, tx] [names]) := by
  unfold X12_city_j50 X12_city_j117 X12_taken X12_refuse
  simp (maxSteps := 4000000) (disch := omega) only [↓reduceIte, l_0, l_1, l_2, l_3, l_4, l_5, l_6, l_7, l_8, l_9, l_10, l_11, l_12, l_13, l_14, l_15, l_16, l_17, l_18, l_19, l_20, l_21, l_22, l_23, l_24, l_25, l_26, l_27, l_30, l_31, l_32, l_40, l_48, l_57, l_59, l_60, l_61, l_62, l_64, l_83, l_90, l_97, l_99, l_100, l_108, l_115, l_122, l_123, l_127, l_128, l_131, l_135, l_200, l_255, l_256, l_300, l_487, l_495, l_900, l_999, l_1000, l_1700, l_1792, l_1980, l_2048, l_2475, l_2970, l_3121, l_9999, l_10000, l_11351, l_65536, l_100000, l_1000000, ↓l_m1, l_neg, nI_add, pk_mul, pk_sub, q_leT, q_leF, q_ltT, q_ltF, q_eqT, q_eqF, q_m1e, q_m1e2, q_m1lt, q_m1le, q_m1nl, q_m1nle, q_m1s, q_ix, q_jat, q_jput, q_min1, q_min2, q_max1, q_max2, q_or0, q_0or, q_bs, if_true, if_false, true_and, and_true, false_and, and_false, not_true_eq_false, not_false_eq_true, eq_self, Bool.false_eq_true, q_z0, q_z1]
theorem begin_tok {F n : Nat} {B : Nat → Nat} {f g : Nat → Int32} (hx : TX n B f g) (hF : 2000 < F) (a1 a2 a3 : Int32) (a4 : Int64) (b1 b2 b3 : Int32) : ∃ q kd e v cs ms, X8_advance F (nI n) a1 (nI 0) a2 a3 a4 f = some cs ∧ X12_ahead F (nI n) b1 b2 (nI 0) b3 g = some ms ∧ TkR n B q kd e v cs ms := by
  obtain ⟨q, kd, e, v, t1, t2, t3⟩ := adv (F := F) hx (Nat.zero_le n) hF
  obtain ⟨nx, val, cd, c1, c2⟩ := t2 a1 a2 a3 a4
  obtain ⟨en, vl, m1', m2⟩ := t3 b1 b2 b3
  exact ⟨q, kd, e, v, (nI q, nx, nI kd, val, cd), (nI (mtk kd), nI q, en, vl), c1, m1', ⟨0, t1⟩, rfl, rfl, c2, rfl, rfl, m2⟩
/-- the whole of a city's text on both sides -/
theorem both_city {F n n0 : Nat} {rt ln pl nx so va ft fpl wg dl od ck hw cn rm nn xm hm wm wk : Int32} {cd : Int64} {f xr xt xh0 sos nus xx xh xw : Nat → Int32} {co : Nat → Int64} {st sz tk fr en vl fk fpl' fts sn td : Int32} {at0 tp tx : Nat → Int32} {names : Nat → Int64} (h : n ≤ n0) (h9 : n0 ≤ 900) (ht : TpOk n0 f tp) (hF : 2000 < F) :
    (∃ (rt' N' : Nat) (cs' : cSt) (C : Cy) (nm' : Nat → Nat → Nat) (xr' xt' hs so' nu' xx' xh' xw' at1 : Nat → Int32) (co' names1 : Nat → Int64) (t1 t2 t3 t4 t5 : Int32),
      X1_parse F rt (nI n0) ln pl nx so va cd ft fpl f wg dl od ck hw cn rm xr xt xh0 nn co sos nus xm xx hm xh wm xw wk (nI n) = some (mkS [1, nI rt', 0, nI n, cs'.1, cs'.2.1, cs'.2.2.1, cs'.2.2.2.1, nI 0, m1, nI (C 0 0 5), nI (C 0 0 6), nI (C 0 0 7), 0, 0, nI (C 0 0 0), nI (C 0 0 1), nI N', nI (C 0 0 2), nI (C 0 0 3), nI (C 0 0 4), 0] [cs'.2.2.2.2] [xr', xt', hs, so', nu', xx', xh', xw'] [co']) ∧
      X12_city F st (nI n0) sz tk fr en vl fk fpl' fts sn td at0 names tp tx (nI n) = some (mkS [nI (C 0 0 0), 0, 0, nI n, t1, t2, t3, t4, nI 0, m1, nI 0, 0, t5] [] [cpA at1, jputs tx tp n] [cpN names1]) ∧ DR C N' nm' xr' xt' co' so' nu' xx' xh' xw' at1 names1 ∧ CF C hs ∧ (∀ j, j < 1980 → at1 j = at0 j) ∧ (∀ j, j < 108 → names1 j = names j)) ∨
    (∃ (k p : Nat) (u : vS) (at1 : Nat → Int32) (names1 : Nat → Int64) (t1 t2 t3 t4 t5 : Int32), 1 ≤ k ∧ k ≤ 7 ∧ X1_parse F rt (nI n0) ln pl nx so va cd ft fpl f wg dl od ck hw cn rm xr xt xh0 nn co sos nus xm xx hm xh wm xw wk (nI n) = some u ∧ u.1 0 = nI 0 ∧ u.1 2 = nI 0 ∧ u.1 8 = nI k ∧ u.1 9 = nI p ∧
      X12_city F st (nI n0) sz tk fr en vl fk fpl' fts sn td at0 names tp tx (nI n) = some (mkS [m1, nI 9, 0, nI n, t1, t2, t3, t4, nI k, nI p, nI k, 0, t5] [] [at1, jputs tx tp n] [names1]) ∧ (∀ j, j < 1980 → at1 j = at0 j) ∧ (∀ j, j < 108 → names1 j = names j)) := by
  obtain ⟨B, hx⟩ := TX_of (tx := tx) ht h (by omega)
  obtain ⟨q, kd, e, v, cs, ms, g1, g2, tk'⟩ := begin_tok (F := F) hx hF pl so va cd tk fr vl
  have cb := c_begin (ln := ln) (nx := nx) (ft := ft) (fpl := fpl) h h9 g1
  have pf : ∀ j, j < 1980 → pln at0 j = at0 j := fun j hj => by
    unfold pln
    rw [pk_un (by omega), pk_un (by omega), pk_un (by omega), pk_un (by omega)]
    unfold putN; rw [if_neg (by omega)]
  rcases lp (F := F) (a := st) (b := 0) (c := fk) (d := 0) (x := 0) (tp := tp) 0 0 0 0 (hz xh0) m1 m1 hx hF n 0 q kd e v 0 0 0 cy0 (fun _ _ => 0) xr (tz xt) sos nus xx xh xw (pln at0) co names cs ms F (by omega) (by have := hx.1; omega) (Nat.zero_le _) tk' TR0 (DR0 _ _ _ _ _ _ _ _ _ _) with ⟨rt', mt2, N', cs', ms', C, nm', xr', xt', so', nu', xx', xh', xw', at1, co', names1, r1, r2, r3, r4, r5⟩ | ⟨k, p, u, w, C', k1, k7, r1, u5, u6, okC, ctC, r2, w1, w2, r4, r5⟩
  · left
    obtain ⟨hs, m1', m2⟩ := c_measure (F := F) (xh := hz xh0) r3.1 r3.2.2.2.2.2.1 hF
    have a0 : at1 1980 = nI (C 0 0 0) := r3.2.2.2.2.2.2.2.2.2.1.1 0 (by omega)
    refine ⟨rt', N', cs', C, nm', xr', xt', hs, so', nu', xx', xh', xw', at1, co', names1, ms'.1, ms'.2.1, ms'.2.2.1, ms'.2.2.2, nI mt2, parse_e hF cb r1 m1', (m_city_e h h9 hF g2 r2).trans ((m_yes hF).trans ?_), r3, m2, fun j hj => by rw [r4 j hj, pf j hj], r5⟩
    rw [← a0]
  · right
    obtain ⟨hs, m1', m2⟩ := c_measure (F := F) (xh := hz xh0) okC ctC hF
    have un : ¬ u.1 5 = 0 := by rw [u5]; exact fun z => by have := (nI_eq (a := k) (b := 0) (by omega) (by omega)).mp z; omega
    refine ⟨k, p, _, w.2.2.2.2.2.2.2.1, w.2.2.2.2.2.2.2.2, w.1, w.2.1, w.2.2.1, w.2.2.2.1, w.2.2.2.2.2.2.1, k1, k7, parse_e hF cb r1 m1', if_neg un, rfl, u5, u6, ?_, fun j hj => by rw [r4 j hj, pf j hj], r5⟩
    rw [m_city_e h h9 hF g2 r2, w1, w2, m_no k1 k7]
