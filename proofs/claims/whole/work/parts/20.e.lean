/-! ===== PURE 20.e: names told ahead, new names ===== -/
theorem s_look {F n q kd e v N s off : Nat} {C : Cy} {nm : Nat → Nat → Nat} {co : Nat → Int64} {so nu : Nat → Int32} {names : Nat → Int64} {B : Nat → Nat} {f g : Nat → Int32} {cs : cSt} {ms : mTk} (fp : Int32) (ok : Ok C) (hn : NM C N nm co so nu (fun k => names (off + k))) (ho : off ≤ 108) (hx : TX n B f g) (h : TkR n B q kd e v cs ms) (s1 : 1 ≤ s) (s4 : s ≤ 4) (hF : 2000 < F) :
    (∃ k, k < cnt C s ∧ kd = 1 ∧ X8_lookAtName F cs.1 cs.2.2.1 cs.2.2.2.2 (nI 0) fp (nI N) co so nu (nI s) = some (nI k, nI 0, fp) ∧ X12_isName F (nI n) ms.1 ms.2.1 ms.2.2.1 g = some (nI 1) ∧ X12_findHere F (nI n) ms.2.1 ms.2.2.1 names g (nI (off + nb s)) (nI (cnt C s)) = some (nI k)) ∨
    (kd = 1 ∧ X8_lookAtName F cs.1 cs.2.2.1 cs.2.2.2.2 (nI 0) fp (nI N) co so nu (nI s) = some (nI 0, nI 3, nI q) ∧ X12_isName F (nI n) ms.1 ms.2.1 ms.2.2.1 g = some (nI 1) ∧ X12_findHere F (nI n) ms.2.1 ms.2.2.1 names g (nI (off + nb s)) (nI (cnt C s)) = some m1) ∨
    (¬ isN B q kd e ∧ X8_lookAtName F cs.1 cs.2.2.1 cs.2.2.2.2 (nI 0) fp (nI N) co so nu (nI s) = some (nI 0, nI (fk kd 2), nI q) ∧ X12_isName F (nI n) ms.1 ms.2.1 ms.2.2.1 g = some (nI 0)) := by
  have b := tk_bnd h
  have h' := h
  obtain ⟨⟨p, tk⟩, h1, h2, h3, h4, h5, h6⟩ := h
  have fh := q_here (fp := fp) h1 h2 b.2.1
  have ff3 := q_fail (fp := fp) (k := 3) h1
  by_cases nn : isN B q kd e
  · obtain ⟨i1, i2, i3, i4, i5, i6z⟩ := m_isNameT (F := F) hx h' nn hF
    have i6 : (lg_cmp cs.2.2.2.2 0 = nI 0) = False := i6z
    have k1 := nn.1
    have e8 := nn.2.2
    have N27 := hn.1
    have en : ms.2.2.1 = nI e := h6.1 (by omega)
    rcases both_find (F := F) (s := s) ok hn ho hx i4 i5 e8 i3 s1 s4 hF with ⟨k, i, j1, j2, j3, j4, j5, j6, j7⟩ | ⟨j1, j2, j3⟩
    · left
      have e1 : X3_isOfSort (nI N) so (nI i) (nI s) = some (nI 1) := by
        unfold X3_isOfSort; simp (disch := omega) only [l_0, l_1, l_2, l_3, l_4, l_5, l_6, l_7, l_8, l_9, l_10, l_11, l_12, l_13, l_14, l_15, l_16, l_17, l_18, l_19, l_20, l_21, l_22, l_23, l_24, l_25, l_26, l_27, l_30, l_31, l_32, l_40, l_48, l_57, l_59, l_60, l_61, l_62, l_64, l_83, l_90, l_97, l_99, l_100, l_108, l_115, l_122, l_123, l_127, l_128, l_131, l_135, l_200, l_255, l_256, l_300, l_487, l_495, l_900, l_999, l_1000, l_1700, l_1792, l_1980, l_2048, l_2475, l_2970, l_3121, l_9999, l_10000, l_11351, l_65536, l_100000, l_1000000, ↓l_m1, l_neg, nI_add, pk_mul, pk_sub, q_leT, q_leF, q_ltT, q_ltF, q_eqT, q_eqF, q_m1e, q_m1e2, q_m1lt, q_m1le, q_m1nl, q_m1nle, q_m1s, q_ix, q_jat, q_jput, q_min1, q_min2, q_max1, q_max2, q_or0, q_0or, q_bs, if_true, if_false, true_and, and_true, false_and, and_false, not_true_eq_false, not_false_eq_true, eq_self, Bool.false_eq_true, q_z0, q_z1, j6]
      have e2 : X3_numberOf (nI N) nu (nI i) = some (nI k) := by
        unfold X3_numberOf; simp (disch := omega) only [l_0, l_1, l_2, l_3, l_4, l_5, l_6, l_7, l_8, l_9, l_10, l_11, l_12, l_13, l_14, l_15, l_16, l_17, l_18, l_19, l_20, l_21, l_22, l_23, l_24, l_25, l_26, l_27, l_30, l_31, l_32, l_40, l_48, l_57, l_59, l_60, l_61, l_62, l_64, l_83, l_90, l_97, l_99, l_100, l_108, l_115, l_122, l_123, l_127, l_128, l_131, l_135, l_200, l_255, l_256, l_300, l_487, l_495, l_900, l_999, l_1000, l_1700, l_1792, l_1980, l_2048, l_2475, l_2970, l_3121, l_9999, l_10000, l_11351, l_65536, l_100000, l_1000000, ↓l_m1, l_neg, nI_add, pk_mul, pk_sub, q_leT, q_leF, q_ltT, q_ltF, q_eqT, q_eqF, q_m1e, q_m1e2, q_m1lt, q_m1le, q_m1nl, q_m1nle, q_m1s, q_ix, q_jat, q_jput, q_min1, q_min2, q_max1, q_max2, q_or0, q_0or, q_bs, if_true, if_false, true_and, and_true, false_and, and_false, not_true_eq_false, not_false_eq_true, eq_self, Bool.false_eq_true, q_z0, q_z1, j7]
      refine ⟨k, j1, k1, ?_, i1, by rw [h5, en]; exact j3⟩
      rw [← i2] at j5
      unfold X8_lookAtName
      simp (disch := omega) only [l_0, l_1, l_2, l_3, l_4, l_5, l_6, l_7, l_8, l_9, l_10, l_11, l_12, l_13, l_14, l_15, l_16, l_17, l_18, l_19, l_20, l_21, l_22, l_23, l_24, l_25, l_26, l_27, l_30, l_31, l_32, l_40, l_48, l_57, l_59, l_60, l_61, l_62, l_64, l_83, l_90, l_97, l_99, l_100, l_108, l_115, l_122, l_123, l_127, l_128, l_131, l_135, l_200, l_255, l_256, l_300, l_487, l_495, l_900, l_999, l_1000, l_1700, l_1792, l_1980, l_2048, l_2475, l_2970, l_3121, l_9999, l_10000, l_11351, l_65536, l_100000, l_1000000, ↓l_m1, l_neg, nI_add, pk_mul, pk_sub, q_leT, q_leF, q_ltT, q_ltF, q_eqT, q_eqF, q_m1e, q_m1e2, q_m1lt, q_m1le, q_m1nl, q_m1nle, q_m1s, q_ix, q_jat, q_jput, q_min1, q_min2, q_max1, q_max2, q_or0, q_0or, q_bs, if_true, if_false, true_and, and_true, false_and, and_false, not_true_eq_false, not_false_eq_true, eq_self, Bool.false_eq_true, q_z0, q_z1, i6, j5, e1, e2]
    · right; left
      refine ⟨k1, ?_, i1, by rw [h5, en]; exact j2⟩
      rw [← i2] at j3
      unfold X8_lookAtName
      rcases j3 with ⟨s', k', i, t1, t4, ts, tk', ti, t5, t6⟩ | t5
      · have e1 : X3_isOfSort (nI N) so (nI i) (nI s) = some (nI 0) := by
          unfold X3_isOfSort X3_isOfSort_j26; simp (disch := omega) only [l_0, l_1, l_2, l_3, l_4, l_5, l_6, l_7, l_8, l_9, l_10, l_11, l_12, l_13, l_14, l_15, l_16, l_17, l_18, l_19, l_20, l_21, l_22, l_23, l_24, l_25, l_26, l_27, l_30, l_31, l_32, l_40, l_48, l_57, l_59, l_60, l_61, l_62, l_64, l_83, l_90, l_97, l_99, l_100, l_108, l_115, l_122, l_123, l_127, l_128, l_131, l_135, l_200, l_255, l_256, l_300, l_487, l_495, l_900, l_999, l_1000, l_1700, l_1792, l_1980, l_2048, l_2475, l_2970, l_3121, l_9999, l_10000, l_11351, l_65536, l_100000, l_1000000, ↓l_m1, l_neg, nI_add, pk_mul, pk_sub, q_leT, q_leF, q_ltT, q_ltF, q_eqT, q_eqF, q_m1e, q_m1e2, q_m1lt, q_m1le, q_m1nl, q_m1nle, q_m1s, q_ix, q_jat, q_jput, q_min1, q_min2, q_max1, q_max2, q_or0, q_0or, q_bs, if_true, if_false, true_and, and_true, false_and, and_false, not_true_eq_false, not_false_eq_true, eq_self, Bool.false_eq_true, q_z0, q_z1, t6]
        simp (disch := omega) only [l_0, l_1, l_2, l_3, l_4, l_5, l_6, l_7, l_8, l_9, l_10, l_11, l_12, l_13, l_14, l_15, l_16, l_17, l_18, l_19, l_20, l_21, l_22, l_23, l_24, l_25, l_26, l_27, l_30, l_31, l_32, l_40, l_48, l_57, l_59, l_60, l_61, l_62, l_64, l_83, l_90, l_97, l_99, l_100, l_108, l_115, l_122, l_123, l_127, l_128, l_131, l_135, l_200, l_255, l_256, l_300, l_487, l_495, l_900, l_999, l_1000, l_1700, l_1792, l_1980, l_2048, l_2475, l_2970, l_3121, l_9999, l_10000, l_11351, l_65536, l_100000, l_1000000, ↓l_m1, l_neg, nI_add, pk_mul, pk_sub, q_leT, q_leF, q_ltT, q_ltF, q_eqT, q_eqF, q_m1e, q_m1e2, q_m1lt, q_m1le, q_m1nl, q_m1nle, q_m1s, q_ix, q_jat, q_jput, q_min1, q_min2, q_max1, q_max2, q_or0, q_0or, q_bs, if_true, if_false, true_and, and_true, false_and, and_false, not_true_eq_false, not_false_eq_true, eq_self, Bool.false_eq_true, q_z0, q_z1, i6, t5, e1, ff3]
      · have e1 : X3_isOfSort (nI N) so m1 (nI s) = some (nI 0) := by
          unfold X3_isOfSort X3_isOfSort_j26; simp (disch := omega) only [l_0, l_1, l_2, l_3, l_4, l_5, l_6, l_7, l_8, l_9, l_10, l_11, l_12, l_13, l_14, l_15, l_16, l_17, l_18, l_19, l_20, l_21, l_22, l_23, l_24, l_25, l_26, l_27, l_30, l_31, l_32, l_40, l_48, l_57, l_59, l_60, l_61, l_62, l_64, l_83, l_90, l_97, l_99, l_100, l_108, l_115, l_122, l_123, l_127, l_128, l_131, l_135, l_200, l_255, l_256, l_300, l_487, l_495, l_900, l_999, l_1000, l_1700, l_1792, l_1980, l_2048, l_2475, l_2970, l_3121, l_9999, l_10000, l_11351, l_65536, l_100000, l_1000000, ↓l_m1, l_neg, nI_add, pk_mul, pk_sub, q_leT, q_leF, q_ltT, q_ltF, q_eqT, q_eqF, q_m1e, q_m1e2, q_m1lt, q_m1le, q_m1nl, q_m1nle, q_m1s, q_ix, q_jat, q_jput, q_min1, q_min2, q_max1, q_max2, q_or0, q_0or, q_bs, if_true, if_false, true_and, and_true, false_and, and_false, not_true_eq_false, not_false_eq_true, eq_self, Bool.false_eq_true, q_z0, q_z1]
        simp (disch := omega) only [l_0, l_1, l_2, l_3, l_4, l_5, l_6, l_7, l_8, l_9, l_10, l_11, l_12, l_13, l_14, l_15, l_16, l_17, l_18, l_19, l_20, l_21, l_22, l_23, l_24, l_25, l_26, l_27, l_30, l_31, l_32, l_40, l_48, l_57, l_59, l_60, l_61, l_62, l_64, l_83, l_90, l_97, l_99, l_100, l_108, l_115, l_122, l_123, l_127, l_128, l_131, l_135, l_200, l_255, l_256, l_300, l_487, l_495, l_900, l_999, l_1000, l_1700, l_1792, l_1980, l_2048, l_2475, l_2970, l_3121, l_9999, l_10000, l_11351, l_65536, l_100000, l_1000000, ↓l_m1, l_neg, nI_add, pk_mul, pk_sub, q_leT, q_leF, q_ltT, q_ltF, q_eqT, q_eqF, q_m1e, q_m1e2, q_m1lt, q_m1le, q_m1nl, q_m1nle, q_m1s, q_ix, q_jat, q_jput, q_min1, q_min2, q_max1, q_max2, q_or0, q_0or, q_bs, if_true, if_false, true_and, and_true, false_and, and_false, not_true_eq_false, not_false_eq_true, eq_self, Bool.false_eq_true, q_z0, q_z1, i6, t5, e1, ff3]
  · right; right
    obtain ⟨i1, i2z⟩ := m_isNameF (F := F) hx h' nn hF
    have i2 : (lg_cmp cs.2.2.2.2 0 = nI 0) = True := i2z
    refine ⟨nn, ?_, i1⟩
    unfold X8_lookAtName
    simp (disch := omega) only [l_0, l_1, l_2, l_3, l_4, l_5, l_6, l_7, l_8, l_9, l_10, l_11, l_12, l_13, l_14, l_15, l_16, l_17, l_18, l_19, l_20, l_21, l_22, l_23, l_24, l_25, l_26, l_27, l_30, l_31, l_32, l_40, l_48, l_57, l_59, l_60, l_61, l_62, l_64, l_83, l_90, l_97, l_99, l_100, l_108, l_115, l_122, l_123, l_127, l_128, l_131, l_135, l_200, l_255, l_256, l_300, l_487, l_495, l_900, l_999, l_1000, l_1700, l_1792, l_1980, l_2048, l_2475, l_2970, l_3121, l_9999, l_10000, l_11351, l_65536, l_100000, l_1000000, ↓l_m1, l_neg, nI_add, pk_mul, pk_sub, q_leT, q_leF, q_ltT, q_ltF, q_eqT, q_eqF, q_m1e, q_m1e2, q_m1lt, q_m1le, q_m1nl, q_m1nle, q_m1s, q_ix, q_jat, q_jput, q_min1, q_min2, q_max1, q_max2, q_or0, q_0or, q_bs, if_true, if_false, true_and, and_true, false_and, and_false, not_true_eq_false, not_false_eq_true, eq_self, Bool.false_eq_true, q_z0, q_z1, i2, fh]
theorem s_old {F n q kd e v N s off to : Nat} {C : Cy} {nm : Nat → Nat → Nat} {co : Nat → Int64} {so nu at0 : Nat → Int32} {names : Nat → Int64} {B : Nat → Nat} {f g : Nat → Int32} {cs : cSt} {ms : mTk} (fp mfp : Int32) (ok : Ok C) (hn : NM C N nm co so nu (fun k => names (off + k))) (ho : off ≤ 108) (hx : TX n B f g) (h : TkR n B q kd e v cs ms) (s1 : 1 ≤ s) (s4 : s ≤ 4) (hto : to < 3097) (ht2 : 1980 ≤ to) (hF : 2000 < F) :
    (∃ k q' kd' e' v' cs' ms', k < cnt C s ∧ X8_takeName F (nI n) cs.1 cs.2.1 cs.2.2.1 cs.2.2.2.1 cs.2.2.2.2 (nI 0) fp f (nI N) co so nu (nI s) = some (nI k, cs'.1, cs'.2.1, cs'.2.2.1, cs'.2.2.2.1, cs'.2.2.2.2, nI 0, fp) ∧ X12_oldOne F (nI n) ms.1 ms.2.1 ms.2.2.1 ms.2.2.2 mfp (nI 0) at0 names g (nI (off + nb s)) (nI (cnt C s)) (nI to) = some (nI 1, ms'.1, ms'.2.1, ms'.2.2.1, ms'.2.2.2, mfp, nI 0, upd at0 to (nI k)) ∧ TkR n B q' kd' e' v' cs' ms' ∧ q < q') ∨
    (∃ k at1, 1 ≤ k ∧ k ≤ 7 ∧ X8_takeName F (nI n) cs.1 cs.2.1 cs.2.2.1 cs.2.2.2.1 cs.2.2.2.2 (nI 0) fp f (nI N) co so nu (nI s) = some (nI 0, cs.1, cs.2.1, cs.2.2.1, cs.2.2.2.1, cs.2.2.2.2, nI k, nI q) ∧ X12_oldOne F (nI n) ms.1 ms.2.1 ms.2.2.1 ms.2.2.2 mfp (nI 0) at0 names g (nI (off + nb s)) (nI (cnt C s)) (nI to) = some (nI 0, ms.1, ms.2.1, ms.2.2.1, ms.2.2.2, nI q, nI k, at1) ∧ ∀ j, j < 1980 → at1 j = at0 j) := by
  have b := tk_bnd h
  have h' := h
  obtain ⟨⟨p, tk⟩, h1, h2, h3, h4, h5, h6⟩ := h
  have cl := cnt_le ok s1 s4
  rcases s_look (F := F) (s := s) fp ok hn ho hx h' s1 s4 hF with ⟨k, k1, kd1, l1, l2, l3⟩ | ⟨kd1, l1, l2, l3⟩ | ⟨nn, l1, l2⟩
  · left
    obtain ⟨q', kd', e', v', cs', ms', a1, a2, a3, a4⟩ := s_adv (F := F) hx h' (by omega) hF
    have qe := b.2.2.2.1 (by omega) (by omega)
    refine ⟨k, q', kd', e', v', cs', ms', k1, ?_, ?_, a3, by omega⟩
    · unfold X8_takeName
      simp (disch := omega) only [l_0, l_1, l_2, l_3, l_4, l_5, l_6, l_7, l_8, l_9, l_10, l_11, l_12, l_13, l_14, l_15, l_16, l_17, l_18, l_19, l_20, l_21, l_22, l_23, l_24, l_25, l_26, l_27, l_30, l_31, l_32, l_40, l_48, l_57, l_59, l_60, l_61, l_62, l_64, l_83, l_90, l_97, l_99, l_100, l_108, l_115, l_122, l_123, l_127, l_128, l_131, l_135, l_200, l_255, l_256, l_300, l_487, l_495, l_900, l_999, l_1000, l_1700, l_1792, l_1980, l_2048, l_2475, l_2970, l_3121, l_9999, l_10000, l_11351, l_65536, l_100000, l_1000000, ↓l_m1, l_neg, nI_add, pk_mul, pk_sub, q_leT, q_leF, q_ltT, q_ltF, q_eqT, q_eqF, q_m1e, q_m1e2, q_m1lt, q_m1le, q_m1nl, q_m1nle, q_m1s, q_ix, q_jat, q_jput, q_min1, q_min2, q_max1, q_max2, q_or0, q_0or, q_bs, if_true, if_false, true_and, and_true, false_and, and_false, not_true_eq_false, not_false_eq_true, eq_self, Bool.false_eq_true, q_z0, q_z1, l1, a1]
    · unfold X12_oldOne
      simp (disch := omega) only [l_0, l_1, l_2, l_3, l_4, l_5, l_6, l_7, l_8, l_9, l_10, l_11, l_12, l_13, l_14, l_15, l_16, l_17, l_18, l_19, l_20, l_21, l_22, l_23, l_24, l_25, l_26, l_27, l_30, l_31, l_32, l_40, l_48, l_57, l_59, l_60, l_61, l_62, l_64, l_83, l_90, l_97, l_99, l_100, l_108, l_115, l_122, l_123, l_127, l_128, l_131, l_135, l_200, l_255, l_256, l_300, l_487, l_495, l_900, l_999, l_1000, l_1700, l_1792, l_1980, l_2048, l_2475, l_2970, l_3121, l_9999, l_10000, l_11351, l_65536, l_100000, l_1000000, ↓l_m1, l_neg, nI_add, pk_mul, pk_sub, q_leT, q_leF, q_ltT, q_ltF, q_eqT, q_eqF, q_m1e, q_m1e2, q_m1lt, q_m1le, q_m1nl, q_m1nle, q_m1s, q_ix, q_jat, q_jput, q_min1, q_min2, q_max1, q_max2, q_or0, q_0or, q_bs, if_true, if_false, true_and, and_true, false_and, and_false, not_true_eq_false, not_false_eq_true, eq_self, Bool.false_eq_true, q_z0, q_z1, l2, l3, pk_us, a2]
  · right
    have fl := q_fails (fp := mfp) (k := 3) h4 h5 b.2.1 (by omega)
    rw [kd1, show fk 1 3 = 3 from rfl] at fl
    refine ⟨3, upd at0 to m1, by omega, by omega, ?_, ?_, fun j hj => pk_un (by omega)⟩
    · unfold X8_takeName
      simp (disch := omega) only [l_0, l_1, l_2, l_3, l_4, l_5, l_6, l_7, l_8, l_9, l_10, l_11, l_12, l_13, l_14, l_15, l_16, l_17, l_18, l_19, l_20, l_21, l_22, l_23, l_24, l_25, l_26, l_27, l_30, l_31, l_32, l_40, l_48, l_57, l_59, l_60, l_61, l_62, l_64, l_83, l_90, l_97, l_99, l_100, l_108, l_115, l_122, l_123, l_127, l_128, l_131, l_135, l_200, l_255, l_256, l_300, l_487, l_495, l_900, l_999, l_1000, l_1700, l_1792, l_1980, l_2048, l_2475, l_2970, l_3121, l_9999, l_10000, l_11351, l_65536, l_100000, l_1000000, ↓l_m1, l_neg, nI_add, pk_mul, pk_sub, q_leT, q_leF, q_ltT, q_ltF, q_eqT, q_eqF, q_m1e, q_m1e2, q_m1lt, q_m1le, q_m1nl, q_m1nle, q_m1s, q_ix, q_jat, q_jput, q_min1, q_min2, q_max1, q_max2, q_or0, q_0or, q_bs, if_true, if_false, true_and, and_true, false_and, and_false, not_true_eq_false, not_false_eq_true, eq_self, Bool.false_eq_true, q_z0, q_z1, l1]
    · unfold X12_oldOne
      simp (disch := omega) only [l_0, l_1, l_2, l_3, l_4, l_5, l_6, l_7, l_8, l_9, l_10, l_11, l_12, l_13, l_14, l_15, l_16, l_17, l_18, l_19, l_20, l_21, l_22, l_23, l_24, l_25, l_26, l_27, l_30, l_31, l_32, l_40, l_48, l_57, l_59, l_60, l_61, l_62, l_64, l_83, l_90, l_97, l_99, l_100, l_108, l_115, l_122, l_123, l_127, l_128, l_131, l_135, l_200, l_255, l_256, l_300, l_487, l_495, l_900, l_999, l_1000, l_1700, l_1792, l_1980, l_2048, l_2475, l_2970, l_3121, l_9999, l_10000, l_11351, l_65536, l_100000, l_1000000, ↓l_m1, l_neg, nI_add, pk_mul, pk_sub, q_leT, q_leF, q_ltT, q_ltF, q_eqT, q_eqF, q_m1e, q_m1e2, q_m1lt, q_m1le, q_m1nl, q_m1nle, q_m1s, q_ix, q_jat, q_jput, q_min1, q_min2, q_max1, q_max2, q_or0, q_0or, q_bs, if_true, if_false, true_and, and_true, false_and, and_false, not_true_eq_false, not_false_eq_true, eq_self, Bool.false_eq_true, q_z0, q_z1, l2, l3, pk_us, fl]
  · right
    have fl := q_fails (fp := mfp) (k := 2) h4 h5 b.2.1 (by omega)
    have f7 := fk_b (kd := kd) (k := 2) (by omega) (by omega)
    have f71 := f7.1
    have f72 := f7.2
    refine ⟨fk kd 2, at0, f71, f72, ?_, ?_, fun _ _ => rfl⟩
    · unfold X8_takeName
      simp (disch := omega) only [l_0, l_1, l_2, l_3, l_4, l_5, l_6, l_7, l_8, l_9, l_10, l_11, l_12, l_13, l_14, l_15, l_16, l_17, l_18, l_19, l_20, l_21, l_22, l_23, l_24, l_25, l_26, l_27, l_30, l_31, l_32, l_40, l_48, l_57, l_59, l_60, l_61, l_62, l_64, l_83, l_90, l_97, l_99, l_100, l_108, l_115, l_122, l_123, l_127, l_128, l_131, l_135, l_200, l_255, l_256, l_300, l_487, l_495, l_900, l_999, l_1000, l_1700, l_1792, l_1980, l_2048, l_2475, l_2970, l_3121, l_9999, l_10000, l_11351, l_65536, l_100000, l_1000000, ↓l_m1, l_neg, nI_add, pk_mul, pk_sub, q_leT, q_leF, q_ltT, q_ltF, q_eqT, q_eqF, q_m1e, q_m1e2, q_m1lt, q_m1le, q_m1nl, q_m1nle, q_m1s, q_ix, q_jat, q_jput, q_min1, q_min2, q_max1, q_max2, q_or0, q_0or, q_bs, if_true, if_false, true_and, and_true, false_and, and_false, not_true_eq_false, not_false_eq_true, eq_self, Bool.false_eq_true, q_z0, q_z1, l1]
    · unfold X12_oldOne
      simp (disch := omega) only [l_0, l_1, l_2, l_3, l_4, l_5, l_6, l_7, l_8, l_9, l_10, l_11, l_12, l_13, l_14, l_15, l_16, l_17, l_18, l_19, l_20, l_21, l_22, l_23, l_24, l_25, l_26, l_27, l_30, l_31, l_32, l_40, l_48, l_57, l_59, l_60, l_61, l_62, l_64, l_83, l_90, l_97, l_99, l_100, l_108, l_115, l_122, l_123, l_127, l_128, l_131, l_135, l_200, l_255, l_256, l_300, l_487, l_495, l_900, l_999, l_1000, l_1700, l_1792, l_1980, l_2048, l_2475, l_2970, l_3121, l_9999, l_10000, l_11351, l_65536, l_100000, l_1000000, ↓l_m1, l_neg, nI_add, pk_mul, pk_sub, q_leT, q_leF, q_ltT, q_ltF, q_eqT, q_eqF, q_m1e, q_m1e2, q_m1lt, q_m1le, q_m1nl, q_m1nle, q_m1s, q_ix, q_jat, q_jput, q_min1, q_min2, q_max1, q_max2, q_or0, q_0or, q_bs, if_true, if_false, true_and, and_true, false_and, and_false, not_true_eq_false, not_false_eq_true, eq_self, Bool.false_eq_true, q_z0, q_z1, l2, fl]
/-- what is told by whom: the counts in the model's new city -/
def NC (C : Cy) (at0 : Nat → Int32) : Prop := ∀ k, k < 5 → at0 (1980 + k) = nI (C 0 0 k)
theorem m_taken {F n q kd e v N : Nat} {C : Cy} {nm : Nat → Nat → Nat} {co : Nat → Int64} {so nu at0 : Nat → Int32} {names : Nat → Int64} {B : Nat → Nat} {f g : Nat → Int32} {cs : cSt} {ms : mTk} (ok : Ok C) (hc : NC C at0) (hn : NM C N nm co so nu (fun k => names (108 + k))) (hx : TX n B f g) (h : TkR n B q kd e v cs ms) (nn : isN B q kd e) (hF : 2000 < F) :
    (∃ i, i < N ∧ X3_indexOf F (nI N) co cs.2.2.2.2 = some (nI i) ∧ X12_isTaken F (nI n) ms.2.1 ms.2.2.1 at0 names g = some (nI 1)) ∨ ((∀ s k, 1 ≤ s → s ≤ 4 → k < cnt C s → nm s k ≠ c32 B q (e - q)) ∧ X3_indexOf F (nI N) co cs.2.2.2.2 = some m1 ∧ X12_isTaken F (nI n) ms.2.1 ms.2.2.1 at0 names g = some (nI 0)) := by
  have h' := h
  obtain ⟨⟨p, tk⟩, h1, h2, h3, h4, h5, h6⟩ := h
  obtain ⟨i1, i2, i3, i4, i5, i6⟩ := m_isNameT (F := F) hx h' nn hF
  have k1 := nn.1
  have en : ms.2.2.1 = nI e := h6.1 (by omega)
  have o0 := ok.1
  have a0 : at0 1980 = nI (C 0 0 0) := hc 0 (by omega)
  have a2 : at0 1982 = nI (C 0 0 2) := hc 2 (by omega)
  have a3 : at0 1983 = nI (C 0 0 3) := hc 3 (by omega)
  have a4 : at0 1984 = nI (C 0 0 4) := hc 4 (by omega)
  have n27 := hn.1
  rw [i2, h5, en]
  have fnd := fun s s1 s4 => both_find (F := F) (s := s) ok hn (by omega) hx i4 i5 nn.2.2 i3 s1 s4 hF
  have f1 := fnd 1 (by omega) (by omega)
  have f2 := fnd 2 (by omega) (by omega)
  have f3 := fnd 3 (by omega) (by omega)
  have f4 := fnd 4 (by omega) (by omega)
  simp only [show nb 1 = 0 from rfl, show nb 2 = 8 from rfl, show nb 3 = 15 from rfl, show nb 4 = 23 from rfl, show cnt C 1 = C 0 0 0 from rfl, show cnt C 2 = C 0 0 2 from rfl, show cnt C 3 = C 0 0 3 from rfl, show cnt C 4 = C 0 0 4 from rfl, Nat.reduceAdd] at f1 f2 f3 f4
  have l116 : (116 : Int32) = nI 116 := rfl
  have l1982 : (1982 : Int32) = nI 1982 := rfl
  have l1983 : (1983 : Int32) = nI 1983 := rfl
  have l1984 : (1984 : Int32) = nI 1984 := rfl
  rcases f1 with ⟨k, i, _, _, x1, x2, x3, _, _⟩ | ⟨z1, x1, _⟩
  · left
    refine ⟨i, x2, x3, ?_⟩
    unfold X12_isTaken X12_isTaken_j75
    simp (disch := omega) only [l_0, l_1, l_2, l_3, l_4, l_5, l_6, l_7, l_8, l_9, l_10, l_11, l_12, l_13, l_14, l_15, l_16, l_17, l_18, l_19, l_20, l_21, l_22, l_23, l_24, l_25, l_26, l_27, l_30, l_31, l_32, l_40, l_48, l_57, l_59, l_60, l_61, l_62, l_64, l_83, l_90, l_97, l_99, l_100, l_108, l_115, l_122, l_123, l_127, l_128, l_131, l_135, l_200, l_255, l_256, l_300, l_487, l_495, l_900, l_999, l_1000, l_1700, l_1792, l_1980, l_2048, l_2475, l_2970, l_3121, l_9999, l_10000, l_11351, l_65536, l_100000, l_1000000, ↓l_m1, l_neg, nI_add, pk_mul, pk_sub, q_leT, q_leF, q_ltT, q_ltF, q_eqT, q_eqF, q_m1e, q_m1e2, q_m1lt, q_m1le, q_m1nl, q_m1nle, q_m1s, q_ix, q_jat, q_jput, q_min1, q_min2, q_max1, q_max2, q_or0, q_0or, q_bs, if_true, if_false, true_and, and_true, false_and, and_false, not_true_eq_false, not_false_eq_true, eq_self, Bool.false_eq_true, q_z0, q_z1, l116, l1982, l1983, l1984, a0, x1]
  rcases f2 with ⟨k, i, y1, _, x2, x3, x4, _, _⟩ | ⟨z2, x2, _⟩
  · left
    refine ⟨i, x3, x4, ?_⟩
    unfold X12_isTaken X12_isTaken_j75
    simp (disch := omega) only [l_0, l_1, l_2, l_3, l_4, l_5, l_6, l_7, l_8, l_9, l_10, l_11, l_12, l_13, l_14, l_15, l_16, l_17, l_18, l_19, l_20, l_21, l_22, l_23, l_24, l_25, l_26, l_27, l_30, l_31, l_32, l_40, l_48, l_57, l_59, l_60, l_61, l_62, l_64, l_83, l_90, l_97, l_99, l_100, l_108, l_115, l_122, l_123, l_127, l_128, l_131, l_135, l_200, l_255, l_256, l_300, l_487, l_495, l_900, l_999, l_1000, l_1700, l_1792, l_1980, l_2048, l_2475, l_2970, l_3121, l_9999, l_10000, l_11351, l_65536, l_100000, l_1000000, ↓l_m1, l_neg, nI_add, pk_mul, pk_sub, q_leT, q_leF, q_ltT, q_ltF, q_eqT, q_eqF, q_m1e, q_m1e2, q_m1lt, q_m1le, q_m1nl, q_m1nle, q_m1s, q_ix, q_jat, q_jput, q_min1, q_min2, q_max1, q_max2, q_or0, q_0or, q_bs, if_true, if_false, true_and, and_true, false_and, and_false, not_true_eq_false, not_false_eq_true, eq_self, Bool.false_eq_true, q_z0, q_z1, l116, l1982, l1983, l1984, a0, a2, x1, x2]
  rcases f3 with ⟨k, i, y1, _, x3, x4, x5, _, _⟩ | ⟨z3, x3, _⟩
  · left
    refine ⟨i, x4, x5, ?_⟩
    unfold X12_isTaken X12_isTaken_j75
    simp (disch := omega) only [l_0, l_1, l_2, l_3, l_4, l_5, l_6, l_7, l_8, l_9, l_10, l_11, l_12, l_13, l_14, l_15, l_16, l_17, l_18, l_19, l_20, l_21, l_22, l_23, l_24, l_25, l_26, l_27, l_30, l_31, l_32, l_40, l_48, l_57, l_59, l_60, l_61, l_62, l_64, l_83, l_90, l_97, l_99, l_100, l_108, l_115, l_122, l_123, l_127, l_128, l_131, l_135, l_200, l_255, l_256, l_300, l_487, l_495, l_900, l_999, l_1000, l_1700, l_1792, l_1980, l_2048, l_2475, l_2970, l_3121, l_9999, l_10000, l_11351, l_65536, l_100000, l_1000000, ↓l_m1, l_neg, nI_add, pk_mul, pk_sub, q_leT, q_leF, q_ltT, q_ltF, q_eqT, q_eqF, q_m1e, q_m1e2, q_m1lt, q_m1le, q_m1nl, q_m1nle, q_m1s, q_ix, q_jat, q_jput, q_min1, q_min2, q_max1, q_max2, q_or0, q_0or, q_bs, if_true, if_false, true_and, and_true, false_and, and_false, not_true_eq_false, not_false_eq_true, eq_self, Bool.false_eq_true, q_z0, q_z1, l116, l1982, l1983, l1984, a0, a2, a3, x1, x2, x3]
  rcases f4 with ⟨k, i, y1, _, x4, x5, x6, _, _⟩ | ⟨z4, x4, w4⟩
  · left
    refine ⟨i, x5, x6, ?_⟩
    unfold X12_isTaken X12_isTaken_j75
    simp (disch := omega) only [l_0, l_1, l_2, l_3, l_4, l_5, l_6, l_7, l_8, l_9, l_10, l_11, l_12, l_13, l_14, l_15, l_16, l_17, l_18, l_19, l_20, l_21, l_22, l_23, l_24, l_25, l_26, l_27, l_30, l_31, l_32, l_40, l_48, l_57, l_59, l_60, l_61, l_62, l_64, l_83, l_90, l_97, l_99, l_100, l_108, l_115, l_122, l_123, l_127, l_128, l_131, l_135, l_200, l_255, l_256, l_300, l_487, l_495, l_900, l_999, l_1000, l_1700, l_1792, l_1980, l_2048, l_2475, l_2970, l_3121, l_9999, l_10000, l_11351, l_65536, l_100000, l_1000000, ↓l_m1, l_neg, nI_add, pk_mul, pk_sub, q_leT, q_leF, q_ltT, q_ltF, q_eqT, q_eqF, q_m1e, q_m1e2, q_m1lt, q_m1le, q_m1nl, q_m1nle, q_m1s, q_ix, q_jat, q_jput, q_min1, q_min2, q_max1, q_max2, q_or0, q_0or, q_bs, if_true, if_false, true_and, and_true, false_and, and_false, not_true_eq_false, not_false_eq_true, eq_self, Bool.false_eq_true, q_z0, q_z1, l116, l1982, l1983, l1984, a0, a2, a3, a4, x1, x2, x3, x4]
  right
  have none : ∀ s k, 1 ≤ s → s ≤ 4 → k < cnt C s → nm s k ≠ c32 B q (e - q) := fun s k s1 s4 hk => by
    rcases (show s = 1 ∨ s = 2 ∨ s = 3 ∨ s = 4 by omega) with rfl | rfl | rfl | rfl
    · exact z1 k hk
    · exact z2 k hk
    · exact z3 k hk
    · exact z4 k hk
  have c3 := w8_lt 8 _ (c32_w8 (B := B) (q := q) (e - q) 8 nn.2.2 (fun i hi => i3 _ (by omega) (by omega))).1
  refine ⟨none, ?_, ?_⟩
  · rcases c_index (F := F) hn c3 hF with ⟨s, k, i, t1, t4, tk', tw, _⟩ | ⟨_, t⟩
    · exact absurd tw (none s k t1 t4 tk')
    · exact t
  · unfold X12_isTaken X12_isTaken_j75
    simp (disch := omega) only [l_0, l_1, l_2, l_3, l_4, l_5, l_6, l_7, l_8, l_9, l_10, l_11, l_12, l_13, l_14, l_15, l_16, l_17, l_18, l_19, l_20, l_21, l_22, l_23, l_24, l_25, l_26, l_27, l_30, l_31, l_32, l_40, l_48, l_57, l_59, l_60, l_61, l_62, l_64, l_83, l_90, l_97, l_99, l_100, l_108, l_115, l_122, l_123, l_127, l_128, l_131, l_135, l_200, l_255, l_256, l_300, l_487, l_495, l_900, l_999, l_1000, l_1700, l_1792, l_1980, l_2048, l_2475, l_2970, l_3121, l_9999, l_10000, l_11351, l_65536, l_100000, l_1000000, ↓l_m1, l_neg, nI_add, pk_mul, pk_sub, q_leT, q_leF, q_ltT, q_ltF, q_eqT, q_eqF, q_m1e, q_m1e2, q_m1lt, q_m1le, q_m1nl, q_m1nle, q_m1s, q_ix, q_jat, q_jput, q_min1, q_min2, q_max1, q_max2, q_or0, q_0or, q_bs, if_true, if_false, true_and, and_true, false_and, and_false, not_true_eq_false, not_false_eq_true, eq_self, Bool.false_eq_true, q_z0, q_z1, l116, l1982, l1983, l1984, a0, a2, a3, a4, x1, x2, x3, x4]
/-- a PART's word and a new name behind it; mi, most, s: of which kind -/
theorem s_new {F n q e v N mi most s : Nat} {C : Cy} {nm : Nat → Nat → Nat} {co : Nat → Int64} {so nu at0 : Nat → Int32} {names : Nat → Int64} {B : Nat → Nat} {f g : Nat → Int32} {cs : cSt} {ms : mTk} (fp mfp : Int32) (ok : Ok C) (hc : NC C at0) (hn : NM C N nm co so nu (fun k => names (108 + k))) (hx : TX n B f g) (h : TkR n B q 1 e v cs ms) (hmi : C 0 0 mi = cnt C s) (hm5 : mi < 5) (hmost : most < 100) (s1 : 1 ≤ s) (s4 : s ≤ 4) (hF : 2000 < F) :
    (C 0 0 mi ≠ most ∧ ∃ (q' kd' e' v' : Nat) (cs1 cs' : cSt) (ms' : mTk) (w : Nat), X1_takeFirstWord F (nI n) cs.1 cs.2.1 cs.2.2.1 cs.2.2.2.1 cs.2.2.2.2 (nI 0) fp f (nI 0) = some (cs1.1, cs1.2.1, cs1.2.2.1, cs1.2.2.2.1, cs1.2.2.2.2, nI 0, fp) ∧ X8_takeNewName F (nI n) cs1.1 cs1.2.1 cs1.2.2.1 cs1.2.2.2.1 cs1.2.2.2.2 (nI 0) fp f (nI N) co = some (lN w, cs'.1, cs'.2.1, cs'.2.2.1, cs'.2.2.2.1, cs'.2.2.2.2, nI 0, fp) ∧
      X12_newOne F (nI n) ms.1 ms.2.1 ms.2.2.1 ms.2.2.2 mfp (nI 0) at0 names g (nI mi) (nI most) (nI (nb s)) = some (nI 1, ms'.1, ms'.2.1, ms'.2.2.1, ms'.2.2.2, mfp, nI 0, vp_updL names (108 + (nb s + cnt C s)) (lN (c8 8 w))) ∧ TkR n B q' kd' e' v' cs' ms' ∧ q < q' ∧ w ≠ 0 ∧ w8 8 w ∧ ∀ s k, 1 ≤ s → s ≤ 4 → k < cnt C s → nm s k ≠ w) ∨
    (C 0 0 mi ≠ most ∧ ∃ (cs1 cs2 : cSt) (ms2 : mTk) (k p : Nat), 1 ≤ k ∧ k ≤ 7 ∧ X1_takeFirstWord F (nI n) cs.1 cs.2.1 cs.2.2.1 cs.2.2.2.1 cs.2.2.2.2 (nI 0) fp f (nI 0) = some (cs1.1, cs1.2.1, cs1.2.2.1, cs1.2.2.2.1, cs1.2.2.2.2, nI 0, fp) ∧ X8_takeNewName F (nI n) cs1.1 cs1.2.1 cs1.2.2.1 cs1.2.2.2.1 cs1.2.2.2.2 (nI 0) fp f (nI N) co = some (lN 0, cs2.1, cs2.2.1, cs2.2.2.1, cs2.2.2.2.1, cs2.2.2.2.2, nI k, nI p) ∧ X12_newOne F (nI n) ms.1 ms.2.1 ms.2.2.1 ms.2.2.2 mfp (nI 0) at0 names g (nI mi) (nI most) (nI (nb s)) = some (nI 0, ms2.1, ms2.2.1, ms2.2.2.1, ms2.2.2.2, nI p, nI k, names)) ∨
    (C 0 0 mi = most ∧ X1_takeFirstWord F (nI n) cs.1 cs.2.1 cs.2.2.1 cs.2.2.2.1 cs.2.2.2.2 (nI 0) fp f (nI 1) = some (cs.1, cs.2.1, cs.2.2.1, cs.2.2.2.1, cs.2.2.2.2, nI 6, nI q) ∧ X12_newOne F (nI n) ms.1 ms.2.1 ms.2.2.1 ms.2.2.2 mfp (nI 0) at0 names g (nI mi) (nI most) (nI (nb s)) = some (nI 0, ms.1, ms.2.1, ms.2.2.1, ms.2.2.2, nI q, nI 6, names)) := by
  have b := tk_bnd h
  have h' := h
  obtain ⟨⟨p, tk⟩, h1, h2, h3, h4, h5, h6⟩ := h
  have am := hc mi hm5
  have cl := cnt_le ok s1 s4
  by_cases full : C 0 0 mi = most
  · right; right
    have fl := q_fails (fp := mfp) (k := 6) h4 h5 b.2.1 (by omega)
    rw [show fk 1 6 = 6 from rfl] at fl
    have ff := q_fail (fp := fp) (k := 6) h1
    refine ⟨full, ?_, ?_⟩
    · unfold X1_takeFirstWord
      simp (disch := omega) only [l_0, l_1, l_2, l_3, l_4, l_5, l_6, l_7, l_8, l_9, l_10, l_11, l_12, l_13, l_14, l_15, l_16, l_17, l_18, l_19, l_20, l_21, l_22, l_23, l_24, l_25, l_26, l_27, l_30, l_31, l_32, l_40, l_48, l_57, l_59, l_60, l_61, l_62, l_64, l_83, l_90, l_97, l_99, l_100, l_108, l_115, l_122, l_123, l_127, l_128, l_131, l_135, l_200, l_255, l_256, l_300, l_487, l_495, l_900, l_999, l_1000, l_1700, l_1792, l_1980, l_2048, l_2475, l_2970, l_3121, l_9999, l_10000, l_11351, l_65536, l_100000, l_1000000, ↓l_m1, l_neg, nI_add, pk_mul, pk_sub, q_leT, q_leF, q_ltT, q_ltF, q_eqT, q_eqF, q_m1e, q_m1e2, q_m1lt, q_m1le, q_m1nl, q_m1nle, q_m1s, q_ix, q_jat, q_jput, q_min1, q_min2, q_max1, q_max2, q_or0, q_0or, q_bs, if_true, if_false, true_and, and_true, false_and, and_false, not_true_eq_false, not_false_eq_true, eq_self, Bool.false_eq_true, q_z0, q_z1, ff]
    · unfold X12_newOne
      simp (disch := omega) only [l_0, l_1, l_2, l_3, l_4, l_5, l_6, l_7, l_8, l_9, l_10, l_11, l_12, l_13, l_14, l_15, l_16, l_17, l_18, l_19, l_20, l_21, l_22, l_23, l_24, l_25, l_26, l_27, l_30, l_31, l_32, l_40, l_48, l_57, l_59, l_60, l_61, l_62, l_64, l_83, l_90, l_97, l_99, l_100, l_108, l_115, l_122, l_123, l_127, l_128, l_131, l_135, l_200, l_255, l_256, l_300, l_487, l_495, l_900, l_999, l_1000, l_1700, l_1792, l_1980, l_2048, l_2475, l_2970, l_3121, l_9999, l_10000, l_11351, l_65536, l_100000, l_1000000, ↓l_m1, l_neg, nI_add, pk_mul, pk_sub, q_leT, q_leF, q_ltT, q_ltF, q_eqT, q_eqF, q_m1e, q_m1e2, q_m1lt, q_m1le, q_m1nl, q_m1nle, q_m1s, q_ix, q_jat, q_jput, q_min1, q_min2, q_max1, q_max2, q_or0, q_0or, q_bs, if_true, if_false, true_and, and_true, false_and, and_false, not_true_eq_false, not_false_eq_true, eq_self, Bool.false_eq_true, q_z0, q_z1, am, fl]
  obtain ⟨q1, kd1, e1, v1, cs1, ms1, a1, a2, a3, a4⟩ := s_adv (F := F) hx h' (by omega) hF
  have b1 := tk_bnd a3
  have qe := b.2.2.2.1 (by omega) (by omega)
  have a3' := a3
  obtain ⟨⟨p1, tk1⟩, g1, g2, g3, g4, g5, g6⟩ := a3
  have fw : X1_takeFirstWord F (nI n) cs.1 cs.2.1 cs.2.2.1 cs.2.2.2.1 cs.2.2.2.2 (nI 0) fp f (nI 0) = some (cs1.1, cs1.2.1, cs1.2.2.1, cs1.2.2.2.1, cs1.2.2.2.2, nI 0, fp) := by
    unfold X1_takeFirstWord
    simp (disch := omega) only [l_0, l_1, l_2, l_3, l_4, l_5, l_6, l_7, l_8, l_9, l_10, l_11, l_12, l_13, l_14, l_15, l_16, l_17, l_18, l_19, l_20, l_21, l_22, l_23, l_24, l_25, l_26, l_27, l_30, l_31, l_32, l_40, l_48, l_57, l_59, l_60, l_61, l_62, l_64, l_83, l_90, l_97, l_99, l_100, l_108, l_115, l_122, l_123, l_127, l_128, l_131, l_135, l_200, l_255, l_256, l_300, l_487, l_495, l_900, l_999, l_1000, l_1700, l_1792, l_1980, l_2048, l_2475, l_2970, l_3121, l_9999, l_10000, l_11351, l_65536, l_100000, l_1000000, ↓l_m1, l_neg, nI_add, pk_mul, pk_sub, q_leT, q_leF, q_ltT, q_ltF, q_eqT, q_eqF, q_m1e, q_m1e2, q_m1lt, q_m1le, q_m1nl, q_m1nle, q_m1s, q_ix, q_jat, q_jput, q_min1, q_min2, q_max1, q_max2, q_or0, q_0or, q_bs, if_true, if_false, true_and, and_true, false_and, and_false, not_true_eq_false, not_false_eq_true, eq_self, Bool.false_eq_true, q_z0, q_z1, a1]
  by_cases nn : isN B q1 kd1 e1
  · obtain ⟨i1, i2, i3, i4, i5, i6z⟩ := m_isNameT (F := F) hx a3' nn hF
    have i6 : (lg_cmp cs1.2.2.2.2 0 = nI 0) = False := i6z
    have kd11 := nn.1
    have en1 : ms1.2.2.1 = nI e1 := g6.1 (by omega)
    rcases m_taken (F := F) ok hc hn hx a3' nn hF with ⟨i, t1, t2, t3⟩ | ⟨t1, t2, t3⟩
    · right; left
      have fl := q_fails (fp := mfp) (k := 3) g4 g5 b1.2.1 (by omega)
      rw [kd11, show fk 1 3 = 3 from rfl] at fl
      have ff := q_fail (fp := fp) (k := 3) g1
      have n27 := hn.1
      refine ⟨full, cs1, cs1, ms1, 3, q1, by omega, by omega, fw, ?_, ?_⟩
      · unfold X8_takeNewName
        simp (disch := omega) only [l_0, l_1, l_2, l_3, l_4, l_5, l_6, l_7, l_8, l_9, l_10, l_11, l_12, l_13, l_14, l_15, l_16, l_17, l_18, l_19, l_20, l_21, l_22, l_23, l_24, l_25, l_26, l_27, l_30, l_31, l_32, l_40, l_48, l_57, l_59, l_60, l_61, l_62, l_64, l_83, l_90, l_97, l_99, l_100, l_108, l_115, l_122, l_123, l_127, l_128, l_131, l_135, l_200, l_255, l_256, l_300, l_487, l_495, l_900, l_999, l_1000, l_1700, l_1792, l_1980, l_2048, l_2475, l_2970, l_3121, l_9999, l_10000, l_11351, l_65536, l_100000, l_1000000, ↓l_m1, l_neg, nI_add, pk_mul, pk_sub, q_leT, q_leF, q_ltT, q_ltF, q_eqT, q_eqF, q_m1e, q_m1e2, q_m1lt, q_m1le, q_m1nl, q_m1nle, q_m1s, q_ix, q_jat, q_jput, q_min1, q_min2, q_max1, q_max2, q_or0, q_0or, q_bs, if_true, if_false, true_and, and_true, false_and, and_false, not_true_eq_false, not_false_eq_true, eq_self, Bool.false_eq_true, q_z0, q_z1, i6, t2, ff]
        rfl
      · unfold X12_newOne
        simp (disch := omega) only [l_0, l_1, l_2, l_3, l_4, l_5, l_6, l_7, l_8, l_9, l_10, l_11, l_12, l_13, l_14, l_15, l_16, l_17, l_18, l_19, l_20, l_21, l_22, l_23, l_24, l_25, l_26, l_27, l_30, l_31, l_32, l_40, l_48, l_57, l_59, l_60, l_61, l_62, l_64, l_83, l_90, l_97, l_99, l_100, l_108, l_115, l_122, l_123, l_127, l_128, l_131, l_135, l_200, l_255, l_256, l_300, l_487, l_495, l_900, l_999, l_1000, l_1700, l_1792, l_1980, l_2048, l_2475, l_2970, l_3121, l_9999, l_10000, l_11351, l_65536, l_100000, l_1000000, ↓l_m1, l_neg, nI_add, pk_mul, pk_sub, q_leT, q_leF, q_ltT, q_ltF, q_eqT, q_eqF, q_m1e, q_m1e2, q_m1lt, q_m1le, q_m1nl, q_m1nle, q_m1s, q_ix, q_jat, q_jput, q_min1, q_min2, q_max1, q_max2, q_or0, q_0or, q_bs, if_true, if_false, true_and, and_true, false_and, and_false, not_true_eq_false, not_false_eq_true, eq_self, Bool.false_eq_true, q_z0, q_z1, am, a2, i1, t3, fl]
    · left
      obtain ⟨q2, kd2, e2, v2, cs2, ms2, d1, d2, d3, d4⟩ := s_adv (F := F) hx a3' (by omega) hF
      have w8' := c32_w8 (B := B) (q := q1) (e1 - q1) 8 nn.2.2 (fun i hi => i3 _ (by omega) (by omega))
      have nh := m_nameHere (F := F) hx (show q1 ≤ e1 by omega) i5 nn.2.2 hF
      rw [← g5, ← en1] at nh
      have jl := jputL_nI names (k := 108 + (nb s + cnt C s)) (lN (c256 B q1 (e1 - q1))) (by omega)
      refine ⟨full, q2, kd2, e2, v2, cs1, cs2, ms2, c32 B q1 (e1 - q1), fw, ?_, ?_, d3, by omega, c32_pos (by omega) (fun i hi => i3 _ (by omega) (by omega)), w8'.1, t1⟩
      · unfold X8_takeNewName
        simp (disch := omega) only [l_0, l_1, l_2, l_3, l_4, l_5, l_6, l_7, l_8, l_9, l_10, l_11, l_12, l_13, l_14, l_15, l_16, l_17, l_18, l_19, l_20, l_21, l_22, l_23, l_24, l_25, l_26, l_27, l_30, l_31, l_32, l_40, l_48, l_57, l_59, l_60, l_61, l_62, l_64, l_83, l_90, l_97, l_99, l_100, l_108, l_115, l_122, l_123, l_127, l_128, l_131, l_135, l_200, l_255, l_256, l_300, l_487, l_495, l_900, l_999, l_1000, l_1700, l_1792, l_1980, l_2048, l_2475, l_2970, l_3121, l_9999, l_10000, l_11351, l_65536, l_100000, l_1000000, ↓l_m1, l_neg, nI_add, pk_mul, pk_sub, q_leT, q_leF, q_ltT, q_ltF, q_eqT, q_eqF, q_m1e, q_m1e2, q_m1lt, q_m1le, q_m1nl, q_m1nle, q_m1s, q_ix, q_jat, q_jput, q_min1, q_min2, q_max1, q_max2, q_or0, q_0or, q_bs, if_true, if_false, true_and, and_true, false_and, and_false, not_true_eq_false, not_false_eq_true, eq_self, Bool.false_eq_true, q_z0, q_z1, i6, t2, d1]
        rw [i2]
      · rw [w8'.2]
        unfold X12_newOne
        rw [hmi] at am full
        simp (disch := omega) only [l_0, l_1, l_2, l_3, l_4, l_5, l_6, l_7, l_8, l_9, l_10, l_11, l_12, l_13, l_14, l_15, l_16, l_17, l_18, l_19, l_20, l_21, l_22, l_23, l_24, l_25, l_26, l_27, l_30, l_31, l_32, l_40, l_48, l_57, l_59, l_60, l_61, l_62, l_64, l_83, l_90, l_97, l_99, l_100, l_108, l_115, l_122, l_123, l_127, l_128, l_131, l_135, l_200, l_255, l_256, l_300, l_487, l_495, l_900, l_999, l_1000, l_1700, l_1792, l_1980, l_2048, l_2475, l_2970, l_3121, l_9999, l_10000, l_11351, l_65536, l_100000, l_1000000, ↓l_m1, l_neg, nI_add, pk_mul, pk_sub, q_leT, q_leF, q_ltT, q_ltF, q_eqT, q_eqF, q_m1e, q_m1e2, q_m1lt, q_m1le, q_m1nl, q_m1nle, q_m1s, q_ix, q_jat, q_jput, q_min1, q_min2, q_max1, q_max2, q_or0, q_0or, q_bs, if_true, if_false, true_and, and_true, false_and, and_false, not_true_eq_false, not_false_eq_true, eq_self, Bool.false_eq_true, q_z0, q_z1, am, a2, i1, t3, nh, d2, jl, Nat.add_assoc]
  · right; left
    obtain ⟨i1, i2z⟩ := m_isNameF (F := F) hx a3' nn hF
    have i2 : (lg_cmp cs1.2.2.2.2 0 = nI 0) = True := i2z
    have fl := q_fails (fp := mfp) (k := 2) g4 g5 b1.2.1 (by omega)
    have fh := q_here (fp := fp) g1 g2 b1.2.1
    have f7 := fk_b (kd := kd1) (k := 2) (by omega) (by omega)
    have f71 := f7.1
    have f72 := f7.2
    refine ⟨full, cs1, cs1, ms1, fk kd1 2, q1, f71, f72, fw, ?_, ?_⟩
    · unfold X8_takeNewName
      simp (disch := omega) only [l_0, l_1, l_2, l_3, l_4, l_5, l_6, l_7, l_8, l_9, l_10, l_11, l_12, l_13, l_14, l_15, l_16, l_17, l_18, l_19, l_20, l_21, l_22, l_23, l_24, l_25, l_26, l_27, l_30, l_31, l_32, l_40, l_48, l_57, l_59, l_60, l_61, l_62, l_64, l_83, l_90, l_97, l_99, l_100, l_108, l_115, l_122, l_123, l_127, l_128, l_131, l_135, l_200, l_255, l_256, l_300, l_487, l_495, l_900, l_999, l_1000, l_1700, l_1792, l_1980, l_2048, l_2475, l_2970, l_3121, l_9999, l_10000, l_11351, l_65536, l_100000, l_1000000, ↓l_m1, l_neg, nI_add, pk_mul, pk_sub, q_leT, q_leF, q_ltT, q_ltF, q_eqT, q_eqF, q_m1e, q_m1e2, q_m1lt, q_m1le, q_m1nl, q_m1nle, q_m1s, q_ix, q_jat, q_jput, q_min1, q_min2, q_max1, q_max2, q_or0, q_0or, q_bs, if_true, if_false, true_and, and_true, false_and, and_false, not_true_eq_false, not_false_eq_true, eq_self, Bool.false_eq_true, q_z0, q_z1, i2, fh]
      rfl
    · unfold X12_newOne
      simp (disch := omega) only [l_0, l_1, l_2, l_3, l_4, l_5, l_6, l_7, l_8, l_9, l_10, l_11, l_12, l_13, l_14, l_15, l_16, l_17, l_18, l_19, l_20, l_21, l_22, l_23, l_24, l_25, l_26, l_27, l_30, l_31, l_32, l_40, l_48, l_57, l_59, l_60, l_61, l_62, l_64, l_83, l_90, l_97, l_99, l_100, l_108, l_115, l_122, l_123, l_127, l_128, l_131, l_135, l_200, l_255, l_256, l_300, l_487, l_495, l_900, l_999, l_1000, l_1700, l_1792, l_1980, l_2048, l_2475, l_2970, l_3121, l_9999, l_10000, l_11351, l_65536, l_100000, l_1000000, ↓l_m1, l_neg, nI_add, pk_mul, pk_sub, q_leT, q_leF, q_ltT, q_ltF, q_eqT, q_eqF, q_m1e, q_m1e2, q_m1lt, q_m1le, q_m1nl, q_m1nle, q_m1s, q_ix, q_jat, q_jput, q_min1, q_min2, q_max1, q_max2, q_or0, q_0or, q_bs, if_true, if_false, true_and, and_true, false_and, and_false, not_true_eq_false, not_false_eq_true, eq_self, Bool.false_eq_true, q_z0, q_z1, am, a2, i1, fl]
