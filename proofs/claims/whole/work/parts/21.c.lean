/-! ===== PURE 21.c: compared; names of the city ===== -/
theorem s_cmp {F n q kd e v : Nat} {B : Nat → Nat} {f g : Nat → Int32} {cs : cSt} {ms : mTk} (fp mfp : Int32) (hx : TX n B f g) (h : TkR n B q kd e v cs ms) (hF : 2000 < F) :
    (∃ (q' kd' e' v' : Nat) (cs' : cSt) (ms' : mTk), (v = 60 ∨ v = 61 ∨ v = 62) ∧ X8_takeCompare F (nI n) cs.1 cs.2.1 cs.2.2.1 cs.2.2.2.1 cs.2.2.2.2 (nI 0) fp f = some (nI v, cs'.1, cs'.2.1, cs'.2.2.1, cs'.2.2.2.1, cs'.2.2.2.2, nI 0, fp) ∧ ms.2.2.2 = nI v ∧ (∀ x, x < 100 → X12_isSign ms.1 ms.2.2.2 (nI x) = some (nI (if v = x then 1 else 0))) ∧ X12_ahead F (nI n) ms.1 ms.2.1 ms.2.2.1 ms.2.2.2 g = some ms' ∧ TkR n B q' kd' e' v' cs' ms' ∧ q < q') ∨
    (∃ k, 1 ≤ k ∧ k ≤ 7 ∧ X8_takeCompare F (nI n) cs.1 cs.2.1 cs.2.2.1 cs.2.2.2.1 cs.2.2.2.2 (nI 0) fp f = some (nI 0, cs.1, cs.2.1, cs.2.2.1, cs.2.2.2.1, cs.2.2.2.2, nI k, nI q) ∧ (∀ x, x = 60 ∨ x = 61 ∨ x = 62 → X12_isSign ms.1 ms.2.2.2 (nI x) = some (nI 0)) ∧ X12_fails ms.1 ms.2.1 mfp (nI 0) (nI 2) = some (nI 0, nI q, nI k)) := by
  have b := tk_bnd h
  have h' := h
  obtain ⟨⟨p, tk⟩, h1, h2, h3, h4, h5, h6⟩ := h
  have fl := q_fails (fp := mfp) (k := 2) h4 h5 b.2.1 (by omega)
  have fh := q_here (fp := fp) h1 h2 b.2.1
  have f7 := fk_b (kd := kd) (k := 2) (by omega) (by omega)
  by_cases k3 : kd = 3
  · subst k3
    have v1 := h3.2.2.1 (Or.inr rfl)
    have v2 := h6.2 (Or.inr rfl)
    have v4 : v = 59 ∨ v = 60 ∨ v = 61 ∨ v = 62 := by
      rcases tk.2.2 with z | z | z | z | z
      · omega
      · omega
      · omega
      · exact z.2.2.2
      · omega
    have sg : ∀ x, x < 100 → X12_isSign ms.1 ms.2.2.2 (nI x) = some (nI (if v = x then 1 else 0)) := fun x hx => by
      unfold X12_isSign X12_isSign_j20
      rw [h4, v2, show mtk 3 = 4 from rfl]
      by_cases y : v = x
      · rw [if_pos y]
        simp (disch := omega) only [l_0, l_1, l_2, l_3, l_4, l_5, l_6, l_7, l_8, l_9, l_10, l_11, l_12, l_13, l_14, l_15, l_16, l_17, l_18, l_19, l_20, l_21, l_22, l_23, l_24, l_25, l_26, l_27, l_30, l_31, l_32, l_40, l_48, l_57, l_59, l_60, l_61, l_62, l_64, l_83, l_90, l_97, l_99, l_100, l_108, l_115, l_122, l_123, l_127, l_128, l_131, l_135, l_200, l_255, l_256, l_300, l_487, l_495, l_900, l_999, l_1000, l_1700, l_1792, l_1980, l_2048, l_2475, l_2970, l_3121, l_9999, l_10000, l_11351, l_65536, l_100000, l_1000000, ↓l_m1, l_neg, nI_add, pk_mul, pk_sub, q_leT, q_leF, q_ltT, q_ltF, q_eqT, q_eqF, q_m1e, q_m1e2, q_m1lt, q_m1le, q_m1nl, q_m1nle, q_m1s, q_ix, q_jat, q_jput, q_min1, q_min2, q_max1, q_max2, q_or0, q_0or, q_bs, if_true, if_false, true_and, and_true, false_and, and_false, not_true_eq_false, not_false_eq_true, eq_self, Bool.false_eq_true, q_z0, q_z1]
      · rw [if_neg y]
        simp (disch := omega) only [l_0, l_1, l_2, l_3, l_4, l_5, l_6, l_7, l_8, l_9, l_10, l_11, l_12, l_13, l_14, l_15, l_16, l_17, l_18, l_19, l_20, l_21, l_22, l_23, l_24, l_25, l_26, l_27, l_30, l_31, l_32, l_40, l_48, l_57, l_59, l_60, l_61, l_62, l_64, l_83, l_90, l_97, l_99, l_100, l_108, l_115, l_122, l_123, l_127, l_128, l_131, l_135, l_200, l_255, l_256, l_300, l_487, l_495, l_900, l_999, l_1000, l_1700, l_1792, l_1980, l_2048, l_2475, l_2970, l_3121, l_9999, l_10000, l_11351, l_65536, l_100000, l_1000000, ↓l_m1, l_neg, nI_add, pk_mul, pk_sub, q_leT, q_leF, q_ltT, q_ltF, q_eqT, q_eqF, q_m1e, q_m1e2, q_m1lt, q_m1le, q_m1nl, q_m1nle, q_m1s, q_ix, q_jat, q_jput, q_min1, q_min2, q_max1, q_max2, q_or0, q_0or, q_bs, if_true, if_false, true_and, and_true, false_and, and_false, not_true_eq_false, not_false_eq_true, eq_self, Bool.false_eq_true, q_z0, q_z1]
    by_cases z : v = 59
    · right
      refine ⟨fk 3 2, f7.1, f7.2, ?_, fun x hx => ?_, fl⟩
      · unfold X8_takeCompare X8_takeCompare_j26
        rw [h2] at fh ⊢
        rw [v1]
        simp (disch := omega) only [l_0, l_1, l_2, l_3, l_4, l_5, l_6, l_7, l_8, l_9, l_10, l_11, l_12, l_13, l_14, l_15, l_16, l_17, l_18, l_19, l_20, l_21, l_22, l_23, l_24, l_25, l_26, l_27, l_30, l_31, l_32, l_40, l_48, l_57, l_59, l_60, l_61, l_62, l_64, l_83, l_90, l_97, l_99, l_100, l_108, l_115, l_122, l_123, l_127, l_128, l_131, l_135, l_200, l_255, l_256, l_300, l_487, l_495, l_900, l_999, l_1000, l_1700, l_1792, l_1980, l_2048, l_2475, l_2970, l_3121, l_9999, l_10000, l_11351, l_65536, l_100000, l_1000000, ↓l_m1, l_neg, nI_add, pk_mul, pk_sub, q_leT, q_leF, q_ltT, q_ltF, q_eqT, q_eqF, q_m1e, q_m1e2, q_m1lt, q_m1le, q_m1nl, q_m1nle, q_m1s, q_ix, q_jat, q_jput, q_min1, q_min2, q_max1, q_max2, q_or0, q_0or, q_bs, if_true, if_false, true_and, and_true, false_and, and_false, not_true_eq_false, not_false_eq_true, eq_self, Bool.false_eq_true, q_z0, q_z1, fh]
      · rw [sg x (by omega), if_neg (by omega)]
    · left
      obtain ⟨q', kd', e', v', cs', ms', a1, a2, a3, a4⟩ := s_adv (F := F) hx h' (by omega) hF
      have qe := b.2.2.2.1 (by omega) (by omega)
      refine ⟨q', kd', e', v', cs', ms', by omega, ?_, v2, sg, a2, a3, by omega⟩
      unfold X8_takeCompare
      rw [h2, v1] at a1 ⊢
      simp (disch := omega) only [l_0, l_1, l_2, l_3, l_4, l_5, l_6, l_7, l_8, l_9, l_10, l_11, l_12, l_13, l_14, l_15, l_16, l_17, l_18, l_19, l_20, l_21, l_22, l_23, l_24, l_25, l_26, l_27, l_30, l_31, l_32, l_40, l_48, l_57, l_59, l_60, l_61, l_62, l_64, l_83, l_90, l_97, l_99, l_100, l_108, l_115, l_122, l_123, l_127, l_128, l_131, l_135, l_200, l_255, l_256, l_300, l_487, l_495, l_900, l_999, l_1000, l_1700, l_1792, l_1980, l_2048, l_2475, l_2970, l_3121, l_9999, l_10000, l_11351, l_65536, l_100000, l_1000000, ↓l_m1, l_neg, nI_add, pk_mul, pk_sub, q_leT, q_leF, q_ltT, q_ltF, q_eqT, q_eqF, q_m1e, q_m1e2, q_m1lt, q_m1le, q_m1nl, q_m1nle, q_m1s, q_ix, q_jat, q_jput, q_min1, q_min2, q_max1, q_max2, q_or0, q_0or, q_bs, if_true, if_false, true_and, and_true, false_and, and_false, not_true_eq_false, not_false_eq_true, eq_self, Bool.false_eq_true, q_z0, q_z1, a1]
  · right
    refine ⟨fk kd 2, f7.1, f7.2, ?_, fun x hx => ?_, fl⟩
    · unfold X8_takeCompare X8_takeCompare_j26
      rw [h2] at fh ⊢
      simp (disch := omega) only [l_0, l_1, l_2, l_3, l_4, l_5, l_6, l_7, l_8, l_9, l_10, l_11, l_12, l_13, l_14, l_15, l_16, l_17, l_18, l_19, l_20, l_21, l_22, l_23, l_24, l_25, l_26, l_27, l_30, l_31, l_32, l_40, l_48, l_57, l_59, l_60, l_61, l_62, l_64, l_83, l_90, l_97, l_99, l_100, l_108, l_115, l_122, l_123, l_127, l_128, l_131, l_135, l_200, l_255, l_256, l_300, l_487, l_495, l_900, l_999, l_1000, l_1700, l_1792, l_1980, l_2048, l_2475, l_2970, l_3121, l_9999, l_10000, l_11351, l_65536, l_100000, l_1000000, ↓l_m1, l_neg, nI_add, pk_mul, pk_sub, q_leT, q_leF, q_ltT, q_ltF, q_eqT, q_eqF, q_m1e, q_m1e2, q_m1lt, q_m1le, q_m1nl, q_m1nle, q_m1s, q_ix, q_jat, q_jput, q_min1, q_min2, q_max1, q_max2, q_or0, q_0or, q_bs, if_true, if_false, true_and, and_true, false_and, and_false, not_true_eq_false, not_false_eq_true, eq_self, Bool.false_eq_true, q_z0, q_z1, fh]
    · have m4 : mtk kd ≠ 4 ∧ mtk kd < 10 := by
        unfold mtk
        rcases (show kd = 0 ∨ kd = 1 ∨ kd = 2 ∨ kd = 4 by omega) with rfl | rfl | rfl | rfl <;> decide
      have m41 := m4.1
      have m42 := m4.2
      unfold X12_isSign X12_isSign_j20
      rw [h4]
      simp (disch := omega) only [l_0, l_1, l_2, l_3, l_4, l_5, l_6, l_7, l_8, l_9, l_10, l_11, l_12, l_13, l_14, l_15, l_16, l_17, l_18, l_19, l_20, l_21, l_22, l_23, l_24, l_25, l_26, l_27, l_30, l_31, l_32, l_40, l_48, l_57, l_59, l_60, l_61, l_62, l_64, l_83, l_90, l_97, l_99, l_100, l_108, l_115, l_122, l_123, l_127, l_128, l_131, l_135, l_200, l_255, l_256, l_300, l_487, l_495, l_900, l_999, l_1000, l_1700, l_1792, l_1980, l_2048, l_2475, l_2970, l_3121, l_9999, l_10000, l_11351, l_65536, l_100000, l_1000000, ↓l_m1, l_neg, nI_add, pk_mul, pk_sub, q_leT, q_leF, q_ltT, q_ltF, q_eqT, q_eqF, q_m1e, q_m1e2, q_m1lt, q_m1le, q_m1nl, q_m1nle, q_m1s, q_ix, q_jat, q_jput, q_min1, q_min2, q_max1, q_max2, q_or0, q_0or, q_bs, if_true, if_false, true_and, and_true, false_and, and_false, not_true_eq_false, not_false_eq_true, eq_self, Bool.false_eq_true, q_z0, q_z1]
/-- a name of the city, as the model asks for it -/
def CnR (F n q kd e v N s to : Nat) (C : Cy) (co : Nat → Int64) (so nu at0 f : Nat → Int32) (B : Nat → Nat) (cs : cSt) (ms : mTk) (fp mfp : Int32) (x : Option (Int32 × Int32 × Int32 × Int32 × Int32 × Int32 × Int32 × (Nat → Int32))) : Prop :=
    (∃ (k q' kd' e' v' : Nat) (cs' : cSt) (ms' : mTk), k < cnt C s ∧ X8_takeName F (nI n) cs.1 cs.2.1 cs.2.2.1 cs.2.2.2.1 cs.2.2.2.2 (nI 0) fp f (nI N) co so nu (nI s) = some (nI k, cs'.1, cs'.2.1, cs'.2.2.1, cs'.2.2.2.1, cs'.2.2.2.2, nI 0, fp) ∧ x = some (nI 1, ms'.1, ms'.2.1, ms'.2.2.1, ms'.2.2.2, mfp, nI 0, upd at0 to (nI k)) ∧ TkR n B q' kd' e' v' cs' ms' ∧ q < q') ∨
    (∃ (k : Nat) (at1 : Nat → Int32), 1 ≤ k ∧ k ≤ 7 ∧ X8_takeName F (nI n) cs.1 cs.2.1 cs.2.2.1 cs.2.2.2.1 cs.2.2.2.2 (nI 0) fp f (nI N) co so nu (nI s) = some (nI 0, cs.1, cs.2.1, cs.2.2.1, cs.2.2.2.1, cs.2.2.2.2, nI k, nI q) ∧ x = some (nI 0, ms.1, ms.2.1, ms.2.2.1, ms.2.2.2, nI q, nI k, at1) ∧ ∀ j, j < 1980 → at1 j = at0 j)
section CN
variable {F n q kd e v N to : Nat} {C : Cy} {nm : Nat → Nat → Nat} {co : Nat → Int64} {so nu at0 : Nat → Int32} {names : Nat → Int64} {B : Nat → Nat} {f g : Nat → Int32} {cs : cSt} {ms : mTk} (fp mfp : Int32)
theorem s_nm {s : Nat} (ok : Ok C) (hn : NM C N nm co so nu (fun k => names (0 + k))) (hx : TX n B f g) (h : TkR n B q kd e v cs ms) (s1 : 1 ≤ s) (s4 : s ≤ 4) (hto : to < 3097) (ht2 : 1980 ≤ to) (hF : 2000 < F) : CnR F n q kd e v N s to C co so nu at0 f B cs ms fp mfp (X12_oldOne F (nI n) ms.1 ms.2.1 ms.2.2.1 ms.2.2.2 mfp (nI 0) at0 names g (nI (nb s)) (nI (cnt C s)) (nI to)) := by
  rcases s_old (F := F) (s := s) (off := 0) (to := to) (at0 := at0) (names := names) fp mfp ok hn (by omega) hx h s1 s4 hto ht2 hF with ⟨k, q', kd', e', v', cs', ms', a1, a2, a3, a4, a5⟩ | ⟨k, at1, a1, a2, a3, a4, a5⟩
  · rw [Nat.zero_add] at a3
    exact Or.inl ⟨k, q', kd', e', v', cs', ms', a1, a2, a3, a4, a5⟩
  · rw [Nat.zero_add] at a4
    exact Or.inr ⟨k, at1, a1, a2, a3, a4, a5⟩
theorem s_ext (ok : Ok C) (hn : NM C N nm co so nu (fun k => names (0 + k))) (a2 : at0 2 = nI (C 0 0 2)) (hx : TX n B f g) (h : TkR n B q kd e v cs ms) (hto : to < 3097) (ht2 : 1980 ≤ to) (hF : 2000 < F) : CnR F n q kd e v N 2 to C co so nu at0 f B cs ms fp mfp (X12_extraTo F (nI n) ms.1 ms.2.1 ms.2.2.1 ms.2.2.2 mfp (nI 0) at0 names g (nI to)) := by
  have o0 := ok.1
  have r := s_nm (s := 2) (at0 := at0) fp mfp ok hn hx h (by omega) (by omega) hto ht2 hF
  rw [show nb 2 = 8 from rfl, show cnt C 2 = C 0 0 2 from rfl] at r
  rcases r with ⟨k, q', kd', e', v', cs', ms', b1, b2, b3, b4, b5⟩ | ⟨k, at1, b1, b2, b3, b4, b5⟩
  · refine Or.inl ⟨k, q', kd', e', v', cs', ms', b1, b2, ?_, b4, b5⟩
    unfold X12_extraTo
    simp (disch := omega) only [l_0, l_1, l_2, l_3, l_4, l_5, l_6, l_7, l_8, l_9, l_10, l_11, l_12, l_13, l_14, l_15, l_16, l_17, l_18, l_19, l_20, l_21, l_22, l_23, l_24, l_25, l_26, l_27, l_30, l_31, l_32, l_40, l_48, l_57, l_59, l_60, l_61, l_62, l_64, l_83, l_90, l_97, l_99, l_100, l_108, l_115, l_122, l_123, l_127, l_128, l_131, l_135, l_200, l_255, l_256, l_300, l_487, l_495, l_900, l_999, l_1000, l_1700, l_1792, l_1980, l_2048, l_2475, l_2970, l_3121, l_9999, l_10000, l_11351, l_65536, l_100000, l_1000000, ↓l_m1, l_neg, nI_add, pk_mul, pk_sub, q_leT, q_leF, q_ltT, q_ltF, q_eqT, q_eqF, q_m1e, q_m1e2, q_m1lt, q_m1le, q_m1nl, q_m1nle, q_m1s, q_ix, q_jat, q_jput, q_min1, q_min2, q_max1, q_max2, q_or0, q_0or, q_bs, if_true, if_false, true_and, and_true, false_and, and_false, not_true_eq_false, not_false_eq_true, eq_self, Bool.false_eq_true, q_z0, q_z1, a2, b3]
  · refine Or.inr ⟨k, at1, b1, b2, b3, ?_, b5⟩
    unfold X12_extraTo
    simp (disch := omega) only [l_0, l_1, l_2, l_3, l_4, l_5, l_6, l_7, l_8, l_9, l_10, l_11, l_12, l_13, l_14, l_15, l_16, l_17, l_18, l_19, l_20, l_21, l_22, l_23, l_24, l_25, l_26, l_27, l_30, l_31, l_32, l_40, l_48, l_57, l_59, l_60, l_61, l_62, l_64, l_83, l_90, l_97, l_99, l_100, l_108, l_115, l_122, l_123, l_127, l_128, l_131, l_135, l_200, l_255, l_256, l_300, l_487, l_495, l_900, l_999, l_1000, l_1700, l_1792, l_1980, l_2048, l_2475, l_2970, l_3121, l_9999, l_10000, l_11351, l_65536, l_100000, l_1000000, ↓l_m1, l_neg, nI_add, pk_mul, pk_sub, q_leT, q_leF, q_ltT, q_ltF, q_eqT, q_eqF, q_m1e, q_m1e2, q_m1lt, q_m1le, q_m1nl, q_m1nle, q_m1s, q_ix, q_jat, q_jput, q_min1, q_min2, q_max1, q_max2, q_or0, q_0or, q_bs, if_true, if_false, true_and, and_true, false_and, and_false, not_true_eq_false, not_false_eq_true, eq_self, Bool.false_eq_true, q_z0, q_z1, a2, b4]
theorem s_hap (ok : Ok C) (hn : NM C N nm co so nu (fun k => names (0 + k))) (a3 : at0 3 = nI (C 0 0 3)) (hx : TX n B f g) (h : TkR n B q kd e v cs ms) (hto : to < 3097) (ht2 : 1980 ≤ to) (hF : 2000 < F) : CnR F n q kd e v N 3 to C co so nu at0 f B cs ms fp mfp (X12_happeningTo F (nI n) ms.1 ms.2.1 ms.2.2.1 ms.2.2.2 mfp (nI 0) at0 names g (nI to)) := by
  have o0 := ok.1
  have r := s_nm (s := 3) (at0 := at0) fp mfp ok hn hx h (by omega) (by omega) hto ht2 hF
  rw [show nb 3 = 15 from rfl, show cnt C 3 = C 0 0 3 from rfl] at r
  rcases r with ⟨k, q', kd', e', v', cs', ms', b1, b2, b3, b4, b5⟩ | ⟨k, at1, b1, b2, b3, b4, b5⟩
  · refine Or.inl ⟨k, q', kd', e', v', cs', ms', b1, b2, ?_, b4, b5⟩
    unfold X12_happeningTo
    simp (disch := omega) only [l_0, l_1, l_2, l_3, l_4, l_5, l_6, l_7, l_8, l_9, l_10, l_11, l_12, l_13, l_14, l_15, l_16, l_17, l_18, l_19, l_20, l_21, l_22, l_23, l_24, l_25, l_26, l_27, l_30, l_31, l_32, l_40, l_48, l_57, l_59, l_60, l_61, l_62, l_64, l_83, l_90, l_97, l_99, l_100, l_108, l_115, l_122, l_123, l_127, l_128, l_131, l_135, l_200, l_255, l_256, l_300, l_487, l_495, l_900, l_999, l_1000, l_1700, l_1792, l_1980, l_2048, l_2475, l_2970, l_3121, l_9999, l_10000, l_11351, l_65536, l_100000, l_1000000, ↓l_m1, l_neg, nI_add, pk_mul, pk_sub, q_leT, q_leF, q_ltT, q_ltF, q_eqT, q_eqF, q_m1e, q_m1e2, q_m1lt, q_m1le, q_m1nl, q_m1nle, q_m1s, q_ix, q_jat, q_jput, q_min1, q_min2, q_max1, q_max2, q_or0, q_0or, q_bs, if_true, if_false, true_and, and_true, false_and, and_false, not_true_eq_false, not_false_eq_true, eq_self, Bool.false_eq_true, q_z0, q_z1, a3, b3]
  · refine Or.inr ⟨k, at1, b1, b2, b3, ?_, b5⟩
    unfold X12_happeningTo
    simp (disch := omega) only [l_0, l_1, l_2, l_3, l_4, l_5, l_6, l_7, l_8, l_9, l_10, l_11, l_12, l_13, l_14, l_15, l_16, l_17, l_18, l_19, l_20, l_21, l_22, l_23, l_24, l_25, l_26, l_27, l_30, l_31, l_32, l_40, l_48, l_57, l_59, l_60, l_61, l_62, l_64, l_83, l_90, l_97, l_99, l_100, l_108, l_115, l_122, l_123, l_127, l_128, l_131, l_135, l_200, l_255, l_256, l_300, l_487, l_495, l_900, l_999, l_1000, l_1700, l_1792, l_1980, l_2048, l_2475, l_2970, l_3121, l_9999, l_10000, l_11351, l_65536, l_100000, l_1000000, ↓l_m1, l_neg, nI_add, pk_mul, pk_sub, q_leT, q_leF, q_ltT, q_ltF, q_eqT, q_eqF, q_m1e, q_m1e2, q_m1lt, q_m1le, q_m1nl, q_m1nle, q_m1s, q_ix, q_jat, q_jput, q_min1, q_min2, q_max1, q_max2, q_or0, q_0or, q_bs, if_true, if_false, true_and, and_true, false_and, and_false, not_true_eq_false, not_false_eq_true, eq_self, Bool.false_eq_true, q_z0, q_z1, a3, b4]
end CN
