/-! ===== PURE 21.h: one STEP, one close ===== -/
section ST
variable {F n q kd e v N m d K : Nat} {C : Cy} {nm : Nat → Nat → Nat} {co : Nat → Int64} {so nu wf opc at0 opm f g : Nat → Int32} {names : Nat → Int64} {B : Nat → Nat} {cs : cSt} {ms : mTk} {fp mfp : Int32}
/-- the orders: the class's word, the model's, whether it opens -/
def OrdW (c w op : Nat) : Prop := (c = 10 ∧ w = 11 ∧ op = 0) ∨ (c = 15 ∧ w = 14 ∧ op = 0) ∨ (c = 16 ∧ w = 15 ∧ op = 0) ∨ (c = 17 ∧ w = 16 ∧ op = 0) ∨ (c = 25 ∧ w = 20 ∧ op = 0) ∨ (c = 23 ∧ w = 18 ∧ op = 1) ∨ (c = 18 ∧ w = 17 ∧ op = 1)
theorem c_ord {c w op : Nat} (o : OrdW c w op) (hK : K < 30) (hd : op = 1 → d < 3) (h2 : cs.2.2.1 = nI 1) (hv : cs.2.2.2.1 = nI c) : X10_takeStep F (nI d) (nI n) cs.1 cs.2.1 cs.2.2.1 cs.2.2.2.1 cs.2.2.2.2 (nI 0) fp f (nI K) wf opc (nI N) co so nu = X10_takeStep_j112 F (nI d) (nI n) cs.1 cs.2.1 cs.2.2.1 cs.2.2.2.1 cs.2.2.2.2 (nI 0) fp f (nI K) wf opc (nI N) co so nu (nI c) (nI op) := by
  have fu := c_full (n := 180) (w := 6) (m := K) (by omega) (by omega) (by omega) (by omega)
  rw [if_pos (by omega)] at fu
  obtain ⟨x1, x2, x3, x4, x5⟩ := cs
  dsimp only at h2 hv ⊢
  subst h2
  subst hv
  unfold X10_takeStep X10_takeStep_j22 X10_takeStep_j46 X10_takeStep_j51 X10_isStep
  rcases o with ⟨rfl, rfl, rfl⟩ | ⟨rfl, rfl, rfl⟩ | ⟨rfl, rfl, rfl⟩ | ⟨rfl, rfl, rfl⟩ | ⟨rfl, rfl, rfl⟩ | ⟨rfl, rfl, rfl⟩ | ⟨rfl, rfl, rfl⟩
  · simp (maxSteps := 4000000) (disch := omega) only [↓reduceIte, l_0, l_1, l_2, l_3, l_4, l_5, l_6, l_7, l_8, l_9, l_10, l_11, l_12, l_13, l_14, l_15, l_16, l_17, l_18, l_19, l_20, l_21, l_22, l_23, l_24, l_25, l_26, l_27, l_30, l_31, l_32, l_40, l_48, l_57, l_59, l_60, l_61, l_62, l_64, l_83, l_90, l_97, l_99, l_100, l_108, l_115, l_122, l_123, l_127, l_128, l_131, l_135, l_200, l_255, l_256, l_300, l_487, l_495, l_900, l_999, l_1000, l_1700, l_1792, l_1980, l_2048, l_2475, l_2970, l_3121, l_9999, l_10000, l_11351, l_65536, l_100000, l_1000000, ↓l_m1, l_neg, nI_add, pk_mul, pk_sub, q_leT, q_leF, q_ltT, q_ltF, q_eqT, q_eqF, q_m1e, q_m1e2, q_m1lt, q_m1le, q_m1nl, q_m1nle, q_m1s, q_ix, q_jat, q_jput, q_min1, q_min2, q_max1, q_max2, q_or0, q_0or, q_bs, if_true, if_false, true_and, and_true, false_and, and_false, not_true_eq_false, not_false_eq_true, eq_self, Bool.false_eq_true, q_z0, q_z1, fu]
  · simp (maxSteps := 4000000) (disch := omega) only [↓reduceIte, l_0, l_1, l_2, l_3, l_4, l_5, l_6, l_7, l_8, l_9, l_10, l_11, l_12, l_13, l_14, l_15, l_16, l_17, l_18, l_19, l_20, l_21, l_22, l_23, l_24, l_25, l_26, l_27, l_30, l_31, l_32, l_40, l_48, l_57, l_59, l_60, l_61, l_62, l_64, l_83, l_90, l_97, l_99, l_100, l_108, l_115, l_122, l_123, l_127, l_128, l_131, l_135, l_200, l_255, l_256, l_300, l_487, l_495, l_900, l_999, l_1000, l_1700, l_1792, l_1980, l_2048, l_2475, l_2970, l_3121, l_9999, l_10000, l_11351, l_65536, l_100000, l_1000000, ↓l_m1, l_neg, nI_add, pk_mul, pk_sub, q_leT, q_leF, q_ltT, q_ltF, q_eqT, q_eqF, q_m1e, q_m1e2, q_m1lt, q_m1le, q_m1nl, q_m1nle, q_m1s, q_ix, q_jat, q_jput, q_min1, q_min2, q_max1, q_max2, q_or0, q_0or, q_bs, if_true, if_false, true_and, and_true, false_and, and_false, not_true_eq_false, not_false_eq_true, eq_self, Bool.false_eq_true, q_z0, q_z1, fu]
  · simp (maxSteps := 4000000) (disch := omega) only [↓reduceIte, l_0, l_1, l_2, l_3, l_4, l_5, l_6, l_7, l_8, l_9, l_10, l_11, l_12, l_13, l_14, l_15, l_16, l_17, l_18, l_19, l_20, l_21, l_22, l_23, l_24, l_25, l_26, l_27, l_30, l_31, l_32, l_40, l_48, l_57, l_59, l_60, l_61, l_62, l_64, l_83, l_90, l_97, l_99, l_100, l_108, l_115, l_122, l_123, l_127, l_128, l_131, l_135, l_200, l_255, l_256, l_300, l_487, l_495, l_900, l_999, l_1000, l_1700, l_1792, l_1980, l_2048, l_2475, l_2970, l_3121, l_9999, l_10000, l_11351, l_65536, l_100000, l_1000000, ↓l_m1, l_neg, nI_add, pk_mul, pk_sub, q_leT, q_leF, q_ltT, q_ltF, q_eqT, q_eqF, q_m1e, q_m1e2, q_m1lt, q_m1le, q_m1nl, q_m1nle, q_m1s, q_ix, q_jat, q_jput, q_min1, q_min2, q_max1, q_max2, q_or0, q_0or, q_bs, if_true, if_false, true_and, and_true, false_and, and_false, not_true_eq_false, not_false_eq_true, eq_self, Bool.false_eq_true, q_z0, q_z1, fu]
  · simp (maxSteps := 4000000) (disch := omega) only [↓reduceIte, l_0, l_1, l_2, l_3, l_4, l_5, l_6, l_7, l_8, l_9, l_10, l_11, l_12, l_13, l_14, l_15, l_16, l_17, l_18, l_19, l_20, l_21, l_22, l_23, l_24, l_25, l_26, l_27, l_30, l_31, l_32, l_40, l_48, l_57, l_59, l_60, l_61, l_62, l_64, l_83, l_90, l_97, l_99, l_100, l_108, l_115, l_122, l_123, l_127, l_128, l_131, l_135, l_200, l_255, l_256, l_300, l_487, l_495, l_900, l_999, l_1000, l_1700, l_1792, l_1980, l_2048, l_2475, l_2970, l_3121, l_9999, l_10000, l_11351, l_65536, l_100000, l_1000000, ↓l_m1, l_neg, nI_add, pk_mul, pk_sub, q_leT, q_leF, q_ltT, q_ltF, q_eqT, q_eqF, q_m1e, q_m1e2, q_m1lt, q_m1le, q_m1nl, q_m1nle, q_m1s, q_ix, q_jat, q_jput, q_min1, q_min2, q_max1, q_max2, q_or0, q_0or, q_bs, if_true, if_false, true_and, and_true, false_and, and_false, not_true_eq_false, not_false_eq_true, eq_self, Bool.false_eq_true, q_z0, q_z1, fu]
  · simp (maxSteps := 4000000) (disch := omega) only [↓reduceIte, l_0, l_1, l_2, l_3, l_4, l_5, l_6, l_7, l_8, l_9, l_10, l_11, l_12, l_13, l_14, l_15, l_16, l_17, l_18, l_19, l_20, l_21, l_22, l_23, l_24, l_25, l_26, l_27, l_30, l_31, l_32, l_40, l_48, l_57, l_59, l_60, l_61, l_62, l_64, l_83, l_90, l_97, l_99, l_100, l_108, l_115, l_122, l_123, l_127, l_128, l_131, l_135, l_200, l_255, l_256, l_300, l_487, l_495, l_900, l_999, l_1000, l_1700, l_1792, l_1980, l_2048, l_2475, l_2970, l_3121, l_9999, l_10000, l_11351, l_65536, l_100000, l_1000000, ↓l_m1, l_neg, nI_add, pk_mul, pk_sub, q_leT, q_leF, q_ltT, q_ltF, q_eqT, q_eqF, q_m1e, q_m1e2, q_m1lt, q_m1le, q_m1nl, q_m1nle, q_m1s, q_ix, q_jat, q_jput, q_min1, q_min2, q_max1, q_max2, q_or0, q_0or, q_bs, if_true, if_false, true_and, and_true, false_and, and_false, not_true_eq_false, not_false_eq_true, eq_self, Bool.false_eq_true, q_z0, q_z1, fu]
  · have d3 := hd rfl
    simp (maxSteps := 4000000) (disch := omega) only [↓reduceIte, l_0, l_1, l_2, l_3, l_4, l_5, l_6, l_7, l_8, l_9, l_10, l_11, l_12, l_13, l_14, l_15, l_16, l_17, l_18, l_19, l_20, l_21, l_22, l_23, l_24, l_25, l_26, l_27, l_30, l_31, l_32, l_40, l_48, l_57, l_59, l_60, l_61, l_62, l_64, l_83, l_90, l_97, l_99, l_100, l_108, l_115, l_122, l_123, l_127, l_128, l_131, l_135, l_200, l_255, l_256, l_300, l_487, l_495, l_900, l_999, l_1000, l_1700, l_1792, l_1980, l_2048, l_2475, l_2970, l_3121, l_9999, l_10000, l_11351, l_65536, l_100000, l_1000000, ↓l_m1, l_neg, nI_add, pk_mul, pk_sub, q_leT, q_leF, q_ltT, q_ltF, q_eqT, q_eqF, q_m1e, q_m1e2, q_m1lt, q_m1le, q_m1nl, q_m1nle, q_m1s, q_ix, q_jat, q_jput, q_min1, q_min2, q_max1, q_max2, q_or0, q_0or, q_bs, if_true, if_false, true_and, and_true, false_and, and_false, not_true_eq_false, not_false_eq_true, eq_self, Bool.false_eq_true, q_z0, q_z1, fu]
  · have d3 := hd rfl
    simp (maxSteps := 4000000) (disch := omega) only [↓reduceIte, l_0, l_1, l_2, l_3, l_4, l_5, l_6, l_7, l_8, l_9, l_10, l_11, l_12, l_13, l_14, l_15, l_16, l_17, l_18, l_19, l_20, l_21, l_22, l_23, l_24, l_25, l_26, l_27, l_30, l_31, l_32, l_40, l_48, l_57, l_59, l_60, l_61, l_62, l_64, l_83, l_90, l_97, l_99, l_100, l_108, l_115, l_122, l_123, l_127, l_128, l_131, l_135, l_200, l_255, l_256, l_300, l_487, l_495, l_900, l_999, l_1000, l_1700, l_1792, l_1980, l_2048, l_2475, l_2970, l_3121, l_9999, l_10000, l_11351, l_65536, l_100000, l_1000000, ↓l_m1, l_neg, nI_add, pk_mul, pk_sub, q_leT, q_leF, q_ltT, q_ltF, q_eqT, q_eqF, q_m1e, q_m1e2, q_m1lt, q_m1le, q_m1nl, q_m1nle, q_m1s, q_ix, q_jat, q_jput, q_min1, q_min2, q_max1, q_max2, q_or0, q_0or, q_bs, if_true, if_false, true_and, and_true, false_and, and_false, not_true_eq_false, not_false_eq_true, eq_self, Bool.false_eq_true, q_z0, q_z1, fu]
theorem m_j62 {w op : Nat} {v2 v3 : Int32} (w19 : w ≠ 19) (w99 : w < 100) (hK : K < 30) (hd : op ≠ 0 → d < 3) (op2 : op < 2) : X12_weekStep_j62 F (nI n) ms.1 ms.2.1 ms.2.2.1 ms.2.2.2 mfp (nI 0) (nI d) (nI K) at0 names g opm (nI w) v2 v3 (nI op) = X12_weekStep_j139 F (nI n) ms.1 ms.2.1 ms.2.2.1 ms.2.2.2 mfp (nI 0) (nI d) (nI K) at0 names g opm (nI w) v2 v3 (nI op) (nI 1) (nI K) := by
  have n19 : ¬ nI w = 19 := fun z => w19 ((nI_eq (b := 19) (by omega) (by omega)).mp z)
  have n30 : ¬ nI K = 30 := fun z => by
    have := (nI_eq (b := 30) (by omega) (by omega)).mp z
    omega
  have e : X12_weekStep_j123 F (nI n) ms.1 ms.2.1 ms.2.2.1 ms.2.2.2 mfp (nI 0) (nI d) (nI K) at0 names g opm (nI w) v2 v3 (nI op) = X12_weekStep_j139 F (nI n) ms.1 ms.2.1 ms.2.2.1 ms.2.2.2 mfp (nI 0) (nI d) (nI K) at0 names g opm (nI w) v2 v3 (nI op) (nI 1) (nI K) := by
    unfold X12_weekStep_j123
    exact if_neg n19
  have e2 : X12_weekStep_j103 F (nI n) ms.1 ms.2.1 ms.2.2.1 ms.2.2.2 mfp (nI 0) (nI d) (nI K) at0 names g opm (nI w) v2 v3 (nI op) = X12_weekStep_j123 F (nI n) ms.1 ms.2.1 ms.2.2.1 ms.2.2.2 mfp (nI 0) (nI d) (nI K) at0 names g opm (nI w) v2 v3 (nI op) := by
    unfold X12_weekStep_j103
    by_cases z : op = 0
    · exact if_pos (by rw [z]; rfl)
    · have d3 := hd z
      exact (if_neg (fun y => z ((nI_eq (b := 0) (by omega) (by omega)).mp y))).trans (if_neg (fun y => by
        have := (nI_eq (b := 3) (by omega) (by omega)).mp y
        omega))
  have e3 : X12_weekStep_j81 F (nI n) ms.1 ms.2.1 ms.2.2.1 ms.2.2.2 mfp (nI 0) (nI d) (nI K) at0 names g opm (nI w) v2 v3 (nI op) = X12_weekStep_j103 F (nI n) ms.1 ms.2.1 ms.2.2.1 ms.2.2.2 mfp (nI 0) (nI d) (nI K) at0 names g opm (nI w) v2 v3 (nI op) := by
    unfold X12_weekStep_j81
    exact (if_neg n19).trans (if_neg n30)
  unfold X12_weekStep_j62
  exact (if_neg n19).trans (e3.trans (e2.trans e))
theorem m_ord {c w op : Nat} (o : OrdW c w op) (hK : K < 30) (hm : m ≤ 60) (hd : op = 1 → d < 3) (d4 : d ≤ 3) (e9 : at0 1989 = nI m) (iw : X12_inWords F (nI n) ms.1 ms.2.1 ms.2.2.1 g = some (nI w)) : X12_weekStep F (nI n) ms.1 ms.2.1 ms.2.2.1 ms.2.2.2 mfp (nI 0) (nI d) (nI K) at0 names g opm = X12_weekStep_j139 F (nI n) ms.1 ms.2.1 ms.2.2.1 ms.2.2.2 mfp (nI 0) (nI d) (nI K) at0 names g opm (nI w) (nI m) (nI (2107 + 6 * m)) (nI op) (nI 1) (nI K) := by
  have i2 : ix 1989 3097 = true := of_eq_true (q_ix (k := 1989) (by omega) (by omega))
  have ja : jat at0 1989 = nI m := (q_jat at0 (k := 1989) (by omega)).trans e9
  have e : (2107 : Int32) + 6 * nI m = nI (2107 + 6 * m) := by rw [show (6 : Int32) = nI 6 from rfl, pk_mul, l_2107, nI_add]
  have j42 : ∀ o2, (o2 = op) → w ≠ 19 → w < 100 → (w = 11 ∨ (14 ≤ w ∧ w ≤ 20)) → X12_weekStep_j42 F (nI n) ms.1 ms.2.1 ms.2.2.1 ms.2.2.2 mfp (nI 0) (nI d) (nI K) at0 names g opm (nI w) (nI m) (nI (2107 + 6 * m)) (nI o2) = X12_weekStep_j139 F (nI n) ms.1 ms.2.1 ms.2.2.1 ms.2.2.2 mfp (nI 0) (nI d) (nI K) at0 names g opm (nI w) (nI m) (nI (2107 + 6 * m)) (nI op) (nI 1) (nI K) := fun o2 ho w19 w99 hw => by
    subst ho
    have j := m_j62 (F := F) (n := n) (d := d) (K := K) (at0 := at0) (opm := opm) (g := g) (names := names) (ms := ms) (mfp := mfp) (v2 := nI m) (v3 := nI (2107 + 6 * m)) (op := o2) w19 w99 hK (by unfold OrdW at o; omega) (by unfold OrdW at o; omega)
    unfold X12_weekStep_j42
    by_cases w11 : w = 11
    · exact (if_pos (by rw [w11]; rfl)).trans j
    · exact (if_neg (fun z => w11 ((nI_eq (b := 11) (by omega) (by omega)).mp z))).trans ((if_neg (of_eq_false (q_ltF (a := w) (b := 14) (by omega) (by omega)))).trans ((if_neg (of_eq_false (q_ltF (a := 20) (b := w) (by omega) (by omega)))).trans j))
  unfold X12_weekStep
  refine bd_st iw ((if_pos i2).trans ?_)
  rw [ja, e]
  by_cases z17 : w = 17
  · exact (if_pos (by rw [z17]; rfl)).trans (j42 1 (by unfold OrdW at o; omega) (by omega) (by omega) (by omega))
  by_cases z18 : w = 18
  · exact (if_neg (fun z => z17 ((nI_eq (b := 17) (by unfold OrdW at o; omega) (by omega)).mp z))).trans ((if_pos (by rw [z18]; rfl)).trans (j42 1 (by unfold OrdW at o; omega) (by omega) (by omega) (by omega)))
  · exact (if_neg (fun z => z17 ((nI_eq (b := 17) (by unfold OrdW at o; omega) (by omega)).mp z))).trans ((if_neg (fun z => z18 ((nI_eq (b := 18) (by unfold OrdW at o; omega) (by omega)).mp z))).trans (j42 0 (by unfold OrdW at o; omega) (by unfold OrdW at o; omega) (by unfold OrdW at o; omega) (by unfold OrdW at o; omega)))
/-- refused: too many, too deep -/
theorem p_many {c w op : Nat} (o : OrdW c w op) (hK : K = 30) (d4 : d ≤ 3) (hm : m ≤ 60) (e9 : at0 1989 = nI m) (h : TkR n B q 1 e v cs ms) (hv : cs.2.2.2.1 = nI c) (iw : X12_inWords F (nI n) ms.1 ms.2.1 ms.2.2.1 g = some (nI w)) : StepR n B q C fp mfp at0 (X10_takeStep F (nI d) (nI n) cs.1 cs.2.1 cs.2.2.1 cs.2.2.2.1 cs.2.2.2.2 (nI 0) fp f (nI K) wf opc (nI N) co so nu) (X12_weekStep F (nI n) ms.1 ms.2.1 ms.2.2.1 ms.2.2.2 mfp (nI 0) (nI d) (nI K) at0 names g opm) := by
  have b := tk_bnd h
  obtain ⟨⟨p, tk⟩, h1, h2, h3, h4, h5, h6⟩ := h
  have fl := q_fails (fp := mfp) (k := 6) h4 h5 b.2.1 (by omega)
  rw [show fk 1 6 = 6 from rfl] at fl
  have ff := q_fail (fp := fp) (k := 6) h1
  have fu := c_full (n := 180) (w := 6) (m := K) (by omega) (by omega) (by omega) (by omega)
  rw [if_neg (by omega)] at fu
  obtain ⟨x1, x2, x3, x4, x5⟩ := cs
  dsimp only at h1 h2 hv ff ⊢
  subst h2
  subst hv
  refine Or.inr ⟨6, q, mkS [nI d, x1, x2, nI 1, nI c, nI 6, nI q, nI K] [x5] [wf, opc] [], mkS [nI 0, ms.1, ms.2.1, ms.2.2.1, ms.2.2.2, nI q, nI 6, nI d, nI K] [] [at0, opm] [], by omega, by omega, ?_, ?_, rfl, rfl, rfl, rfl, rfl, fun _ _ => rfl⟩
  · unfold X10_takeStep X10_takeStep_j22 X10_takeStep_j46 X10_takeStep_j51 X10_isStep X10_takeStep_j112
    rcases o with ⟨rfl, rfl, rfl⟩ | ⟨rfl, rfl, rfl⟩ | ⟨rfl, rfl, rfl⟩ | ⟨rfl, rfl, rfl⟩ | ⟨rfl, rfl, rfl⟩ | ⟨rfl, rfl, rfl⟩ | ⟨rfl, rfl, rfl⟩
    all_goals simp (maxSteps := 4000000) (disch := omega) only [↓reduceIte, l_0, l_1, l_2, l_3, l_4, l_5, l_6, l_7, l_8, l_9, l_10, l_11, l_12, l_13, l_14, l_15, l_16, l_17, l_18, l_19, l_20, l_21, l_22, l_23, l_24, l_25, l_26, l_27, l_30, l_31, l_32, l_40, l_48, l_57, l_59, l_60, l_61, l_62, l_64, l_83, l_90, l_97, l_99, l_100, l_108, l_115, l_122, l_123, l_127, l_128, l_131, l_135, l_200, l_255, l_256, l_300, l_487, l_495, l_900, l_999, l_1000, l_1700, l_1792, l_1980, l_2048, l_2475, l_2970, l_3121, l_9999, l_10000, l_11351, l_65536, l_100000, l_1000000, ↓l_m1, l_neg, nI_add, pk_mul, pk_sub, q_leT, q_leF, q_ltT, q_ltF, q_eqT, q_eqF, q_m1e, q_m1e2, q_m1lt, q_m1le, q_m1nl, q_m1nle, q_m1s, q_ix, q_jat, q_jput, q_min1, q_min2, q_max1, q_max2, q_or0, q_0or, q_bs, if_true, if_false, true_and, and_true, false_and, and_false, not_true_eq_false, not_false_eq_true, eq_self, Bool.false_eq_true, q_z0, q_z1, fu, ff]
  · subst hK
    unfold X12_weekStep X12_weekStep_j37 X12_weekStep_j42 X12_weekStep_j62 X12_weekStep_j81
    rcases o with ⟨rfl, rfl, rfl⟩ | ⟨rfl, rfl, rfl⟩ | ⟨rfl, rfl, rfl⟩ | ⟨rfl, rfl, rfl⟩ | ⟨rfl, rfl, rfl⟩ | ⟨rfl, rfl, rfl⟩ | ⟨rfl, rfl, rfl⟩
    all_goals simp (maxSteps := 4000000) (disch := omega) only [↓reduceIte, l_0, l_1, l_2, l_3, l_4, l_5, l_6, l_7, l_8, l_9, l_10, l_11, l_12, l_13, l_14, l_15, l_16, l_17, l_18, l_19, l_20, l_21, l_22, l_23, l_24, l_25, l_26, l_27, l_30, l_31, l_32, l_40, l_48, l_57, l_59, l_60, l_61, l_62, l_64, l_83, l_90, l_97, l_99, l_100, l_108, l_115, l_122, l_123, l_127, l_128, l_131, l_135, l_200, l_255, l_256, l_300, l_487, l_495, l_900, l_999, l_1000, l_1700, l_1792, l_1980, l_2048, l_2475, l_2970, l_3121, l_9999, l_10000, l_11351, l_65536, l_100000, l_1000000, ↓l_m1, l_neg, nI_add, pk_mul, pk_sub, q_leT, q_leF, q_ltT, q_ltF, q_eqT, q_eqF, q_m1e, q_m1e2, q_m1lt, q_m1le, q_m1nl, q_m1nle, q_m1s, q_ix, q_jat, q_jput, q_min1, q_min2, q_max1, q_max2, q_or0, q_0or, q_bs, if_true, if_false, true_and, and_true, false_and, and_false, not_true_eq_false, not_false_eq_true, eq_self, Bool.false_eq_true, q_z0, q_z1, l_1989, l_2107, iw, e9, fl]
theorem p_deep {c w : Nat} (o : OrdW c w 1) (hK : K < 30) (d3 : d = 3) (hm : m ≤ 60) (e9 : at0 1989 = nI m) (h : TkR n B q 1 e v cs ms) (hv : cs.2.2.2.1 = nI c) (iw : X12_inWords F (nI n) ms.1 ms.2.1 ms.2.2.1 g = some (nI w)) : StepR n B q C fp mfp at0 (X10_takeStep F (nI d) (nI n) cs.1 cs.2.1 cs.2.2.1 cs.2.2.2.1 cs.2.2.2.2 (nI 0) fp f (nI K) wf opc (nI N) co so nu) (X12_weekStep F (nI n) ms.1 ms.2.1 ms.2.2.1 ms.2.2.2 mfp (nI 0) (nI d) (nI K) at0 names g opm) := by
  have b := tk_bnd h
  obtain ⟨⟨p, tk⟩, h1, h2, h3, h4, h5, h6⟩ := h
  have fl := q_fails (fp := mfp) (k := 7) h4 h5 b.2.1 (by omega)
  rw [show fk 1 7 = 7 from rfl] at fl
  have ff := q_fail (fp := fp) (k := 7) h1
  have fu := c_full (n := 180) (w := 6) (m := K) (by omega) (by omega) (by omega) (by omega)
  rw [if_pos (by omega)] at fu
  obtain ⟨x1, x2, x3, x4, x5⟩ := cs
  dsimp only at h1 h2 hv ff ⊢
  subst h2
  subst hv
  subst d3
  have o' : (c = 23 ∧ w = 18) ∨ (c = 18 ∧ w = 17) := by
    unfold OrdW at o
    omega
  refine Or.inr ⟨7, q, mkS [nI 3, x1, x2, nI 1, nI c, nI 7, nI q, nI K] [x5] [wf, opc] [], mkS [nI 0, ms.1, ms.2.1, ms.2.2.1, ms.2.2.2, nI q, nI 7, nI 3, nI K] [] [at0, opm] [], by omega, by omega, ?_, ?_, rfl, rfl, rfl, rfl, rfl, fun _ _ => rfl⟩
  · unfold X10_takeStep X10_takeStep_j22 X10_takeStep_j46 X10_takeStep_j51 X10_isStep X10_takeStep_j112
    rcases o' with ⟨rfl, rfl⟩ | ⟨rfl, rfl⟩
    all_goals simp (maxSteps := 4000000) (disch := omega) only [↓reduceIte, l_0, l_1, l_2, l_3, l_4, l_5, l_6, l_7, l_8, l_9, l_10, l_11, l_12, l_13, l_14, l_15, l_16, l_17, l_18, l_19, l_20, l_21, l_22, l_23, l_24, l_25, l_26, l_27, l_30, l_31, l_32, l_40, l_48, l_57, l_59, l_60, l_61, l_62, l_64, l_83, l_90, l_97, l_99, l_100, l_108, l_115, l_122, l_123, l_127, l_128, l_131, l_135, l_200, l_255, l_256, l_300, l_487, l_495, l_900, l_999, l_1000, l_1700, l_1792, l_1980, l_2048, l_2475, l_2970, l_3121, l_9999, l_10000, l_11351, l_65536, l_100000, l_1000000, ↓l_m1, l_neg, nI_add, pk_mul, pk_sub, q_leT, q_leF, q_ltT, q_ltF, q_eqT, q_eqF, q_m1e, q_m1e2, q_m1lt, q_m1le, q_m1nl, q_m1nle, q_m1s, q_ix, q_jat, q_jput, q_min1, q_min2, q_max1, q_max2, q_or0, q_0or, q_bs, if_true, if_false, true_and, and_true, false_and, and_false, not_true_eq_false, not_false_eq_true, eq_self, Bool.false_eq_true, q_z0, q_z1, fu, ff]
  · unfold X12_weekStep X12_weekStep_j37 X12_weekStep_j42 X12_weekStep_j62 X12_weekStep_j81 X12_weekStep_j103
    rcases o' with ⟨rfl, rfl⟩ | ⟨rfl, rfl⟩
    all_goals simp (maxSteps := 4000000) (disch := omega) only [↓reduceIte, l_0, l_1, l_2, l_3, l_4, l_5, l_6, l_7, l_8, l_9, l_10, l_11, l_12, l_13, l_14, l_15, l_16, l_17, l_18, l_19, l_20, l_21, l_22, l_23, l_24, l_25, l_26, l_27, l_30, l_31, l_32, l_40, l_48, l_57, l_59, l_60, l_61, l_62, l_64, l_83, l_90, l_97, l_99, l_100, l_108, l_115, l_122, l_123, l_127, l_128, l_131, l_135, l_200, l_255, l_256, l_300, l_487, l_495, l_900, l_999, l_1000, l_1700, l_1792, l_1980, l_2048, l_2475, l_2970, l_3121, l_9999, l_10000, l_11351, l_65536, l_100000, l_1000000, ↓l_m1, l_neg, nI_add, pk_mul, pk_sub, q_leT, q_leF, q_ltT, q_ltF, q_eqT, q_eqF, q_m1e, q_m1e2, q_m1lt, q_m1le, q_m1nl, q_m1nle, q_m1s, q_ix, q_jat, q_jput, q_min1, q_min2, q_max1, q_max2, q_or0, q_0or, q_bs, if_true, if_false, true_and, and_true, false_and, and_false, not_true_eq_false, not_false_eq_true, eq_self, Bool.false_eq_true, q_z0, q_z1, l_1989, l_2107, iw, e9, fl]
/-- no order at all -/
theorem p_none {k0 iw : Int32} (d4 : d ≤ 3) (h : TkR n B q kd e v cs ms) (hk : k0 ≠ 10 ∧ k0 ≠ 15 ∧ k0 ≠ 16 ∧ k0 ≠ 17 ∧ k0 ≠ 18 ∧ k0 ≠ 23 ∧ k0 ≠ 24 ∧ k0 ≠ 25) (e9 : at0 1989 = nI m) (hm : m ≤ 60) (hw : X12_inWords F (nI n) ms.1 ms.2.1 ms.2.2.1 g = some iw) (hi : iw = m1 ∨ ∃ i, iw = nI i ∧ i ≠ 11 ∧ (i < 14 ∨ (20 < i ∧ i < 100))) : StepR n B q C fp mfp at0 (X10_takeStep_j22 F (nI d) (nI n) cs.1 cs.2.1 cs.2.2.1 cs.2.2.2.1 cs.2.2.2.2 (nI 0) fp f (nI K) wf opc (nI N) co so nu k0) (X12_weekStep F (nI n) ms.1 ms.2.1 ms.2.2.1 ms.2.2.2 mfp (nI 0) (nI d) (nI K) at0 names g opm) := by
  have b := tk_bnd h
  obtain ⟨⟨p, tk⟩, h1, h2, h3, h4, h5, h6⟩ := h
  have fl := q_fails (fp := mfp) (k := 2) h4 h5 b.2.1 (by omega)
  have fh := q_here (fp := fp) h1 h2 b.2.1
  have f7 := fk_b (kd := kd) (k := 2) (by omega) (by omega)
  have f71 := f7.1
  have f72 := f7.2
  obtain ⟨y10, y15, y16, y17, y18, y23, y24, y25⟩ := hk
  refine Or.inr ⟨fk kd 2, q, mkS [nI d, cs.1, cs.2.1, cs.2.2.1, cs.2.2.2.1, nI (fk kd 2), nI q, nI K] [cs.2.2.2.2] [wf, opc] [], mkS [nI 0, ms.1, ms.2.1, ms.2.2.1, ms.2.2.2, nI q, nI (fk kd 2), nI d, nI K] [] [at0, opm] [], f71, f72, ?_, ?_, rfl, rfl, rfl, rfl, rfl, fun _ _ => rfl⟩
  · have is : X10_isStep k0 = some 0 := by
      unfold X10_isStep
      rw [if_neg y10, if_neg y15, if_neg y16, if_neg y17, if_neg y18, if_neg y23, if_neg y25]
    unfold X10_takeStep_j22 X10_takeStep_j51 X10_takeStep_j112
    refine (if_neg y24).trans ((if_neg y18).trans ((if_neg y23).trans (bd_st is ((if_pos rfl).trans (bd_st fh ?_)))))
    refine (if_neg (fun z => ?_)).trans rfl
    have := (nI_eq (a := fk kd 2) (b := 0) (by omega) (by omega)).mp z
    omega
  · unfold X12_weekStep X12_weekStep_j42 X12_weekStep_j75
    rcases hi with rfl | ⟨i, rfl, i11, i8 | ⟨i8, i9⟩⟩
    · simp (maxSteps := 4000000) (disch := omega) only [↓reduceIte, l_0, l_1, l_2, l_3, l_4, l_5, l_6, l_7, l_8, l_9, l_10, l_11, l_12, l_13, l_14, l_15, l_16, l_17, l_18, l_19, l_20, l_21, l_22, l_23, l_24, l_25, l_26, l_27, l_30, l_31, l_32, l_40, l_48, l_57, l_59, l_60, l_61, l_62, l_64, l_83, l_90, l_97, l_99, l_100, l_108, l_115, l_122, l_123, l_127, l_128, l_131, l_135, l_200, l_255, l_256, l_300, l_487, l_495, l_900, l_999, l_1000, l_1700, l_1792, l_1980, l_2048, l_2475, l_2970, l_3121, l_9999, l_10000, l_11351, l_65536, l_100000, l_1000000, ↓l_m1, l_neg, nI_add, pk_mul, pk_sub, q_leT, q_leF, q_ltT, q_ltF, q_eqT, q_eqF, q_m1e, q_m1e2, q_m1lt, q_m1le, q_m1nl, q_m1nle, q_m1s, q_ix, q_jat, q_jput, q_min1, q_min2, q_max1, q_max2, q_or0, q_0or, q_bs, if_true, if_false, true_and, and_true, false_and, and_false, not_true_eq_false, not_false_eq_true, eq_self, Bool.false_eq_true, q_z0, q_z1, l_1989, l_2107, hw, e9, fl]
    · simp (maxSteps := 4000000) (disch := omega) only [↓reduceIte, l_0, l_1, l_2, l_3, l_4, l_5, l_6, l_7, l_8, l_9, l_10, l_11, l_12, l_13, l_14, l_15, l_16, l_17, l_18, l_19, l_20, l_21, l_22, l_23, l_24, l_25, l_26, l_27, l_30, l_31, l_32, l_40, l_48, l_57, l_59, l_60, l_61, l_62, l_64, l_83, l_90, l_97, l_99, l_100, l_108, l_115, l_122, l_123, l_127, l_128, l_131, l_135, l_200, l_255, l_256, l_300, l_487, l_495, l_900, l_999, l_1000, l_1700, l_1792, l_1980, l_2048, l_2475, l_2970, l_3121, l_9999, l_10000, l_11351, l_65536, l_100000, l_1000000, ↓l_m1, l_neg, nI_add, pk_mul, pk_sub, q_leT, q_leF, q_ltT, q_ltF, q_eqT, q_eqF, q_m1e, q_m1e2, q_m1lt, q_m1le, q_m1nl, q_m1nle, q_m1s, q_ix, q_jat, q_jput, q_min1, q_min2, q_max1, q_max2, q_or0, q_0or, q_bs, if_true, if_false, true_and, and_true, false_and, and_false, not_true_eq_false, not_false_eq_true, eq_self, Bool.false_eq_true, q_z0, q_z1, l_1989, l_2107, hw, e9, fl]
    · simp (maxSteps := 4000000) (disch := omega) only [↓reduceIte, l_0, l_1, l_2, l_3, l_4, l_5, l_6, l_7, l_8, l_9, l_10, l_11, l_12, l_13, l_14, l_15, l_16, l_17, l_18, l_19, l_20, l_21, l_22, l_23, l_24, l_25, l_26, l_27, l_30, l_31, l_32, l_40, l_48, l_57, l_59, l_60, l_61, l_62, l_64, l_83, l_90, l_97, l_99, l_100, l_108, l_115, l_122, l_123, l_127, l_128, l_131, l_135, l_200, l_255, l_256, l_300, l_487, l_495, l_900, l_999, l_1000, l_1700, l_1792, l_1980, l_2048, l_2475, l_2970, l_3121, l_9999, l_10000, l_11351, l_65536, l_100000, l_1000000, ↓l_m1, l_neg, nI_add, pk_mul, pk_sub, q_leT, q_leF, q_ltT, q_ltF, q_eqT, q_eqF, q_m1e, q_m1e2, q_m1lt, q_m1le, q_m1nl, q_m1nle, q_m1s, q_ix, q_jat, q_jput, q_min1, q_min2, q_max1, q_max2, q_or0, q_0or, q_bs, if_true, if_false, true_and, and_true, false_and, and_false, not_true_eq_false, not_false_eq_true, eq_self, Bool.false_eq_true, q_z0, q_z1, l_1989, l_2107, hw, e9, fl]
/-- a close -/
theorem p_close (hx : TX n B f g) (hd : WD C m d K wf opc at0 opm) (h : TkR n B q 1 e v cs ms) (hv : cs.2.2.2.1 = nI 24) (iw : X12_inWords F (nI n) ms.1 ms.2.1 ms.2.2.1 g = some (nI 19)) (hF : 2000 < F) : StepR n B q C fp mfp at0 (X10_takeStep_j22 F (nI d) (nI n) cs.1 cs.2.1 cs.2.2.1 cs.2.2.2.1 cs.2.2.2.2 (nI 0) fp f (nI K) wf opc (nI N) co so nu (nI 24)) (X12_weekStep F (nI n) ms.1 ms.2.1 ms.2.2.1 ms.2.2.2 mfp (nI 0) (nI d) (nI K) at0 names g opm) := by
  have b := tk_bnd h
  have h' := h
  obtain ⟨⟨p, tk⟩, h1, h2, h3, h4, h5, h6⟩ := h
  obtain ⟨e9, mb, kb, db⟩ := WD_bnd hd
  by_cases d0 : d = 0
  · subst d0
    have fl := q_fails (fp := mfp) (k := 2) h4 h5 b.2.1 (by omega)
    have fh := q_here (fp := fp) h1 h2 b.2.1
    rw [show fk 1 2 = 2 from rfl] at fl fh
    refine Or.inr ⟨2, q, mkS [nI 0, cs.1, cs.2.1, cs.2.2.1, cs.2.2.2.1, nI 2, nI q, nI K] [cs.2.2.2.2] [wf, opc] [], mkS [nI 0, ms.1, ms.2.1, ms.2.2.1, ms.2.2.2, nI q, nI 2, nI 0, nI K] [] [at0, opm] [], by omega, by omega, ?_, ?_, rfl, rfl, rfl, rfl, rfl, fun _ _ => rfl⟩
    · unfold X10_takeStep_j22 X10_takeClose X10_takeClose_j16
      simp (maxSteps := 4000000) (disch := omega) only [↓reduceIte, l_0, l_1, l_2, l_3, l_4, l_5, l_6, l_7, l_8, l_9, l_10, l_11, l_12, l_13, l_14, l_15, l_16, l_17, l_18, l_19, l_20, l_21, l_22, l_23, l_24, l_25, l_26, l_27, l_30, l_31, l_32, l_40, l_48, l_57, l_59, l_60, l_61, l_62, l_64, l_83, l_90, l_97, l_99, l_100, l_108, l_115, l_122, l_123, l_127, l_128, l_131, l_135, l_200, l_255, l_256, l_300, l_487, l_495, l_900, l_999, l_1000, l_1700, l_1792, l_1980, l_2048, l_2475, l_2970, l_3121, l_9999, l_10000, l_11351, l_65536, l_100000, l_1000000, ↓l_m1, l_neg, nI_add, pk_mul, pk_sub, q_leT, q_leF, q_ltT, q_ltF, q_eqT, q_eqF, q_m1e, q_m1e2, q_m1lt, q_m1le, q_m1nl, q_m1nle, q_m1s, q_ix, q_jat, q_jput, q_min1, q_min2, q_max1, q_max2, q_or0, q_0or, q_bs, if_true, if_false, true_and, and_true, false_and, and_false, not_true_eq_false, not_false_eq_true, eq_self, Bool.false_eq_true, q_z0, q_z1, fh]
    · unfold X12_weekStep X12_weekStep_j42 X12_weekStep_j62 X12_weekStep_j75
      simp (maxSteps := 4000000) (disch := omega) only [↓reduceIte, l_0, l_1, l_2, l_3, l_4, l_5, l_6, l_7, l_8, l_9, l_10, l_11, l_12, l_13, l_14, l_15, l_16, l_17, l_18, l_19, l_20, l_21, l_22, l_23, l_24, l_25, l_26, l_27, l_30, l_31, l_32, l_40, l_48, l_57, l_59, l_60, l_61, l_62, l_64, l_83, l_90, l_97, l_99, l_100, l_108, l_115, l_122, l_123, l_127, l_128, l_131, l_135, l_200, l_255, l_256, l_300, l_487, l_495, l_900, l_999, l_1000, l_1700, l_1792, l_1980, l_2048, l_2475, l_2970, l_3121, l_9999, l_10000, l_11351, l_65536, l_100000, l_1000000, ↓l_m1, l_neg, nI_add, pk_mul, pk_sub, q_leT, q_leF, q_ltT, q_ltF, q_eqT, q_eqF, q_m1e, q_m1e2, q_m1lt, q_m1le, q_m1nl, q_m1nle, q_m1s, q_ix, q_jat, q_jput, q_min1, q_min2, q_max1, q_max2, q_or0, q_0or, q_bs, if_true, if_false, true_and, and_true, false_and, and_false, not_true_eq_false, not_false_eq_true, eq_self, Bool.false_eq_true, q_z0, q_z1, l_1989, l_2107, iw, e9, fl]
  obtain ⟨o, co', p1, p2, om, ck, m60, k30, d3, top⟩ := WD_top hd (by omega)
  obtain ⟨q1, kd1, e1, v1, cs1, ms1, a1, a2, t1, l1⟩ := s_adv (F := F) hx h' (by omega) hF
  have qe := b.2.2.2.1 (by omega) (by omega)
  have st := q_set (n := 180) (w := 6) (m := K) (r := co') (c := 5) (f := wf) (nI K) (by omega) (by omega) (by omega) (by omega)
  have m61 : m ≤ 59 := by omega
  have wo : X12_weekOrder F (nI n) ms1.1 ms1.2.1 ms1.2.2.1 ms1.2.2.2 mfp (nI 0) (rowA at0 m 19) names g (nI 19) (nI (2107 + 6 * m)) = some (nI 1, ms1.1, ms1.2.1, ms1.2.2.1, ms1.2.2.2, mfp, nI 0, rowA at0 m 19) := by
    unfold X12_weekOrder
    simp (maxSteps := 4000000) (disch := omega) only [↓reduceIte, l_0, l_1, l_2, l_3, l_4, l_5, l_6, l_7, l_8, l_9, l_10, l_11, l_12, l_13, l_14, l_15, l_16, l_17, l_18, l_19, l_20, l_21, l_22, l_23, l_24, l_25, l_26, l_27, l_30, l_31, l_32, l_40, l_48, l_57, l_59, l_60, l_61, l_62, l_64, l_83, l_90, l_97, l_99, l_100, l_108, l_115, l_122, l_123, l_127, l_128, l_131, l_135, l_200, l_255, l_256, l_300, l_487, l_495, l_900, l_999, l_1000, l_1700, l_1792, l_1980, l_2048, l_2475, l_2970, l_3121, l_9999, l_10000, l_11351, l_65536, l_100000, l_1000000, ↓l_m1, l_neg, nI_add, pk_mul, pk_sub, q_leT, q_leF, q_ltT, q_ltF, q_eqT, q_eqF, q_m1e, q_m1e2, q_m1lt, q_m1le, q_m1nl, q_m1nle, q_m1s, q_ix, q_jat, q_jput, q_min1, q_min2, q_max1, q_max2, q_or0, q_0or, q_bs, if_true, if_false, true_and, and_true, false_and, and_false, not_true_eq_false, not_false_eq_true, eq_self, Bool.false_eq_true, q_z0, q_z1]
  have mr : X12_weekStep F (nI n) ms.1 ms.2.1 ms.2.2.1 ms.2.2.2 mfp (nI 0) (nI d) (nI K) at0 names g opm = X12_weekStep_j228 F (nI n) ms1.1 ms1.2.1 ms1.2.2.1 ms1.2.2.2 mfp (nI 0) (nI d) (nI K) (rowA at0 m 19) names g opm (nI 19) (nI m) (nI (2107 + 6 * m)) := by
    have j := m_j139 (F := F) (n := n) (K := K) (m := m) (at0 := at0) (opm := opm) (names := names) (mfp := mfp) (w := 19) (dd := nI d) (v2 := nI m) (v4 := nI 0) (k0 := nI 0) (k1 := nI K) (by omega) a2 e9 hF
    rw [wo, q_bs] at j
    have j2 := j.trans ((if_neg (show ¬ nI 1 = 0 by decide)).trans (if_pos rfl))
    rw [nI_add, Nat.add_zero] at j2
    rw [← j2]
    unfold X12_weekStep X12_weekStep_j42 X12_weekStep_j62 X12_weekStep_j81 X12_weekStep_j103 X12_weekStep_j123
    simp (maxSteps := 4000000) (disch := omega) only [↓reduceIte, l_0, l_1, l_2, l_3, l_4, l_5, l_6, l_7, l_8, l_9, l_10, l_11, l_12, l_13, l_14, l_15, l_16, l_17, l_18, l_19, l_20, l_21, l_22, l_23, l_24, l_25, l_26, l_27, l_30, l_31, l_32, l_40, l_48, l_57, l_59, l_60, l_61, l_62, l_64, l_83, l_90, l_97, l_99, l_100, l_108, l_115, l_122, l_123, l_127, l_128, l_131, l_135, l_200, l_255, l_256, l_300, l_487, l_495, l_900, l_999, l_1000, l_1700, l_1792, l_1980, l_2048, l_2475, l_2970, l_3121, l_9999, l_10000, l_11351, l_65536, l_100000, l_1000000, ↓l_m1, l_neg, nI_add, pk_mul, pk_sub, q_leT, q_leF, q_ltT, q_ltF, q_eqT, q_eqF, q_m1e, q_m1e2, q_m1lt, q_m1le, q_m1nl, q_m1nle, q_m1s, q_ix, q_jat, q_jput, q_min1, q_min2, q_max1, q_max2, q_or0, q_0or, q_bs, if_true, if_false, true_and, and_true, false_and, and_false, not_true_eq_false, not_false_eq_true, eq_self, Bool.false_eq_true, q_z0, q_z1, l_1989, l_2107, iw, e9]
  rw [mr]
  have W := top (upd wf (co' * 6 + 5) (nI K)) (upd (upd (rowA at0 m 19) (2107 + 6 * m + 4) (nI o)) (2107 + 6 * o + 4) (nI m)) rfl (fun i c hi hc ne => by rw [pk_un (by omega), pk_un (by omega), rowA_o (by omega) (by omega)]) pk_us (fun c hc c3 => by
    rw [pk_un (by omega)]
    by_cases c4 : c = 4
    · subst c4; rw [pk_us]; rfl
    · rw [pk_un (by omega), rowA_r hc]
      by_cases c0 : c = 0
      · rw [if_pos c0, if_pos c0]
      · rw [if_neg c0, if_neg c0, if_neg c4]) (by rw [pk_un (by omega), pk_un (by omega)]; exact rowA_9)
  have fro : ∀ j, j < 1980 → upd (upd (rowA at0 m 19) (2107 + 6 * m + 4) (nI o)) (2107 + 6 * o + 4) (nI m) j = at0 j := fun j hj => by rw [pk_un (by omega), pk_un (by omega), rowA_o (by omega) (by omega)]
  rcases s_end (F := F) fp mfp hx t1 hF with ⟨q2, kd2, e2, v2, cs2, ms2, g1, g2, t2, l2⟩ | ⟨k, k1, k7, g1, g2⟩
  · refine Or.inl ⟨q2, kd2, e2, v2, m + 1, d - 1, K, cs2, ms2, _, opc, _, opm, ?_, ?_, t2, by omega, W, fro⟩
    · unfold X10_takeStep_j22 X10_takeClose
      simp (maxSteps := 4000000) (disch := omega) only [↓reduceIte, l_0, l_1, l_2, l_3, l_4, l_5, l_6, l_7, l_8, l_9, l_10, l_11, l_12, l_13, l_14, l_15, l_16, l_17, l_18, l_19, l_20, l_21, l_22, l_23, l_24, l_25, l_26, l_27, l_30, l_31, l_32, l_40, l_48, l_57, l_59, l_60, l_61, l_62, l_64, l_83, l_90, l_97, l_99, l_100, l_108, l_115, l_122, l_123, l_127, l_128, l_131, l_135, l_200, l_255, l_256, l_300, l_487, l_495, l_900, l_999, l_1000, l_1700, l_1792, l_1980, l_2048, l_2475, l_2970, l_3121, l_9999, l_10000, l_11351, l_65536, l_100000, l_1000000, ↓l_m1, l_neg, nI_add, pk_mul, pk_sub, q_leT, q_leF, q_ltT, q_ltF, q_eqT, q_eqF, q_m1e, q_m1e2, q_m1lt, q_m1le, q_m1nl, q_m1nle, q_m1s, q_ix, q_jat, q_jput, q_min1, q_min2, q_max1, q_max2, q_or0, q_0or, q_bs, if_true, if_false, true_and, and_true, false_and, and_false, not_true_eq_false, not_false_eq_true, eq_self, Bool.false_eq_true, q_z0, q_z1, st, a1, g1, p1]
    · unfold X12_weekStep_j228 X12_weekStep_j285
      simp (maxSteps := 4000000) (disch := omega) only [↓reduceIte, l_0, l_1, l_2, l_3, l_4, l_5, l_6, l_7, l_8, l_9, l_10, l_11, l_12, l_13, l_14, l_15, l_16, l_17, l_18, l_19, l_20, l_21, l_22, l_23, l_24, l_25, l_26, l_27, l_30, l_31, l_32, l_40, l_48, l_57, l_59, l_60, l_61, l_62, l_64, l_83, l_90, l_97, l_99, l_100, l_108, l_115, l_122, l_123, l_127, l_128, l_131, l_135, l_200, l_255, l_256, l_300, l_487, l_495, l_900, l_999, l_1000, l_1700, l_1792, l_1980, l_2048, l_2475, l_2970, l_3121, l_9999, l_10000, l_11351, l_65536, l_100000, l_1000000, ↓l_m1, l_neg, nI_add, pk_mul, pk_sub, q_leT, q_leF, q_ltT, q_ltF, q_eqT, q_eqF, q_m1e, q_m1e2, q_m1lt, q_m1le, q_m1nl, q_m1nle, q_m1s, q_ix, q_jat, q_jput, q_min1, q_min2, q_max1, q_max2, q_or0, q_0or, q_bs, if_true, if_false, true_and, and_true, false_and, and_false, not_true_eq_false, not_false_eq_true, eq_self, Bool.false_eq_true, q_z0, q_z1, l_1989, l_2107, p2, g2]
  · refine Or.inr ⟨k, q1, _, _, k1, k7, by unfold X10_takeStep_j22 X10_takeClose; simp (maxSteps := 4000000) (disch := omega) only [↓reduceIte, l_0, l_1, l_2, l_3, l_4, l_5, l_6, l_7, l_8, l_9, l_10, l_11, l_12, l_13, l_14, l_15, l_16, l_17, l_18, l_19, l_20, l_21, l_22, l_23, l_24, l_25, l_26, l_27, l_30, l_31, l_32, l_40, l_48, l_57, l_59, l_60, l_61, l_62, l_64, l_83, l_90, l_97, l_99, l_100, l_108, l_115, l_122, l_123, l_127, l_128, l_131, l_135, l_200, l_255, l_256, l_300, l_487, l_495, l_900, l_999, l_1000, l_1700, l_1792, l_1980, l_2048, l_2475, l_2970, l_3121, l_9999, l_10000, l_11351, l_65536, l_100000, l_1000000, ↓l_m1, l_neg, nI_add, pk_mul, pk_sub, q_leT, q_leF, q_ltT, q_ltF, q_eqT, q_eqF, q_m1e, q_m1e2, q_m1lt, q_m1le, q_m1nl, q_m1nle, q_m1s, q_ix, q_jat, q_jput, q_min1, q_min2, q_max1, q_max2, q_or0, q_0or, q_bs, if_true, if_false, true_and, and_true, false_and, and_false, not_true_eq_false, not_false_eq_true, eq_self, Bool.false_eq_true, q_z0, q_z1, st, a1, g1, p1]; rfl, by unfold X12_weekStep_j228 X12_weekStep_j285; simp (maxSteps := 4000000) (disch := omega) only [↓reduceIte, l_0, l_1, l_2, l_3, l_4, l_5, l_6, l_7, l_8, l_9, l_10, l_11, l_12, l_13, l_14, l_15, l_16, l_17, l_18, l_19, l_20, l_21, l_22, l_23, l_24, l_25, l_26, l_27, l_30, l_31, l_32, l_40, l_48, l_57, l_59, l_60, l_61, l_62, l_64, l_83, l_90, l_97, l_99, l_100, l_108, l_115, l_122, l_123, l_127, l_128, l_131, l_135, l_200, l_255, l_256, l_300, l_487, l_495, l_900, l_999, l_1000, l_1700, l_1792, l_1980, l_2048, l_2475, l_2970, l_3121, l_9999, l_10000, l_11351, l_65536, l_100000, l_1000000, ↓l_m1, l_neg, nI_add, pk_mul, pk_sub, q_leT, q_leF, q_ltT, q_ltF, q_eqT, q_eqF, q_m1e, q_m1e2, q_m1lt, q_m1le, q_m1nl, q_m1nle, q_m1s, q_ix, q_jat, q_jput, q_min1, q_min2, q_max1, q_max2, q_or0, q_0or, q_bs, if_true, if_false, true_and, and_true, false_and, and_false, not_true_eq_false, not_false_eq_true, eq_self, Bool.false_eq_true, q_z0, q_z1, l_1989, l_2107, p2, g2]; rfl, rfl, rfl, rfl, rfl, rfl, fro⟩
end ST
