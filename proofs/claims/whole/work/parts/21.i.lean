/-! ===== PURE 21.i: any STEP; all STEPS ===== -/
def wCN (C : Cy) (at0 : Nat → Int32) : Prop := at0 0 = nI (C 0 0 0) ∧ at0 2 = nI (C 0 0 2) ∧ at0 3 = nI (C 0 0 3) ∧ at0 4 = nI (C 0 0 4)
section ST
variable {F n q kd e v N m d K : Nat} {C : Cy} {nm : Nat → Nat → Nat} {co : Nat → Int64} {so nu wf opc at0 opm f g : Nat → Int32} {names : Nat → Int64} {B : Nat → Nat} {cs : cSt} {ms : mTk} {fp mfp : Int32}
theorem p_ord {c w op : Nat} (o : OrdW c w op) (ok : Ok C) (hn : NM C N nm co so nu (fun k => names (0 + k))) (cn : wCN C at0) (hx : TX n B f g) (h : TkR n B q 1 e v cs ms) (hd : WD C m d K wf opc at0 opm) (hv : cs.2.2.2.1 = nI c) (iw : X12_inWords F (nI n) ms.1 ms.2.1 ms.2.2.1 g = some (nI w)) (hF : 2000 < F) : StepR n B q C fp mfp at0 (X10_takeStep F (nI d) (nI n) cs.1 cs.2.1 cs.2.2.1 cs.2.2.2.1 cs.2.2.2.2 (nI 0) fp f (nI K) wf opc (nI N) co so nu) (X12_weekStep F (nI n) ms.1 ms.2.1 ms.2.2.1 ms.2.2.2 mfp (nI 0) (nI d) (nI K) at0 names g opm) := by
  obtain ⟨e9, mb, kb, db⟩ := WD_bnd hd
  have b := tk_bnd h
  have h2 : cs.2.2.1 = nI 1 := h.2.2.1
  by_cases hK : K < 30
  case neg => exact p_many o (by omega) db (by omega) e9 h hv iw
  by_cases hop : op = 1 → d < 3
  case neg =>
    have op1 : op = 1 := Classical.byContradiction fun z => hop (fun y => absurd y z)
    subst op1
    exact p_deep o hK (by have : ¬ d < 3 := fun z => hop (fun _ => z); omega) (by omega) e9 h hv iw
  obtain ⟨q1, kd1, e1, v1, cs1, ms1, a1, a2, t1, l1⟩ := s_adv (F := F) hx h (by omega) hF
  have qe := b.2.2.2.1 (by omega) (by omega)
  have m60 : m ≤ 60 := by omega
  obtain ⟨c0, c2, c3, c4⟩ := cn
  have ql : q < q1 := by omega
  have d0 : rowA at0 m w 0 = nI (C 0 0 0) := by rw [rowA_o (by omega) (by omega)]; exact c0
  have d2 : rowA at0 m w 2 = nI (C 0 0 2) := by rw [rowA_o (by omega) (by omega)]; exact c2
  have d3 : rowA at0 m w 3 = nI (C 0 0 3) := by rw [rowA_o (by omega) (by omega)]; exact c3
  have d4 : rowA at0 m w 4 = nI (C 0 0 4) := by rw [rowA_o (by omega) (by omega)]; exact c4
  have hop' : op = 0 ∨ (op = 1 ∧ d < 3) := by
    have : op = 0 ∨ op = 1 := by unfold OrdW at o; omega
    rcases this with z | z
    · exact Or.inl z
    · exact Or.inr ⟨z, hop z⟩
  have w19 : w ≠ 19 ∧ w < 100 ∧ c < 100 := by unfold OrdW at o; omega
  have fin : ∀ a b, RestR n B q1 C m K op fp mfp (rowW wf K c) (rowA at0 m w) a b → StepR n B q C fp mfp at0 (a.bind (fun u => X10_takeStep_j174 F (nI d) (nI n) u.1 u.2.1 u.2.2.1 u.2.2.2.1 u.2.2.2.2.1 u.2.2.2.2.2.1 u.2.2.2.2.2.2.1 f (nI (K + 1)) u.2.2.2.2.2.2.2 opc (nI N) co so nu (nI op) (nI K))) _ := fun a b r => st_end (names := names) w19.1 w19.2.1 hop' hd hK (fun j hj => rowW_o hj) (fun j h1 h2 => rowA_o h1 h2) rowA_9 hx ql r hF
  rw [c_ord o hK hop h2 hv, m_ord o hK m60 hop db e9 iw, m_j139 m60 a2 e9 hF]
  by_cases c18 : c = 18
  · have w17 : w = 17 ∧ op = 1 := by unfold OrdW at o; omega
    obtain ⟨rfl, rfl⟩ := w17
    subst c18
    rw [c_j112w hK a1 hF]
    exact fin _ _ (r_when ok hn d0 d2 d3 d4 rowW_Wz rowA_Az hK m60 hx t1 hF)
  · rw [c_j112 hK c18 w19.2.2 a1 hF]
    refine fin _ _ ?_
    rcases o with ⟨rfl, rfl, rfl⟩ | ⟨rfl, rfl, rfl⟩ | ⟨rfl, rfl, rfl⟩ | ⟨rfl, rfl, rfl⟩ | ⟨rfl, rfl, rfl⟩ | ⟨rfl, rfl, rfl⟩ | ⟨rfl, rfl, rfl⟩
    · exact r_hour rowW_Wz rowA_Az hK m60 hx t1 hF
    · exact r_order ok hn d2 d3 rowW_Wz rowA_Az hK m60 hx t1 hF
    · exact r_put ok hn d3 rowW_Wz rowA_Az hK m60 hx t1 hF
    · exact r_any rowW_Wz rowA_Az hK m60 t1
    · exact r_stop rowW_Wz rowA_Az hK m60 t1
    · exact r_loop rowW_Wz rowA_Az hK m60 hx t1 hF
    · exact absurd rfl c18
theorem p_step (ok : Ok C) (hn : NM C N nm co so nu (fun k => names (0 + k))) (cn : wCN C at0) (hx : TX n B f g) (h : TkR n B q kd e v cs ms) (hd : WD C m d K wf opc at0 opm) (hF : 2000 < F) : StepR n B q C fp mfp at0 (X10_takeStep F (nI d) (nI n) cs.1 cs.2.1 cs.2.2.1 cs.2.2.2.1 cs.2.2.2.2 (nI 0) fp f (nI K) wf opc (nI N) co so nu) (X12_weekStep F (nI n) ms.1 ms.2.1 ms.2.2.1 ms.2.2.2 mfp (nI 0) (nI d) (nI K) at0 names g opm) := by
  obtain ⟨e9, mb, kb, db⟩ := WD_bnd hd
  have b := tk_bnd h
  have h' := h
  obtain ⟨⟨p, tk⟩, h1, h2, h3, h4, h5, h6⟩ := h'
  by_cases k1 : kd = 1
  · subst k1
    have en := (b.2.2.1 (by omega)).1
    have qe := b.2.2.2.1 (by omega) (by omega)
    have iw := m_inWords (F := F) hx (show q ≤ e by omega) en hF
    rw [← h5, ← h6.1 (by omega)] at iw
    have iw' : X12_inWords F (nI n) ms.1 ms.2.1 ms.2.2.1 g = some (oI (pm (wno B q e))) := by rw [h4]; exact iw
    have wl : wno B q e ≤ 25 := words_le _
    have wv := (h3.2.1 rfl).1
    by_cases z1 : wno B q e = 10
    · rw [z1] at iw' wv
      exact p_ord (Or.inl ⟨rfl, rfl, rfl⟩) ok hn cn hx h hd wv iw' hF
    by_cases z2 : wno B q e = 15
    · rw [z2] at iw' wv
      exact p_ord (Or.inr (Or.inl ⟨rfl, rfl, rfl⟩)) ok hn cn hx h hd wv iw' hF
    by_cases z3 : wno B q e = 16
    · rw [z3] at iw' wv
      exact p_ord (Or.inr (Or.inr (Or.inl ⟨rfl, rfl, rfl⟩))) ok hn cn hx h hd wv iw' hF
    by_cases z4 : wno B q e = 17
    · rw [z4] at iw' wv
      exact p_ord (Or.inr (Or.inr (Or.inr (Or.inl ⟨rfl, rfl, rfl⟩)))) ok hn cn hx h hd wv iw' hF
    by_cases z5 : wno B q e = 25
    · rw [z5] at iw' wv
      exact p_ord (Or.inr (Or.inr (Or.inr (Or.inr (Or.inl ⟨rfl, rfl, rfl⟩))))) ok hn cn hx h hd wv iw' hF
    by_cases z6 : wno B q e = 23
    · rw [z6] at iw' wv
      exact p_ord (Or.inr (Or.inr (Or.inr (Or.inr (Or.inr (Or.inl ⟨rfl, rfl, rfl⟩)))))) ok hn cn hx h hd wv iw' hF
    by_cases z7 : wno B q e = 18
    · rw [z7] at iw' wv
      exact p_ord (Or.inr (Or.inr (Or.inr (Or.inr (Or.inr (Or.inr ⟨rfl, rfl, rfl⟩)))))) ok hn cn hx h hd wv iw' hF
    have cl : X10_takeStep F (nI d) (nI n) cs.1 cs.2.1 cs.2.2.1 cs.2.2.2.1 cs.2.2.2.2 (nI 0) fp f (nI K) wf opc (nI N) co so nu = X10_takeStep_j22 F (nI d) (nI n) cs.1 cs.2.1 cs.2.2.1 cs.2.2.2.1 cs.2.2.2.2 (nI 0) fp f (nI K) wf opc (nI N) co so nu (nI (wno B q e)) := by
      rw [← wv]
      unfold X10_takeStep
      rw [if_pos (show cs.2.2.1 = 1 from h2)]
    rw [cl]
    by_cases z8 : wno B q e = 24
    · rw [z8] at iw' wv ⊢
      exact p_close hx hd h wv iw' hF
    have ne : ∀ k, k < 100 → wno B q e ≠ k → nI (wno B q e) ≠ nI k := fun k hk hne z => hne ((nI_eq (by omega) (by omega)).mp z)
    refine p_none db h ⟨ne 10 (by omega) z1, ne 15 (by omega) z2, ne 16 (by omega) z3, ne 17 (by omega) z4, ne 18 (by omega) z7, ne 23 (by omega) z6, ne 24 (by omega) z8, ne 25 (by omega) z5⟩ e9 (by omega) iw' ?_
    have key : ∀ w, w < 26 → (w = 10 ∨ w = 15 ∨ w = 16 ∨ w = 17 ∨ w = 18 ∨ w = 23 ∨ w = 24 ∨ w = 25) ∨ w = 0 ∨ (perm.getD (w - 1) 0 ≠ 11 ∧ (perm.getD (w - 1) 0 < 14 ∨ (20 < perm.getD (w - 1) 0 ∧ perm.getD (w - 1) 0 < 100))) := by decide
    rcases key _ (show wno B q e < 26 by omega) with z | z | ⟨z11, z⟩
    · omega
    · exact Or.inl (by rw [z]; rfl)
    · by_cases z0 : wno B q e = 0
      · exact Or.inl (by rw [z0]; rfl)
      · exact Or.inr ⟨_, by unfold pm; rw [if_neg z0]; rfl, z11, z⟩
  · have m2 : ms.1 ≠ 2 := by
      rw [h4]
      unfold mtk
      intro y
      rcases (show kd = 0 ∨ kd = 2 ∨ kd = 3 ∨ kd = 4 by omega) with rfl | rfl | rfl | rfl <;> exact absurd y (by decide)
    have iw := m_inWords0 (F := F) (sz := nI n) (fr := ms.2.1) (en := ms.2.2.1) (g := g) m2
    have cl : X10_takeStep F (nI d) (nI n) cs.1 cs.2.1 cs.2.2.1 cs.2.2.2.1 cs.2.2.2.2 (nI 0) fp f (nI K) wf opc (nI N) co so nu = X10_takeStep_j22 F (nI d) (nI n) cs.1 cs.2.1 cs.2.2.1 cs.2.2.2.1 cs.2.2.2.2 (nI 0) fp f (nI K) wf opc (nI N) co so nu 0 := by
      unfold X10_takeStep
      rw [if_neg (show ¬ cs.2.2.1 = 1 from fun z => by rw [h2] at z; exact k1 ((nI_eq (a := kd) (b := 1) (by omega) (by omega)).mp z))]
    rw [cl]
    exact p_none db h (by decide) e9 (by omega) iw (Or.inl rfl)
end ST
def wlS (i d K : Nat) (cs : cSt) (fp : Int32) (wf opc : Nat → Int32) : vS := mkS [nI i, nI d, cs.1, cs.2.1, cs.2.2.1, cs.2.2.2.1, nI 0, fp, nI K] [cs.2.2.2.2] [wf, opc] []
def wlE (d K : Nat) (cs : cSt) (fp : Int32) (wf opc : Nat → Int32) : vS := mkS [nI d, cs.1, cs.2.1, cs.2.2.1, cs.2.2.2.1, nI 0, fp, nI K] [cs.2.2.2.2] [wf, opc] []
def wmS (d K : Nat) (ms : mTk) (mfp : Int32) (at0 opm : Nat → Int32) : vS := mkS [nI 1, ms.1, ms.2.1, ms.2.2.1, ms.2.2.2, mfp, nI 0, nI d, nI K] [] [at0, opm] []
abbrev WT : Type := Int32 × Int32 × Int32 × Int32 × Int32 × Int32 × Int32 × Int32 × (Nat → Int32) × (Nat → Int32)
section LP
variable {F n N : Nat} {B : Nat → Nat} {f g : Nat → Int32} {C : Cy} {nm : Nat → Nat → Nat} {co : Nat → Int64} {so nu : Nat → Int32} {names : Nat → Int64} (hd : Int32) (fp mfp : Int32)
theorem wb_end {i d K : Nat} {cs : cSt} {wf opc : Nat → Int32} (h2 : cs.2.2.1 = nI 0) : X10_parse_b23 F hd (nI n) f (nI N) co so nu (nI n) (wlS i d K cs fp wf opc) = some (.inr (wlE d K cs fp wf opc)) := by
  have op : X8_isOpen cs.2.2.1 (nI 0) = some (nI 0) := by
    unfold X8_isOpen X8_isOpen_j18
    rw [h2]; rfl
  unfold X10_parse_b23
  by_cases y : nI n ≤ (wlS i d K cs fp wf opc).1 0
  · exact (if_pos y).trans rfl
  · refine (if_neg y).trans (bd_st op ?_)
    exact (if_pos rfl).trans rfl
theorem wb_go {i d K k : Nat} {cs : cSt} {wf opc : Nat → Int32} {u : vS} (hi : i < n) (hn : n ≤ 900) (h2 : cs.2.2.1 = nI k) (k0 : k ≠ 0) (k9 : k < 9) (ht : X10_takeStep F (nI d) (nI n) cs.1 cs.2.1 cs.2.2.1 cs.2.2.2.1 cs.2.2.2.2 (nI 0) fp f (nI K) wf opc (nI N) co so nu = some u) : X10_parse_b23 F hd (nI n) f (nI N) co so nu (nI n) (wlS i d K cs fp wf opc) = some (.inl (mkS [nI (i + 1), u.1 0, u.1 1, u.1 2, u.1 3, u.1 4, u.1 5, u.1 6, u.1 7] [u.2.1 0] [u.2.2.1 0, u.2.2.1 1] [])) := by
  have op : X8_isOpen cs.2.2.1 (nI 0) = some (nI 1) := by
    unfold X8_isOpen X8_isOpen_j18
    rw [h2]
    simp (maxSteps := 4000000) (disch := omega) only [↓reduceIte, l_0, l_1, l_2, l_3, l_4, l_5, l_6, l_7, l_8, l_9, l_10, l_11, l_12, l_13, l_14, l_15, l_16, l_17, l_18, l_19, l_20, l_21, l_22, l_23, l_24, l_25, l_26, l_27, l_30, l_31, l_32, l_40, l_48, l_57, l_59, l_60, l_61, l_62, l_64, l_83, l_90, l_97, l_99, l_100, l_108, l_115, l_122, l_123, l_127, l_128, l_131, l_135, l_200, l_255, l_256, l_300, l_487, l_495, l_900, l_999, l_1000, l_1700, l_1792, l_1980, l_2048, l_2475, l_2970, l_3121, l_9999, l_10000, l_11351, l_65536, l_100000, l_1000000, ↓l_m1, l_neg, nI_add, pk_mul, pk_sub, q_leT, q_leF, q_ltT, q_ltF, q_eqT, q_eqF, q_m1e, q_m1e2, q_m1lt, q_m1le, q_m1nl, q_m1nle, q_m1s, q_ix, q_jat, q_jput, q_min1, q_min2, q_max1, q_max2, q_or0, q_0or, q_bs, if_true, if_false, true_and, and_true, false_and, and_false, not_true_eq_false, not_false_eq_true, eq_self, Bool.false_eq_true, q_z0, q_z1]
  have e1 : nI i + 1 = nI (i + 1) := by rw [show (1 : Int32) = nI 1 from rfl, nI_add]
  unfold X10_parse_b23
  refine (if_neg (show ¬ nI n ≤ nI i from of_eq_false (q_leF (by omega) (by omega)))).trans (bd_st op ((if_neg (show ¬ nI 1 = 0 by decide)).trans (bd_st ht ?_)))
  rw [← e1]; rfl
theorem wb_stop {k : Nat} {st : vS} (h : st.1 6 = nI k) (k1 : 1 ≤ k) (k7 : k ≤ 7) : X10_parse_b23 F hd (nI n) f (nI N) co so nu (nI n) st = some (.inr (mkS [(st.1 1), (st.1 2), (st.1 3), (st.1 4), (st.1 5), (st.1 6), (st.1 7), (st.1 8)] [(st.2.1 0)] [(st.2.2.1 0), (st.2.2.1 1)] [])) := by
  have op : X8_isOpen (st.1 4) (st.1 6) = some (nI 0) := by
    unfold X8_isOpen X8_isOpen_j18
    rw [h]
    simp (maxSteps := 4000000) (disch := omega) only [↓reduceIte, l_0, l_1, l_2, l_3, l_4, l_5, l_6, l_7, l_8, l_9, l_10, l_11, l_12, l_13, l_14, l_15, l_16, l_17, l_18, l_19, l_20, l_21, l_22, l_23, l_24, l_25, l_26, l_27, l_30, l_31, l_32, l_40, l_48, l_57, l_59, l_60, l_61, l_62, l_64, l_83, l_90, l_97, l_99, l_100, l_108, l_115, l_122, l_123, l_127, l_128, l_131, l_135, l_200, l_255, l_256, l_300, l_487, l_495, l_900, l_999, l_1000, l_1700, l_1792, l_1980, l_2048, l_2475, l_2970, l_3121, l_9999, l_10000, l_11351, l_65536, l_100000, l_1000000, ↓l_m1, l_neg, nI_add, pk_mul, pk_sub, q_leT, q_leF, q_ltT, q_ltF, q_eqT, q_eqF, q_m1e, q_m1e2, q_m1lt, q_m1le, q_m1nl, q_m1nle, q_m1s, q_ix, q_jat, q_jput, q_min1, q_min2, q_max1, q_max2, q_or0, q_0or, q_bs, if_true, if_false, true_and, and_true, false_and, and_false, not_true_eq_false, not_false_eq_true, eq_self, Bool.false_eq_true, q_z0, q_z1]
  unfold X10_parse_b23
  by_cases y : nI n ≤ st.1 0
  · exact if_pos y
  · exact (if_neg y).trans (bd_st op ((if_pos rfl).trans rfl))
theorem wlp {a b c d' : Int32} {tp : Nat → Int32} (ok : Ok C) (hn : NM C N nm co so nu (fun k => names (0 + k))) (hx : TX n B f g) (hF : 2000 < F) : ∀ (j i q kd e v m d K : Nat) (wf opc at0 opm : Nat → Int32) (cs : cSt) (ms : mTk) (G : Nat), n - q ≤ j → j + 2 ≤ G → i ≤ q → TkR n B q kd e v cs ms → wCN C at0 → WD C m d K wf opc at0 opm →
    (∃ (q' e' v' m' d2 K' : Nat) (cs' : cSt) (ms' : mTk) (wf' opc' at1 opm' : Nat → Int32),
      iter (X10_parse_b23 F hd (nI n) f (nI N) co so nu (nI n)) G (wlS i d K cs fp wf opc) = some (wlE d2 K' cs' fp wf' opc') ∧
      iter (X12_weeks_b38 F a b (nI n) c d' names tp g) G (wmS d K ms mfp at0 opm) = some (ms'.1, ms'.2.1, ms'.2.2.1, ms'.2.2.2, mfp, nI 0, nI d2, nI K', at1, opm') ∧ TkR n B q' 0 e' v' cs' ms' ∧ WD C m' d2 K' wf' opc' at1 opm' ∧ ∀ j, j < 1980 → at1 j = at0 j) ∨
    (∃ (k p : Nat) (u : vS) (w : WT), 1 ≤ k ∧ k ≤ 7 ∧ iter (X10_parse_b23 F hd (nI n) f (nI N) co so nu (nI n)) G (wlS i d K cs fp wf opc) = some u ∧ u.1 5 = nI k ∧ u.1 6 = nI p ∧
      iter (X12_weeks_b38 F a b (nI n) c d' names tp g) G (wmS d K ms mfp at0 opm) = some w ∧ w.2.2.2.2.1 = nI p ∧ w.2.2.2.2.2.1 = nI k ∧ ∀ j, j < 1980 → w.2.2.2.2.2.2.2.2.1 j = at0 j) := by
  intro j
  induction j using Nat.strongRecOn with
  | ind j ih =>
  intro i q kd e v m d K wf opc at0 opm cs ms G hj hG hi h cn wd
  have n9 := hx.1
  have tb := tk_bnd h
  have h' := h
  obtain ⟨⟨p, tk⟩, h1, h2, h3, h4, h5, h6⟩ := h'
  obtain ⟨G, rfl⟩ : ∃ G', G = G' + 1 := ⟨G - 1, by omega⟩
  by_cases k0 : kd = 0
  · subst k0
    left
    refine ⟨q, e, v, m, d, K, cs, ms, wf, opc, at0, opm, iter_r (wb_end hd fp h2) G, iter_r ?_ G, h, wd, fun _ _ => rfl⟩
    rw [show mtk 0 = 0 from rfl] at h4
    unfold X12_weeks_b38
    exact (if_neg (show ¬ nI 1 = 0 by decide)).trans (if_pos h4)
  have qn : q < n := by
    rcases tk.2.2 with z | z | z | z | z <;> omega
  have mz : ¬ ms.1 = 0 := by
    rw [h4]
    unfold mtk
    rcases (show kd = 1 ∨ kd = 2 ∨ kd = 3 ∨ kd = 4 by omega) with rfl | rfl | rfl | rfl <;> decide
  rcases p_step (F := F) (fp := fp) (mfp := mfp) ok hn cn hx h wd hF with ⟨q', kd', e', v', m', d2, K', cs', ms', wf', opc', at1, opm', p1, p2, t', ql, wd', fr1⟩ | ⟨k, pp, u, w, k1, k7, p1, p2, u5, u6, w0, w1, w2, fr1⟩
  · have c1 := (wb_go (F := F) hd fp (show i < n by omega) n9 h2 k0 (by omega) p1).trans (show _ = some (Sum.inl (wlS (i + 1) d2 K' cs' fp wf' opc')) from rfl)
    have m1' : X12_weeks_b38 F a b (nI n) c d' names tp g (wmS d K ms mfp at0 opm) = some (.inl (wmS d2 K' ms' mfp at1 opm')) := by
      unfold X12_weeks_b38
      exact (if_neg (show ¬ nI 1 = 0 by decide)).trans ((if_neg mz).trans (bd_st p2 rfl))
    rw [iter_l c1, iter_l m1']
    have tb' := tk_bnd t'
    have cn' : wCN C at1 := by
      obtain ⟨x0, x2, x3, x4⟩ := cn
      exact ⟨by rw [fr1 0 (by omega)]; exact x0, by rw [fr1 2 (by omega)]; exact x2, by rw [fr1 3 (by omega)]; exact x3, by rw [fr1 4 (by omega)]; exact x4⟩
    rcases ih (j - 1) (by omega) (i + 1) q' kd' e' v' m' d2 K' wf' opc' at1 opm' cs' ms' G (by omega) (by omega) (by omega) t' cn' wd' with ⟨q3, e3, v3, m3, d3, K3, cs3, ms3, wf3, opc3, at3, opm3, r1, r2, r3, r4, r5⟩ | ⟨k, pp, u, w, k1, k7, r1, r2, r3, r4, r5, r6, r7⟩
    · exact Or.inl ⟨q3, e3, v3, m3, d3, K3, cs3, ms3, wf3, opc3, at3, opm3, r1, r2, r3, r4, fun j hj => by rw [r5 j hj, fr1 j hj]⟩
    · exact Or.inr ⟨k, pp, u, w, k1, k7, r1, r2, r3, r4, r5, r6, fun j hj => by rw [r7 j hj, fr1 j hj]⟩
  · right
    obtain ⟨G, rfl⟩ : ∃ G', G = G' + 1 := ⟨G - 1, by omega⟩
    have c1 := wb_go (F := F) hd fp (show i < n by omega) n9 h2 k0 (by omega) p1
    have m1' : X12_weeks_b38 F a b (nI n) c d' names tp g (wmS d K ms mfp at0 opm) = some (.inl (mkS [(w.1 0), (w.1 1), (w.1 2), (w.1 3), (w.1 4), (w.1 5), (w.1 6), (w.1 7), (w.1 8)] [] [(w.2.2.1 0), (w.2.2.1 1)] [])) := by
      unfold X12_weeks_b38
      exact (if_neg (show ¬ nI 1 = 0 by decide)).trans ((if_neg mz).trans (bd_st p2 rfl))
    have m2 : X12_weeks_b38 F a b (nI n) c d' names tp g (mkS [(w.1 0), (w.1 1), (w.1 2), (w.1 3), (w.1 4), (w.1 5), (w.1 6), (w.1 7), (w.1 8)] [] [(w.2.2.1 0), (w.2.2.1 1)] []) = some (.inr (w.1 1, w.1 2, w.1 3, w.1 4, w.1 5, w.1 6, w.1 7, w.1 8, w.2.2.1 0, w.2.2.1 1)) := by
      unfold X12_weeks_b38
      exact (if_pos w0).trans rfl
    exact ⟨k, pp, _, _, k1, k7, (iter_l c1 _).trans (iter_r (wb_stop (k := k) hd u5 k1 k7) G), u5, u6, (iter_l m1' _).trans (iter_r m2 G), w1, w2, fr1⟩
end LP
