/-! ===== PURE 21.k: weeks ===== -/
theorem MS_cong9 {C : Cy} {g g' : Nat → Int32} (ok : Ok C) (h : MS C g) (hg : ∀ k, k < 127 → k ≠ 9 → g' k = g k) : MS C g' := by
  obtain ⟨o0, oR, oE, oH, oW⟩ := ok
  obtain ⟨a0, a1, a2, a3, a4, a5, a6⟩ := h
  exact ⟨fun k hk => by rw [hg k (by omega) (by omega)]; exact a0 k hk, fun r c hr hc => by rw [hg _ (by omega) (by omega)]; exact a1 r c hr hc, fun x hx h => by rw [hg _ (by omega) (by omega)]; exact a2 x hx h, fun x hx h => by rw [hg _ (by omega) (by omega)]; exact a3 x hx h, fun x c hx h1 hc => by rw [hg _ (by omega) (by omega)]; exact a4 x c hx h1 hc, fun x c hx hc => by rw [hg _ (by omega) (by omega)]; exact a5 x c hx hc, fun x c hx hc => by rw [hg _ (by omega) (by omega)]; exact a6 x c hx hc⟩
theorem WR_new {C : Cy} {m K : Nat} {wf opc at1 opm old : Nat → Int32} (h : WD C m 0 K wf opc at1 opm) : WR C (nI 1) (nI K) (cp 180 wf old) (wcpW at1) := by
  obtain ⟨R, dep, enc, ws, cl, rw', n9, op⟩ := h
  obtain ⟨nst, w1, w2, w3, w4, w5, w6, w7, w8⟩ := ws
  refine Or.inr ⟨rfl, R, m, by omega, by omega, ?_, by rw [w3], fun q hq => (w6 q hq).1, fun q hq q19 => ?_, fun q c hq hc c3 => ?_, dep, enc, nst, w1⟩
  · unfold wcpW
    rw [putN_out (by omega), pk_us]; exact n9
  · have l := cls_lt (R := R) hq q19
    have c := cl q hq q19
    unfold ClRow at c ⊢
    rw [cp_in (show cls R q * 6 + 0 < 180 by omega), cp_in (show cls R q * 6 + 1 < 180 by omega), cp_in (show cls R q * 6 + 2 < 180 by omega), cp_in (show cls R q * 6 + 3 < 180 by omega), cp_in (show cls R q * 6 + 4 < 180 by omega), cp_in (show cls R q * 6 + 5 < 180 by omega)]
    exact c
  · unfold wcpW
    rw [Nat.add_assoc, putN_in (by omega), ← Nat.add_assoc]
    exact rw' q c hq hc c3
theorem ok_weeks' {F : Nat} (hF : 2000 < F) : ok_weeks F Rel := fun S T v1 h => by
  have h' := h
  obtain ⟨a1, a2, a3, ⟨n0, n9, e66, et1, tp⟩, a5, a6, a7, a8⟩ := h'
  obtain ⟨C, ok, h8, wb, ⟨⟨c0, c1, c2, c3, c5, c6, c8, c9, c10⟩, cR, cT, cF, cX, cH, cW⟩, hM, nr, wr⟩ := Rel_city h
  unfold xx_weeks xm_weeks
  rw [e66, et1]
  have refd : X12_begins F (nI n0) (T.1 2) (T.1 3) (T.1 4) (T.1 5) (T.1 6) (T.1 8) (T.1 9) (T.1 10) (T.2.2.1 3) (T.2.2.1 4) v1 (nI 300) = some (mkS [0, nI n0, T.1 2, T.1 3, T.1 4, T.1 5, T.1 6, T.1 8, T.1 9, T.1 10] [] [T.2.2.1 4] []) → (X11_within v1 (nI 0) (nI n0) = some (nI 0) ∨ (X11_within v1 (nI 0) (nI n0) = some (nI 1) ∧ ¬ v1 ≤ 300)) → X12_weeks F (T.1 0) (nI n0) (T.1 2) (T.1 3) (T.1 4) (T.1 5) (T.1 6) (T.1 7) (T.1 8) (T.1 9) (T.1 10) (T.1 12) (T.1 13) (T.2.2.1 0) (T.2.2.2 0) (T.2.2.1 3) (T.2.2.1 4) (T.2.2.1 5) v1 = some (mkS [m1, nI 1, nI n0, T.1 2, T.1 3, T.1 4, T.1 5, T.1 6, T.1 7, T.1 8, T.1 9, T.1 10, T.1 12, T.1 13] [] [T.2.2.1 0, T.2.2.1 4, T.2.2.1 5] []) ∧ X11_weeks F (S.1 2) (S.1 3) (S.1 4) (S.1 5) (S.1 10) (S.1 13) (S.2.2.2 0) (S.2.2.1 3) (S.2.2.1 4) (S.1 17) (S.2.2.1 8) (nI n0) (S.1 67) (S.1 68) (S.1 69) (S.1 70) (S.1 71) (S.2.1 2) (S.1 72) (S.1 73) (S.2.2.1 45) (S.1 87) (S.1 88) (S.2.2.1 55) (S.2.2.1 56) v1 = some (mkS [m1, S.1 2, S.1 3, S.1 4, nI 1, S.1 10, S.1 17, nI n0, S.1 67, S.1 68, S.1 69, S.1 70, S.1 71, S.1 72, S.1 73, S.1 87, S.1 88] [S.2.1 2] [S.2.2.1 8, S.2.2.1 55, S.2.2.1 56] []) := fun hb hw => by
    refine ⟨by unfold X12_weeks X12_refuse; refine bd_st hb ?_; refine (if_pos rfl).trans ?_; rfl, ?_⟩
    unfold X11_weeks X11_weeks_j22 X11_none
    rcases hw with hw | ⟨hw, hn⟩
    · refine bd_st hw ?_; refine (if_pos rfl).trans ?_; rfl
    · refine bd_st hw ?_; refine (if_neg (show ¬ nI 1 = 0 by decide)).trans ?_; refine (if_neg hn).trans ?_; rfl
  rcases rngw v1 (a := 0) (b := n0) (by omega) (by omega) with ⟨n, _, nl, rfl⟩ | hv
  case inr =>
    obtain ⟨e2, e1⟩ := refd (by
      unfold X12_begins
      by_cases y : v1 < 0
      · exact if_pos y
      · refine (if_neg y).trans (if_pos ?_)
        by_cases z : nI n0 < v1
        · exact z
        · exact absurd ⟨Int32.not_lt.mp y, Int32.not_lt.mp z⟩ hv) (Or.inl (q_wF hv))
    exact ⟨m1, _, _, mp_st2 e1 rfl, mp_st2 e2 rfl, Rel_new h rfl rfl rfl rfl rfl rfl rfl rfl rfl rfl rfl ⟨n0, n9, rfl, rfl, tp⟩ a5 rfl rfl rfl rfl rfl (fun k h1 h2 => by simp (disch := omega) only [sI, sJ, sA, sB, up_n]) (fun k h1 h2 => by simp (disch := omega) only [sI, sJ, sA, sB, up_n]) (fun k h1 h2 => rfl) rfl (fun k h1 h2 => rfl) (fun k h1 h2 => rfl) (R_ci_gen a8 (fun k hk => by rcases (show k = 0 ∨ k = 1 ∨ k = 2 ∨ k = 3 ∨ k = 4 ∨ k = 5 ∨ k = 6 ∨ k = 7 ∨ k = 8 ∨ k = 9 ∨ k = 10 ∨ k = 11 by omega) with rfl | rfl | rfl | rfl | rfl | rfl | rfl | rfl | rfl | rfl | rfl | rfl <;> rfl) (fun k hk => by rcases (show k = 0 ∨ k = 1 ∨ k = 2 ∨ k = 3 ∨ k = 4 ∨ k = 5 ∨ k = 6 ∨ k = 7 ∨ k = 8 by omega) with rfl | rfl | rfl | rfl | rfl | rfl | rfl | rfl | rfl <;> rfl) rfl (fun k hk => rfl) (fun k hk => rfl))⟩
  have hw : X11_within (nI n) (nI 0) (nI n0) = some (nI 1) := q_wT (Nat.zero_le _) nl (by omega)
  by_cases h3 : n ≤ 300
  case neg =>
    have hn : ¬ nI n ≤ 300 := of_eq_false (q_leF (a := n) (b := 300) (by omega) (by omega))
    obtain ⟨e2, e1⟩ := refd (by
      unfold X12_begins
      simp (maxSteps := 4000000) (disch := omega) only [↓reduceIte, l_0, l_1, l_2, l_3, l_4, l_5, l_6, l_7, l_8, l_9, l_10, l_11, l_12, l_13, l_14, l_15, l_16, l_17, l_18, l_19, l_20, l_21, l_22, l_23, l_24, l_25, l_26, l_27, l_30, l_31, l_32, l_40, l_48, l_57, l_59, l_60, l_61, l_62, l_64, l_83, l_90, l_97, l_99, l_100, l_108, l_115, l_122, l_123, l_127, l_128, l_131, l_135, l_200, l_255, l_256, l_300, l_487, l_495, l_900, l_999, l_1000, l_1700, l_1792, l_1980, l_2048, l_2475, l_2970, l_3121, l_9999, l_10000, l_11351, l_65536, l_100000, l_1000000, ↓l_m1, l_neg, nI_add, pk_mul, pk_sub, q_leT, q_leF, q_ltT, q_ltF, q_eqT, q_eqF, q_m1e, q_m1e2, q_m1lt, q_m1le, q_m1nl, q_m1nle, q_m1s, q_ix, q_jat, q_jput, q_min1, q_min2, q_max1, q_max2, q_or0, q_0or, q_bs, if_true, if_false, true_and, and_true, false_and, and_false, not_true_eq_false, not_false_eq_true, eq_self, Bool.false_eq_true, q_z0, q_z1]) (Or.inr ⟨hw, hn⟩)
    exact ⟨m1, _, _, mp_st2 e1 rfl, mp_st2 e2 rfl, Rel_new h rfl rfl rfl rfl rfl rfl rfl rfl rfl rfl rfl ⟨n0, n9, rfl, rfl, tp⟩ a5 rfl rfl rfl rfl rfl (fun k h1 h2 => by simp (disch := omega) only [sI, sJ, sA, sB, up_n]) (fun k h1 h2 => by simp (disch := omega) only [sI, sJ, sA, sB, up_n]) (fun k h1 h2 => rfl) rfl (fun k h1 h2 => rfl) (fun k h1 h2 => rfl) (R_ci_gen a8 (fun k hk => by rcases (show k = 0 ∨ k = 1 ∨ k = 2 ∨ k = 3 ∨ k = 4 ∨ k = 5 ∨ k = 6 ∨ k = 7 ∨ k = 8 ∨ k = 9 ∨ k = 10 ∨ k = 11 by omega) with rfl | rfl | rfl | rfl | rfl | rfl | rfl | rfl | rfl | rfl | rfl | rfl <;> rfl) (fun k hk => by rcases (show k = 0 ∨ k = 1 ∨ k = 2 ∨ k = 3 ∨ k = 4 ∨ k = 5 ∨ k = 6 ∨ k = 7 ∨ k = 8 by omega) with rfl | rfl | rfl | rfl | rfl | rfl | rfl | rfl | rfl <;> rfl) rfl (fun k hk => rfl) (fun k hk => rfl))⟩
  obtain ⟨N, nm, eN, hn⟩ := NM_of nr
  have eN : S.1 13 = nI N := eN
  rw [eN]
  have cn : wCN C (T.2.2.1 0) := ⟨hM.1 0 (by omega), hM.1 2 (by omega), hM.1 3 (by omega), hM.1 4 (by omega)⟩
  have l3 : nI n ≤ 300 := of_eq_true (q_leT (a := n) (b := 300) h3 (by omega))
  rcases both_weeks (F := F) (dp := S.1 87) (ln := S.1 67) (pl := S.1 68) (nx := S.1 69) (so := S.1 70) (va := S.1 71) (cd := S.2.1 2) (ft := S.1 72) (fpl := S.1 73) (sm := S.1 88) (sc := S.2.2.1 55) (op := S.2.2.1 56) (st := T.1 0) (sz := T.1 2) (tk := T.1 3) (fr := T.1 4) (en := T.1 5) (vl := T.1 6) (fq := T.1 7) (fpl' := T.1 8) (fts := T.1 9) (sn := T.1 10) (dp' := T.1 12) (ct := T.1 13) (tx := T.2.2.1 4) (op' := T.2.2.1 5) ok hn cn nl h3 n9 tp hF with ⟨m', K, cs', wf, opc, at1, opm, t1, t2, t3, t4, p1, p2, wd, fr1⟩ | ⟨k, p, u, at1, opm, t1, t2, t3, t4, t5, t6, k1, k7, p1, u0, u2, u8, u9, p2, fr1⟩
  · refine ⟨nI K, _, _, by unfold X11_weeks X11_answer X11_keepFault; apply mp_st2; (refine bd_st hw ?_; refine (if_neg (show ¬ nI 1 = 0 by decide)).trans ?_; refine (if_pos l3).trans ?_; refine bd_st p1 ?_; refine (bd_st (show some _ = some _ from rfl) ?_); refine (if_neg (show ¬ (1 : Int32) = 0 by decide)).trans ?_; refine bd_st (c7copy (n := 180) (by omega) rfl) ?_; rfl); rfl, mp_st2 p2 rfl, ?_⟩
    refine Rel_new h rfl rfl rfl rfl rfl rfl rfl rfl rfl rfl rfl ⟨0, by omega, rfl, rfl, fun j hj => absurd hj (by omega)⟩ (Or.inr ⟨rfl, rfl, rfl⟩) rfl rfl rfl rfl rfl (fun k h1 h2 => ?_) (fun k h1 h2 => ?_) (fun k h1 h2 => ?_) rfl (fun k h1 h2 => ?_) (fun k h1 h2 => rfl) (R_ci_of (C := C) ⟨ok, h8, wb, ⟨⟨c0, c1, c2, c3, c5, c6, c8, c9, c10⟩, cR, cT, cF, cX, cH, cW⟩, MS_cong9 ok hM (fun k hk k9 => ?_), ?_, WR_new wd⟩)
    · simp (disch := omega) only [sI, sJ, sA, sB, up_n]
    · simp (disch := omega) only [sI, sJ, sA, sB, up_n]
    · simp (disch := omega) only [sI, sJ, sA, sB, up_n]
    · show wcpW at1 k = T.2.2.1 0 k
      unfold wcpW; rw [putN_out (by omega), pk_un (by omega)]; exact fr1 k (by omega)
    · show wcpW at1 k = T.2.2.1 0 k
      unfold wcpW; rw [putN_out (by omega), pk_un (by omega)]; exact fr1 k (by omega)
    · exact nr
  · refine ⟨m1, _, _, by unfold X11_weeks X11_none X11_keepFault; apply mp_st2; (refine bd_st hw ?_; refine (if_neg (show ¬ nI 1 = 0 by decide)).trans ?_; refine (if_pos l3).trans ?_; refine bd_st p1 ?_; refine (bd_st (show some _ = some _ from rfl) ?_); refine (if_pos u0).trans ?_; rfl); rfl, mp_st2 p2 rfl, ?_⟩
    refine Rel_new h rfl rfl rfl rfl rfl rfl rfl rfl rfl rfl rfl ⟨0, by omega, u2, rfl, fun j hj => absurd hj (by omega)⟩ (Or.inr ⟨rfl, u8, u9⟩) rfl rfl rfl rfl rfl (fun k h1 h2 => ?_) (fun k h1 h2 => ?_) (fun k h1 h2 => ?_) rfl (fun k h1 h2 => fr1 k (by omega)) (fun k h1 h2 => rfl) (R_ci_gen a8 (fun k hk => ?_) (fun k hk => ?_) rfl (fun k hk => fr1 _ (by omega)) (fun k hk => rfl))
    · simp (disch := omega) only [sI, sJ, sA, sB, up_n]
    · simp (disch := omega) only [sI, sJ, sA, sB, up_n]
    · simp (disch := omega) only [sI, sJ, sA, sB, up_n]
    · rcases (show k = 0 ∨ k = 1 ∨ k = 2 ∨ k = 3 ∨ k = 4 ∨ k = 5 ∨ k = 6 ∨ k = 7 ∨ k = 8 ∨ k = 9 ∨ k = 10 ∨ k = 11 by omega) with rfl | rfl | rfl | rfl | rfl | rfl | rfl | rfl | rfl | rfl | rfl | rfl <;> rfl
    · rcases (show k = 0 ∨ k = 1 ∨ k = 2 ∨ k = 3 ∨ k = 4 ∨ k = 5 ∨ k = 6 ∨ k = 7 ∨ k = 8 by omega) with rfl | rfl | rfl | rfl | rfl | rfl | rfl | rfl | rfl <;> rfl
