/-! ===== PURE 20.r: city ===== -/
theorem mp_st {α β : Type} {x : Option α} {u : α} {k : α → β} (h : x = some u) : x.map k = some (k u) := by rw [h]; rfl
theorem mp_st2 {α β : Type} {x : Option α} {u : α} {k : α → β} {y : β} (h : x = some u) (hy : k u = y) : x.map k = some y := by rw [h, ← hy]; rfl
theorem NM_cp {C : Cy} {N : Nat} {nm : Nat → Nat → Nat} {co co' : Nat → Int64} {so nu so' nu' : Nat → Int32} {mn mn' : Nat → Int64} (h : NM C N nm co so nu mn) (ok : Ok C) (hm : ∀ k, k < 27 → mn' k = mn k) : NM C N nm (cp 27 co co') (cp 27 so so') (cp 27 nu nu') mn' := by
  obtain ⟨a2, a3, a4, a5, a6⟩ := NM_c h ok (fun _ _ _ => rfl) hm
  refine ⟨a2, fun i hi => ?_, fun s k h1 h4 hk hz => ?_, a5, a6⟩
  · obtain ⟨s, k, b1, b2, b3, b4, b5, b6, b7⟩ := a3 i hi
    exact ⟨s, k, b1, b2, b3, by unfold cp; rw [if_pos (by omega)]; exact b4, by unfold cp; rw [if_pos (by omega)]; exact b5, by unfold cp; rw [if_pos (by omega)]; exact b6, b7⟩
  · obtain ⟨i, b1, b2, b3, b4⟩ := a4 s k h1 h4 hk hz
    exact ⟨i, b1, by unfold cp; rw [if_pos (by omega)]; exact b2, by unfold cp; rw [if_pos (by omega)]; exact b3, by unfold cp; rw [if_pos (by omega)]; exact b4⟩
theorem Rel_new {S T S' T' : vS} (h : Rel S T) (hst : S'.1 5 = T'.1 0) (f1 : S'.2.1 0 = S.2.1 0) (f2 : S'.2.1 1 = S.2.1 1) (f3 : T'.2.1 0 = T.2.1 0) (f4 : T'.2.1 1 = T.2.1 1) (r1 : S'.2.2.2 6 = S.2.2.2 6) (r2 : S'.2.2.1 57 = S.2.2.1 57) (r3 : S'.2.2.1 58 = S.2.2.1 58) (r4 : T'.2.2.2 1 = T.2.2.2 1) (r5 : T'.2.2.1 1 = T.2.2.1 1) (r6 : T'.2.2.1 2 = T.2.2.1 2) (tp : R_tp S' T') (ft : R_ft S' T') (l1 : S'.1 1 = S.1 1) (l2 : S'.2.2.1 65 = S.2.2.1 65) (l3 : T'.1 18 = T.1 18) (l4 : T'.2.2.1 13 = T.2.2.1 13) (k0 : S'.1 0 = S.1 0) (k1 : ∀ k, 30 ≤ k → k < 66 → S'.1 k = S.1 k) (k2 : ∀ k, 18 ≤ k → k < 45 → S'.2.2.1 k = S.2.2.1 k) (k3 : ∀ k, 2 ≤ k → k < 5 → S'.2.2.2 k = S.2.2.2 k) (k4 : T'.1 19 = T.1 19) (k5 : ∀ k, 495 ≤ k → k < 1980 → T'.2.2.1 0 k = T.2.2.1 0 k) (k6 : ∀ k, 27 ≤ k → k < 108 → T'.2.2.2 0 k = T.2.2.2 0 k) (ci : R_ci S' T' 0 0) : Rel S' T' := by
  obtain ⟨a1, a2, a3, a4, a5, a6, a7, a8⟩ := h
  refine ⟨hst, ?_, ?_, tp, ft, ?_, R_mk_gen a7 k0 k1 k2 k3 k4 k5 k6, ci⟩
  · unfold R_fr at a2 ⊢; rw [f1, f2, f3, f4]; exact a2
  · unfold R_tr at a3 ⊢; rw [r1, r2, r3, r4, r5, r6]; exact a3
  · unfold R_lv at a6 ⊢; rw [l1, l2, l3, l4]; exact a6
theorem ok_city' {F : Nat} (hF : 2000 < F) : ok_city F Rel := fun S T v1 h => by
  have h' := h
  obtain ⟨a1, a2, a3, ⟨n0, n9, e66, et1, tp⟩, a5, a6, a7, a8⟩ := h'
  unfold xx_city xm_city
  rw [e66, et1]
  rcases rngw v1 (a := 0) (b := n0) (by omega) (by omega) with ⟨n, _, nl, rfl⟩ | hv
  case inr =>
    have hw : X11_within v1 (nI 0) (nI n0) = some (nI 0) := q_wF hv
    have hb : X12_begins F (nI n0) (T.1 2) (T.1 3) (T.1 4) (T.1 5) (T.1 6) (T.1 8) (T.1 9) (T.1 10) (T.2.2.1 3) (T.2.2.1 4) v1 (nI 900) = some (mkS [0, nI n0, T.1 2, T.1 3, T.1 4, T.1 5, T.1 6, T.1 8, T.1 9, T.1 10] [] [T.2.2.1 4] []) := by
      unfold X12_begins
      by_cases y : v1 < 0
      · exact if_pos y
      · refine (if_neg y).trans (if_pos ?_)
        by_cases z : nI n0 < v1
        · exact z
        · exact absurd ⟨Int32.not_lt.mp y, Int32.not_lt.mp z⟩ hv
    refine ⟨m1, _, _, by unfold X11_city X11_none; apply mp_st2; (refine bd_st hw ?_; refine (if_pos rfl).trans ?_; rfl); rfl, by unfold X12_city X12_refuse; apply mp_st2; (refine bd_st hb ?_; refine (if_pos rfl).trans ?_; rfl); rfl, ?_⟩
    refine Rel_new h rfl rfl rfl rfl rfl rfl rfl rfl rfl rfl rfl ⟨n0, n9, rfl, rfl, tp⟩ a5 rfl rfl rfl rfl rfl (fun k h1 h2 => ?_) (fun k h1 h2 => ?_) (fun k h1 h2 => ?_) rfl (fun k h1 h2 => rfl) (fun k h1 h2 => rfl) (R_ci_gen a8 (fun k hk => ?_) (fun k hk => ?_) rfl (fun k hk => rfl) (fun k hk => rfl))
    · simp (disch := omega) only [sI, sJ, sA, sB, up_n]
    · simp (disch := omega) only [sI, sJ, sA, sB, up_n]
    · simp (disch := omega) only [sI, sJ, sA, sB, up_n]
    · rcases (show k = 0 ∨ k = 1 ∨ k = 2 ∨ k = 3 ∨ k = 4 ∨ k = 5 ∨ k = 6 ∨ k = 7 ∨ k = 8 ∨ k = 9 ∨ k = 10 ∨ k = 11 by omega) with rfl | rfl | rfl | rfl | rfl | rfl | rfl | rfl | rfl | rfl | rfl | rfl <;> rfl
    · rcases (show k = 0 ∨ k = 1 ∨ k = 2 ∨ k = 3 ∨ k = 4 ∨ k = 5 ∨ k = 6 ∨ k = 7 ∨ k = 8 by omega) with rfl | rfl | rfl | rfl | rfl | rfl | rfl | rfl | rfl <;> rfl
  have hw : X11_within (nI n) (nI 0) (nI n0) = some (nI 1) := q_wT (Nat.zero_le _) nl (by omega)
  rcases both_city (F := F) (rt := S.1 74) (ln := S.1 67) (pl := S.1 68) (nx := S.1 69) (so := S.1 70) (va := S.1 71) (cd := S.2.1 2) (ft := S.1 72) (fpl := S.1 73) (wg := S.1 75) (dl := S.1 76) (od := S.1 77) (ck := S.1 78) (hw := S.1 79) (cn := S.1 80) (rm := S.1 81) (xr := S.2.2.1 46) (xt := S.2.2.1 47) (xh0 := S.2.2.1 48) (nn := S.1 82) (co := S.2.2.2 5) (sos := S.2.2.1 49) (nus := S.2.2.1 50) (xm := S.1 83) (xx := S.2.2.1 51) (hm := S.1 84) (xh := S.2.2.1 52) (wm := S.1 85) (xw := S.2.2.1 53) (wk := S.1 86) (st := T.1 0) (sz := T.1 2) (tk := T.1 3) (fr := T.1 4) (en := T.1 5) (vl := T.1 6) (fk := T.1 7) (fpl' := T.1 8) (fts := T.1 9) (sn := T.1 10) (td := T.1 11) (at0 := T.2.2.1 0) (names := T.2.2.2 0) (tx := T.2.2.1 4) nl n9 tp hF with ⟨rt', N', cs', C, nm', xr', xt', hs, so', nu', xx', xh', xw', at1, co', names1, t1, t2, t3, t4, t5, p1, p2, dr, cf, fr1, fr2⟩ | ⟨k, p, u, at1, names1, t1, t2, t3, t4, t5, k1, k7, p1, u0, u2, u8, u9, p2, fr1, fr2⟩
  · obtain ⟨ok, c8', dz, eN, rc, ct, cx, ch, cw, hM, zr, hn⟩ := dr
    have o0 := ok.1
    refine ⟨nI (C 0 0 0), _, _, by unfold X11_city X11_answer X11_keepFault; apply mp_st2; (refine bd_st hw ?_; refine (if_neg (show ¬ nI 1 = 0 by decide)).trans ?_; refine bd_st p1 ?_; refine (bd_st (show some _ = some _ from rfl) ?_); refine (if_neg (show ¬ (1 : Int32) = 0 by decide)).trans ?_; refine bd_st (copy_e _ _ _ _ _ _ _ _ _ _ _ _ _ _ _ _ _ _ _ _ _ _ _ _ _ _ _ _ _ _ _ _ _ _ _ _ _ _ _ _ _ _ _ _ rfl) ?_; rfl); rfl, mp_st2 p2 rfl, ?_⟩
    refine Rel_new h rfl rfl rfl rfl rfl rfl rfl rfl rfl rfl rfl ⟨0, by omega, rfl, rfl, fun j hj => absurd hj (by omega)⟩ (Or.inr ⟨rfl, rfl, rfl⟩) rfl rfl rfl rfl rfl (fun k h1 h2 => ?_) (fun k h1 h2 => ?_) (fun k h1 h2 => ?_) rfl (fun k h1 h2 => ?_) (fun k h1 h2 => ?_) (R_ci_of (C := C) ⟨ok, by omega, fun x hx => ?_, ⟨⟨rfl, rfl, rfl, by rw [c8']; rfl, rfl, rfl, rfl, rfl, rfl⟩, fun r c hr hc => ?_, fun a b ha hb => ?_, fun h0 a b ha hb => ?_, fun x c hx hc => ?_, fun x c hx hc => ?_, fun x c hx hc => ?_⟩, MS_cong ok hM (fun k hk => ?_), NM_to (NM_cp (mn := fun k => names1 (108 + k)) hn ok (fun k hk => ?_)), Or.inl ⟨rfl, ?_⟩⟩)
    · simp (disch := omega) only [sI, sJ, sA, sB, up_n]
    · simp (disch := omega) only [sI, sJ, sA, sB, up_n]
    · simp (disch := omega) only [sI, sJ, sA, sB, up_n]
    · show cpA at1 k = T.2.2.1 0 k
      unfold cpA putN; rw [if_neg (by omega)]; exact fr1 k (by omega)
    · show cpN names1 k = T.2.2.2 0 k
      unfold cpN putN; rw [if_neg (by omega)]; exact fr2 k (by omega)
    · rw [(dz x hx).2.1]; exact Nat.zero_le _
    · show cp 24 xr' _ (r * 2 + c) = _
      unfold cp; rw [if_pos (by omega)]; exact rc r c hr hc
    · show cp 64 xt' _ (a * 8 + b) = _
      unfold cp; rw [if_pos (by omega)]; exact ct a b ha hb
    · show cp 64 hs _ (a * 8 + b) = _
      unfold cp; rw [if_pos (by omega)]; exact cf h0 a b ha hb
    · show cp 35 xx' _ (x * 5 + c) = _
      unfold cp; rw [if_pos (by omega)]; exact cx x c hx hc
    · show cp 40 xh' _ (x * 5 + c) = _
      unfold cp; rw [if_pos (by omega)]; exact ch x c hx hc
    · show cp 12 xw' _ (x * 3 + c) = _
      unfold cp; rw [if_pos (by omega)]; exact cw x c hx hc
    · show cpA at1 k = sl at1 k
      unfold cpA putN sl; rw [if_pos (by omega), Nat.sub_zero]
    · show cpN names1 k = names1 (108 + k)
      unfold cpN putN; rw [if_pos (by omega), Nat.sub_zero]
    · show cpA at1 9 = m1
      unfold cpA putN; rw [if_pos (by omega)]; exact zr.1
  · refine ⟨m1, _, _, by unfold X11_city X11_none X11_keepFault; apply mp_st2; (refine bd_st hw ?_; refine (if_neg (show ¬ nI 1 = 0 by decide)).trans ?_; refine bd_st p1 ?_; refine (bd_st (show some _ = some _ from rfl) ?_); refine (if_pos u0).trans ?_; rfl); rfl, mp_st2 p2 rfl, ?_⟩
    refine Rel_new h rfl rfl rfl rfl rfl rfl rfl rfl rfl rfl rfl ⟨0, by omega, u2, rfl, fun j hj => absurd hj (by omega)⟩ (Or.inr ⟨rfl, u8, u9⟩) rfl rfl rfl rfl rfl (fun k h1 h2 => ?_) (fun k h1 h2 => ?_) (fun k h1 h2 => ?_) rfl (fun k h1 h2 => fr1 k (by omega)) (fun k h1 h2 => fr2 k (by omega)) (R_ci_gen a8 (fun k hk => ?_) (fun k hk => ?_) rfl (fun k hk => fr1 _ (by omega)) (fun k hk => fr2 _ (by omega)))
    · simp (disch := omega) only [sI, sJ, sA, sB, up_n]
    · simp (disch := omega) only [sI, sJ, sA, sB, up_n]
    · simp (disch := omega) only [sI, sJ, sA, sB, up_n]
    · rcases (show k = 0 ∨ k = 1 ∨ k = 2 ∨ k = 3 ∨ k = 4 ∨ k = 5 ∨ k = 6 ∨ k = 7 ∨ k = 8 ∨ k = 9 ∨ k = 10 ∨ k = 11 by omega) with rfl | rfl | rfl | rfl | rfl | rfl | rfl | rfl | rfl | rfl | rfl | rfl <;> rfl
    · rcases (show k = 0 ∨ k = 1 ∨ k = 2 ∨ k = 3 ∨ k = 4 ∨ k = 5 ∨ k = 6 ∨ k = 7 ∨ k = 8 by omega) with rfl | rfl | rfl | rfl | rfl | rfl | rfl | rfl | rfl <;> rfl
