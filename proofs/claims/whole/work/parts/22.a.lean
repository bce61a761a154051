/-! ===== PURE 22.a: every call; the two objects at the start ===== -/
theorem all_ok : AllOk 2000000 Rel := ⟨ok_status' _, ok_top' _, ok_bottom' _, ok_tray' (by omega), ok_write', ok_read', ok_pour' (by omega), ok_feed' (by omega), ok_city' (by omega), ok_weeks' (by omega), ok_fault' _, ok_told' (by omega), ok_extra' (by omega), ok_happening' (by omega), ok_watcher' (by omega), ok_standing' (by omega), ok_road' (by omega), ok_hour' (by omega), ok_order' (by omega), ok_put' (by omega), ok_raise' (by omega), ok_plan' (by omega), ok_bear' (by omega), ok_post' (by omega), ok_scare' (by omega), ok_rule' (by omega), ok_far' (by omega), ok_way' (by omega), ok_centre' (by omega), ok_cut' (by omega), ok_goal' (by omega), ok_whereIn' (by omega), ok_standingIn' (by omega), ok_overIn' (by omega), ok_becomes' (by omega), ok_wagesIn' (by omega), ok_warnedIn' (by omega), ok_attends' (by omega), ok_best' (by omega), ok_bestWages' (by omega), ok_fewest' (by omega), ok_fewestSet' (by omega), ok_explained' (by omega), ok_sure' (by omega), ok_laws' (by omega), ok_lawFirst' (by omega), ok_guard' (by omega), ok_guardLeft' (by omega), ok_game' (by omega), ok_moveOf' (by omega), ok_falls' (by omega), ok_copyStanding' (by omega), ok_live' (by omega), ok_lived' _, ok_mean' (by omega), ok_mark' (by omega), ok_undo' (by omega)⟩
def cE0 : vS := mkS [1, 2, 1, 0, 0, 0, 0, 0, 0, 0, 0, 0] [] [(fun _ => 0), tz (fun _ => 0), hz (fun _ => 0), (fun _ => 0), (fun _ => 0), (fun _ => 0), (fun _ => 0), (fun _ => 0), (fun _ => 0)] [(fun _ => 0)]
theorem i0_e {F : Nat} (hF : 2000 < F) : i_X0 F = some cE0 := by
  unfold i_X0
  exact bd_st (c_clear hF) rfl
def pl0 (at0 : Nat → Int32) : Nat → Int32 := upd (upd (upd (upd (putN at0 (fun _ => nI 0) 0 495) 5 (nI 1)) 6 (nI 2)) 7 (nI 1)) 9 m1
theorem m_plain0 {F : Nat} {at0 : Nat → Int32} (hF : 2000 < F) : X12_plain F at0 0 = some (pl0 at0) := by
  have it : iter (X12_plain_b2 F (nI 0)) F (nI 0, at0) = some (putN at0 (fun _ => nI 0) 0 495) := by
    have := iter_count (b := X12_plain_b2 F (nI 0)) (fun i => (nI i, putN at0 (fun _ => nI 0) 0 i)) 495 (e := putN at0 (fun _ => nI 0) 0 495) (fun i hi => ?_) ?_ F (by omega)
    · rw [← this, putN_0]
    · have e2 := putN_s at0 (fun _ => nI 0) 0 i
      unfold X12_plain_b2
      simp (maxSteps := 4000000) (disch := omega) only [↓reduceIte, l_0, l_1, l_2, l_3, l_4, l_5, l_6, l_7, l_8, l_9, l_10, l_11, l_12, l_13, l_14, l_15, l_16, l_17, l_18, l_19, l_20, l_21, l_22, l_23, l_24, l_25, l_26, l_27, l_30, l_31, l_32, l_40, l_48, l_57, l_59, l_60, l_61, l_62, l_64, l_83, l_90, l_97, l_99, l_100, l_108, l_115, l_122, l_123, l_127, l_128, l_131, l_135, l_200, l_255, l_256, l_300, l_487, l_495, l_900, l_999, l_1000, l_1700, l_1792, l_1980, l_2048, l_2475, l_2970, l_3121, l_9999, l_10000, l_11351, l_65536, l_100000, l_1000000, ↓l_m1, l_neg, nI_add, pk_mul, pk_sub, q_leT, q_leF, q_ltT, q_ltF, q_eqT, q_eqF, q_m1e, q_m1e2, q_m1lt, q_m1le, q_m1nl, q_m1nle, q_m1s, q_ix, q_jat, q_jput, q_min1, q_min2, q_max1, q_max2, q_or0, q_0or, q_bs, if_true, if_false, true_and, and_true, false_and, and_false, not_true_eq_false, not_false_eq_true, eq_self, Bool.false_eq_true, q_z0, q_z1, e2]
    · unfold X12_plain_b2
      simp (maxSteps := 4000000) (disch := omega) only [↓reduceIte, l_0, l_1, l_2, l_3, l_4, l_5, l_6, l_7, l_8, l_9, l_10, l_11, l_12, l_13, l_14, l_15, l_16, l_17, l_18, l_19, l_20, l_21, l_22, l_23, l_24, l_25, l_26, l_27, l_30, l_31, l_32, l_40, l_48, l_57, l_59, l_60, l_61, l_62, l_64, l_83, l_90, l_97, l_99, l_100, l_108, l_115, l_122, l_123, l_127, l_128, l_131, l_135, l_200, l_255, l_256, l_300, l_487, l_495, l_900, l_999, l_1000, l_1700, l_1792, l_1980, l_2048, l_2475, l_2970, l_3121, l_9999, l_10000, l_11351, l_65536, l_100000, l_1000000, ↓l_m1, l_neg, nI_add, pk_mul, pk_sub, q_leT, q_leF, q_ltT, q_ltF, q_eqT, q_eqF, q_m1e, q_m1e2, q_m1lt, q_m1le, q_m1nl, q_m1nle, q_m1s, q_ix, q_jat, q_jput, q_min1, q_min2, q_max1, q_max2, q_or0, q_0or, q_bs, if_true, if_false, true_and, and_true, false_and, and_false, not_true_eq_false, not_false_eq_true, eq_self, Bool.false_eq_true, q_z0, q_z1]
  show X12_plain F at0 (nI 0) = some (pl0 at0)
  unfold X12_plain pl0
  simp (maxSteps := 4000000) (disch := omega) only [↓reduceIte, l_0, l_1, l_2, l_3, l_4, l_5, l_6, l_7, l_8, l_9, l_10, l_11, l_12, l_13, l_14, l_15, l_16, l_17, l_18, l_19, l_20, l_21, l_22, l_23, l_24, l_25, l_26, l_27, l_30, l_31, l_32, l_40, l_48, l_57, l_59, l_60, l_61, l_62, l_64, l_83, l_90, l_97, l_99, l_100, l_108, l_115, l_122, l_123, l_127, l_128, l_131, l_135, l_200, l_255, l_256, l_300, l_487, l_495, l_900, l_999, l_1000, l_1700, l_1792, l_1980, l_2048, l_2475, l_2970, l_3121, l_9999, l_10000, l_11351, l_65536, l_100000, l_1000000, ↓l_m1, l_neg, nI_add, pk_mul, pk_sub, q_leT, q_leF, q_ltT, q_ltF, q_eqT, q_eqF, q_m1e, q_m1e2, q_m1lt, q_m1le, q_m1nl, q_m1nle, q_m1s, q_ix, q_jat, q_jput, q_min1, q_min2, q_max1, q_max2, q_or0, q_0or, q_bs, if_true, if_false, true_and, and_true, false_and, and_false, not_true_eq_false, not_false_eq_true, eq_self, Bool.false_eq_true, q_z0, q_z1, it]
theorem pl0_v {k : Nat} (h : k < 127) (k9 : k ≠ 9) (at1 at0 : Nat → Int32) : pl0 at1 k = sl (pln at0) k := by
  rw [pln_v (by omega), if_neg k9]
  unfold pl0
  rw [pk_un k9]
  by_cases e7 : k = 7
  · subst e7; rw [pk_us]; rfl
  rw [pk_un e7, if_neg e7]
  by_cases e6 : k = 6
  · subst e6; rw [pk_us]; rfl
  rw [pk_un e6, if_neg e6]
  by_cases e5 : k = 5
  · subst e5; rw [pk_us]; rfl
  rw [pk_un e5, if_neg e5]
  unfold putN; rw [if_pos (by omega)]
theorem mk_start {A B : Option vS} {S T : vS} (h1 : A = some S) (h2 : B = some T) (h3 : Rel S T) : ∃ S T, A = some S ∧ B = some T ∧ Rel S T := ⟨S, T, h1, h2, h3⟩
theorem start_e {F : Nat} (hF : 2000 < F) : ∃ S T, i_X11 F = some S ∧ i_X12 F = some T ∧ Rel S T := by
  have i1 : i_X1 F = some (mkS [0, (cE0.1 0), (cE0.1 1), (cE0.1 2), (cE0.1 3), (cE0.1 4), (cE0.1 5), (cE0.1 6), (cE0.1 7), (cE0.1 8), (cE0.1 9), (cE0.1 10), (cE0.1 11)] [] [(cE0.2.2.1 0), (cE0.2.2.1 1), (cE0.2.2.1 2), (cE0.2.2.1 3), (cE0.2.2.1 4), (cE0.2.2.1 5), (cE0.2.2.1 6), (cE0.2.2.1 7), (cE0.2.2.1 8)] [(cE0.2.2.2 0)]) := by
    unfold i_X1
    exact bd_st (i0_e hF) rfl
  refine mk_start (bd_st (i0_e hF) (bd_st (i0_e hF) (bd_st i1 (bd_st (i0_e hF) (bd_st (i0_e hF) (bd_st (i0_e hF) rfl)))))) (bd_st (m_plain0 hF) rfl) ?_
  · obtain ⟨ok, c8', dz, eN, rc, ct, cx, ch, cw, hM, zr, hn⟩ := DR0 (fun _ => 0) (fun _ => 0) (fun _ => 0) (fun _ => 0) (fun _ => 0) (fun _ => 0) (fun _ => 0) (fun _ => 0) (fun _ => 0) (fun _ => 0)
    refine ⟨rfl, ⟨rfl, rfl⟩, ⟨rfl, rfl, rfl, fun t ht => ⟨Or.inl ?_, (show (0 : Int32) ≤ 0 by decide), (show (0 : Int32) ≤ 3 by decide)⟩⟩, ⟨0, by omega, rfl, rfl, fun j hj => absurd hj (by omega)⟩, Or.inl ⟨rfl, rfl, rfl⟩, Or.inl ⟨rfl, rfl⟩, ⟨0, by omega, rfl, rfl, fun i hi => absurd hi (by omega)⟩, R_ci_of (C := cy0) ⟨ok, by decide, fun x hx => absurd (show x < 0 from hx) (Nat.not_lt_zero _), ⟨⟨rfl, rfl, rfl, rfl, rfl, rfl, rfl, rfl, rfl⟩, rc, ct, fun h0 => absurd h0 (by decide), cx, ch, cw⟩, MS_cong9 ok hM (fun k hk k9 => pl0_v hk k9 _ _), NM_to hn, Or.inl ⟨rfl, rfl⟩⟩⟩
    rcases (show t = 0 ∨ t = 1 ∨ t = 2 ∨ t = 3 by omega) with rfl | rfl | rfl | rfl <;> rfl
theorem whole_start (l : Launch) (hflags : l.flags = flags0) {p : Program} {e : Env} {s : State} {m : MethodId} {below : List Frame} {meth : Method} {c : Code} {b L : Nat} {xs : Nat → Int32} (hL : L ≤ 3072) (C0 : lw_At p s m meth c b L xs) : W p l e room_1 s m #[Value.ref b] below meth c s.heap [] 0 0 (lw_Z below #[Value.ref b] s) (entryFrame m ([Value.ref b] : List Value).toArray 4) := by
  obtain ⟨S, T, h1, h2, h3⟩ := start_e (F := 2000000) (by omega)
  exact start_of 2000000 Rel all_ok S T h1 h2 h3 l hL C0
