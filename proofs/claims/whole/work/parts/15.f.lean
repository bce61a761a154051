/-! ===== PURE 15.f: undo ===== -/
def nestU (S U : vS) : vS := (sA (sI (sA (sI (sA (sI (sA (sI (sA (sA (sB (sI (sA (sA (sA (sI (sI (sI (sI (sI (sI (sI (sI (sI S 0 (U.1 1)) 5 (U.1 2)) 6 (U.1 3)) 7 (U.1 4)) 8 (U.1 5)) 9 (U.1 6)) 10 (U.1 7)) 11 (U.1 8)) 12 (U.1 9)) 0 (U.2.2.1 0)) 1 (U.2.2.1 1)) 2 (U.2.2.1 2)) 13 (U.1 10)) 0 (U.2.2.2 0)) 3 (U.2.2.1 3)) 4 (U.2.2.1 4)) 14 (U.1 11)) 5 (U.2.2.1 5)) 15 (U.1 12)) 6 (U.2.2.1 6)) 16 (U.1 13)) 7 (U.2.2.1 7)) 17 (U.1 14)) 8 (U.2.2.1 8))
theorem nu_m (S U : vS) : (nestU S U).1 0 = U.1 1 ∧ (nestU S U).1 5 = U.1 2 := ⟨rfl, rfl⟩
theorem nu_i (S U : vS) : ∀ k, k < 12 → (nestU S U).1 (6 + k) = U.1 (3 + k) := by
  intro k hk
  rcases (show k = 0 ∨ k = 1 ∨ k = 2 ∨ k = 3 ∨ k = 4 ∨ k = 5 ∨ k = 6 ∨ k = 7 ∨ k = 8 ∨ k = 9 ∨ k = 10 ∨ k = 11 by omega) with rfl | rfl | rfl | rfl | rfl | rfl | rfl | rfl | rfl | rfl | rfl | rfl <;> rfl
theorem nu_a (S U : vS) : ∀ k, k < 9 → (nestU S U).2.2.1 k = U.2.2.1 k := by
  intro k hk
  rcases (show k = 0 ∨ k = 1 ∨ k = 2 ∨ k = 3 ∨ k = 4 ∨ k = 5 ∨ k = 6 ∨ k = 7 ∨ k = 8 by omega) with rfl | rfl | rfl | rfl | rfl | rfl | rfl | rfl | rfl <;> rfl
theorem nu_l (S U : vS) : (nestU S U).2.2.2 0 = U.2.2.2 0 := rfl
theorem nu_o (S U : vS) : (∀ k, k ≠ 0 → k ≠ 5 → (k < 6 ∨ 18 ≤ k) → (nestU S U).1 k = S.1 k) ∧ (nestU S U).2.1 = S.2.1 ∧ (∀ k, 9 ≤ k → (nestU S U).2.2.1 k = S.2.2.1 k) ∧ (∀ k, 1 ≤ k → (nestU S U).2.2.2 k = S.2.2.2 k) := by
  refine ⟨fun k h0 h5 hk => ?_, ?_, fun k hk => ?_, fun k hk => ?_⟩
  · unfold nestU; simp (disch := omega) only [sI, sA, sB, up_n]
  · unfold nestU; simp only [sI, sA, sB]
  · unfold nestU; simp (disch := omega) only [sI, sA, sB, up_n]
  · unfold nestU; simp (disch := omega) only [sI, sA, sB, up_n]
def VP (i : Nat) (S U : vS) : Prop := U.1 0 = nI i ∧ U.1 1 = nI i ∧ U.1 2 = nI 0 ∧ (∀ k, k < 12 → U.1 (3 + k) = S.1 (30 + 12 * i + k)) ∧ (∀ j k, j < 9 → k < szs j → U.2.2.1 j k = S.2.2.1 (18 + 9 * i + j) k) ∧ (∀ k, k < 27 → U.2.2.2 0 k = S.2.2.2 (2 + i) k)
theorem unU_0 {S : vS} (hm : S.1 0 = nI 1) (hz : isZ (S.1 34) = true) : ∃ U, (X11_undo (S.1 0) (S.1 5) (S.1 6) (S.1 7) (S.1 8) (S.1 9) (S.1 10) (S.1 11) (S.1 12) (S.2.2.1 0) (S.2.2.1 1) (S.2.2.1 2) (S.1 13) (S.2.2.2 0) (S.2.2.1 3) (S.2.2.1 4) (S.1 14) (S.2.2.1 5) (S.1 15) (S.2.2.1 6) (S.1 16) (S.2.2.1 7) (S.1 17) (S.2.2.1 8) (S.1 30) (S.1 31) (S.1 32) (S.1 33) (S.1 34) (S.1 35) (S.1 36) (S.2.2.1 18) (S.2.2.1 19) (S.2.2.1 20) (S.1 37) (S.2.2.2 2) (S.2.2.1 21) (S.2.2.1 22) (S.1 38) (S.2.2.1 23) (S.1 39) (S.2.2.1 24) (S.1 40) (S.2.2.1 25) (S.1 41) (S.2.2.1 26) (S.1 42) (S.1 43) (S.1 44) (S.1 45) (S.1 46) (S.1 47) (S.1 48) (S.2.2.1 27) (S.2.2.1 28) (S.2.2.1 29) (S.1 49) (S.2.2.2 3) (S.2.2.1 30) (S.2.2.1 31) (S.1 50) (S.2.2.1 32) (S.1 51) (S.2.2.1 33) (S.1 52) (S.2.2.1 34) (S.1 53) (S.2.2.1 35) (S.1 54) (S.1 55) (S.1 56) (S.1 57) (S.1 58) (S.1 59) (S.1 60) (S.2.2.1 36) (S.2.2.1 37) (S.2.2.1 38) (S.1 61) (S.2.2.2 4) (S.2.2.1 39) (S.2.2.1 40) (S.1 62) (S.2.2.1 41) (S.1 63) (S.2.2.1 42) (S.1 64) (S.2.2.1 43) (S.1 65) (S.2.2.1 44)) = some U ∧ VP 0 S U := by
  unfold X11_undo
  rw [hm, if_neg (show ¬ nI 1 < (1 : Int32) by decide), if_pos (show nI 1 ≤ (3 : Int32) by decide), if_pos (show nI 1 - 1 = (0 : Int32) by decide), copy_e _ _ _ _ _ _ _ _ _ _ _ _ _ _ _ _ _ _ _ _ _ _ _ _ _ _ _ _ _ _ _ _ _ _ _ _ _ _ _ _ _ _ _ _ hz, q_bs]
  unfold X11_answer
  rw [q_bs, show nI 1 - 1 = nI 0 by decide]
  refine ⟨_, rfl, rfl, rfl, rfl, fun k h2 => ?_, fun j k h2 h3 => ?_, fun k h2 => ?_⟩
  · rcases (show k = 0 ∨ k = 1 ∨ k = 2 ∨ k = 3 ∨ k = 4 ∨ k = 5 ∨ k = 6 ∨ k = 7 ∨ k = 8 ∨ k = 9 ∨ k = 10 ∨ k = 11 by omega) with rfl | rfl | rfl | rfl | rfl | rfl | rfl | rfl | rfl | rfl | rfl | rfl <;> rfl
  · rcases (show j = 0 ∨ j = 1 ∨ j = 2 ∨ j = 3 ∨ j = 4 ∨ j = 5 ∨ j = 6 ∨ j = 7 ∨ j = 8 by omega) with rfl | rfl | rfl | rfl | rfl | rfl | rfl | rfl | rfl <;> exact cp_in h3
  · exact cp_in h2
theorem unU_1 {S : vS} (hm : S.1 0 = nI 2) (hz : isZ (S.1 46) = true) : ∃ U, (X11_undo (S.1 0) (S.1 5) (S.1 6) (S.1 7) (S.1 8) (S.1 9) (S.1 10) (S.1 11) (S.1 12) (S.2.2.1 0) (S.2.2.1 1) (S.2.2.1 2) (S.1 13) (S.2.2.2 0) (S.2.2.1 3) (S.2.2.1 4) (S.1 14) (S.2.2.1 5) (S.1 15) (S.2.2.1 6) (S.1 16) (S.2.2.1 7) (S.1 17) (S.2.2.1 8) (S.1 30) (S.1 31) (S.1 32) (S.1 33) (S.1 34) (S.1 35) (S.1 36) (S.2.2.1 18) (S.2.2.1 19) (S.2.2.1 20) (S.1 37) (S.2.2.2 2) (S.2.2.1 21) (S.2.2.1 22) (S.1 38) (S.2.2.1 23) (S.1 39) (S.2.2.1 24) (S.1 40) (S.2.2.1 25) (S.1 41) (S.2.2.1 26) (S.1 42) (S.1 43) (S.1 44) (S.1 45) (S.1 46) (S.1 47) (S.1 48) (S.2.2.1 27) (S.2.2.1 28) (S.2.2.1 29) (S.1 49) (S.2.2.2 3) (S.2.2.1 30) (S.2.2.1 31) (S.1 50) (S.2.2.1 32) (S.1 51) (S.2.2.1 33) (S.1 52) (S.2.2.1 34) (S.1 53) (S.2.2.1 35) (S.1 54) (S.1 55) (S.1 56) (S.1 57) (S.1 58) (S.1 59) (S.1 60) (S.2.2.1 36) (S.2.2.1 37) (S.2.2.1 38) (S.1 61) (S.2.2.2 4) (S.2.2.1 39) (S.2.2.1 40) (S.1 62) (S.2.2.1 41) (S.1 63) (S.2.2.1 42) (S.1 64) (S.2.2.1 43) (S.1 65) (S.2.2.1 44)) = some U ∧ VP 1 S U := by
  unfold X11_undo
  rw [hm, if_neg (show ¬ nI 2 < (1 : Int32) by decide), if_pos (show nI 2 ≤ (3 : Int32) by decide), if_neg (show ¬ nI 2 - 1 = (0 : Int32) by decide), if_pos (show nI 2 - 1 = (1 : Int32) by decide), copy_e _ _ _ _ _ _ _ _ _ _ _ _ _ _ _ _ _ _ _ _ _ _ _ _ _ _ _ _ _ _ _ _ _ _ _ _ _ _ _ _ _ _ _ _ hz, q_bs]
  unfold X11_answer
  rw [q_bs, show nI 2 - 1 = nI 1 by decide]
  refine ⟨_, rfl, rfl, rfl, rfl, fun k h2 => ?_, fun j k h2 h3 => ?_, fun k h2 => ?_⟩
  · rcases (show k = 0 ∨ k = 1 ∨ k = 2 ∨ k = 3 ∨ k = 4 ∨ k = 5 ∨ k = 6 ∨ k = 7 ∨ k = 8 ∨ k = 9 ∨ k = 10 ∨ k = 11 by omega) with rfl | rfl | rfl | rfl | rfl | rfl | rfl | rfl | rfl | rfl | rfl | rfl <;> rfl
  · rcases (show j = 0 ∨ j = 1 ∨ j = 2 ∨ j = 3 ∨ j = 4 ∨ j = 5 ∨ j = 6 ∨ j = 7 ∨ j = 8 by omega) with rfl | rfl | rfl | rfl | rfl | rfl | rfl | rfl | rfl <;> exact cp_in h3
  · exact cp_in h2
theorem unU_2 {S : vS} (hm : S.1 0 = nI 3) (hz : isZ (S.1 58) = true) : ∃ U, (X11_undo (S.1 0) (S.1 5) (S.1 6) (S.1 7) (S.1 8) (S.1 9) (S.1 10) (S.1 11) (S.1 12) (S.2.2.1 0) (S.2.2.1 1) (S.2.2.1 2) (S.1 13) (S.2.2.2 0) (S.2.2.1 3) (S.2.2.1 4) (S.1 14) (S.2.2.1 5) (S.1 15) (S.2.2.1 6) (S.1 16) (S.2.2.1 7) (S.1 17) (S.2.2.1 8) (S.1 30) (S.1 31) (S.1 32) (S.1 33) (S.1 34) (S.1 35) (S.1 36) (S.2.2.1 18) (S.2.2.1 19) (S.2.2.1 20) (S.1 37) (S.2.2.2 2) (S.2.2.1 21) (S.2.2.1 22) (S.1 38) (S.2.2.1 23) (S.1 39) (S.2.2.1 24) (S.1 40) (S.2.2.1 25) (S.1 41) (S.2.2.1 26) (S.1 42) (S.1 43) (S.1 44) (S.1 45) (S.1 46) (S.1 47) (S.1 48) (S.2.2.1 27) (S.2.2.1 28) (S.2.2.1 29) (S.1 49) (S.2.2.2 3) (S.2.2.1 30) (S.2.2.1 31) (S.1 50) (S.2.2.1 32) (S.1 51) (S.2.2.1 33) (S.1 52) (S.2.2.1 34) (S.1 53) (S.2.2.1 35) (S.1 54) (S.1 55) (S.1 56) (S.1 57) (S.1 58) (S.1 59) (S.1 60) (S.2.2.1 36) (S.2.2.1 37) (S.2.2.1 38) (S.1 61) (S.2.2.2 4) (S.2.2.1 39) (S.2.2.1 40) (S.1 62) (S.2.2.1 41) (S.1 63) (S.2.2.1 42) (S.1 64) (S.2.2.1 43) (S.1 65) (S.2.2.1 44)) = some U ∧ VP 2 S U := by
  unfold X11_undo
  rw [hm, if_neg (show ¬ nI 3 < (1 : Int32) by decide), if_pos (show nI 3 ≤ (3 : Int32) by decide), if_neg (show ¬ nI 3 - 1 = (0 : Int32) by decide), if_neg (show ¬ nI 3 - 1 = (1 : Int32) by decide), if_pos (show nI 3 - 1 = (2 : Int32) by decide), copy_e _ _ _ _ _ _ _ _ _ _ _ _ _ _ _ _ _ _ _ _ _ _ _ _ _ _ _ _ _ _ _ _ _ _ _ _ _ _ _ _ _ _ _ _ hz, q_bs]
  unfold X11_answer
  rw [q_bs, show nI 3 - 1 = nI 2 by decide]
  refine ⟨_, rfl, rfl, rfl, rfl, fun k h2 => ?_, fun j k h2 h3 => ?_, fun k h2 => ?_⟩
  · rcases (show k = 0 ∨ k = 1 ∨ k = 2 ∨ k = 3 ∨ k = 4 ∨ k = 5 ∨ k = 6 ∨ k = 7 ∨ k = 8 ∨ k = 9 ∨ k = 10 ∨ k = 11 by omega) with rfl | rfl | rfl | rfl | rfl | rfl | rfl | rfl | rfl | rfl | rfl | rfl <;> rfl
  · rcases (show j = 0 ∨ j = 1 ∨ j = 2 ∨ j = 3 ∨ j = 4 ∨ j = 5 ∨ j = 6 ∨ j = 7 ∨ j = 8 by omega) with rfl | rfl | rfl | rfl | rfl | rfl | rfl | rfl | rfl <;> exact cp_in h3
  · exact cp_in h2
theorem unU_none {S : vS} (hm : S.1 0 = nI 0) : ∃ U, (X11_undo (S.1 0) (S.1 5) (S.1 6) (S.1 7) (S.1 8) (S.1 9) (S.1 10) (S.1 11) (S.1 12) (S.2.2.1 0) (S.2.2.1 1) (S.2.2.1 2) (S.1 13) (S.2.2.2 0) (S.2.2.1 3) (S.2.2.1 4) (S.1 14) (S.2.2.1 5) (S.1 15) (S.2.2.1 6) (S.1 16) (S.2.2.1 7) (S.1 17) (S.2.2.1 8) (S.1 30) (S.1 31) (S.1 32) (S.1 33) (S.1 34) (S.1 35) (S.1 36) (S.2.2.1 18) (S.2.2.1 19) (S.2.2.1 20) (S.1 37) (S.2.2.2 2) (S.2.2.1 21) (S.2.2.1 22) (S.1 38) (S.2.2.1 23) (S.1 39) (S.2.2.1 24) (S.1 40) (S.2.2.1 25) (S.1 41) (S.2.2.1 26) (S.1 42) (S.1 43) (S.1 44) (S.1 45) (S.1 46) (S.1 47) (S.1 48) (S.2.2.1 27) (S.2.2.1 28) (S.2.2.1 29) (S.1 49) (S.2.2.2 3) (S.2.2.1 30) (S.2.2.1 31) (S.1 50) (S.2.2.1 32) (S.1 51) (S.2.2.1 33) (S.1 52) (S.2.2.1 34) (S.1 53) (S.2.2.1 35) (S.1 54) (S.1 55) (S.1 56) (S.1 57) (S.1 58) (S.1 59) (S.1 60) (S.2.2.1 36) (S.2.2.1 37) (S.2.2.1 38) (S.1 61) (S.2.2.2 4) (S.2.2.1 39) (S.2.2.1 40) (S.1 62) (S.2.2.1 41) (S.1 63) (S.2.2.1 42) (S.1 64) (S.2.2.1 43) (S.1 65) (S.2.2.1 44)) = some U ∧ U.1 0 = m1 ∧ U.1 1 = nI 0 ∧ U.1 2 = nI 6 ∧ (∀ k, k < 12 → U.1 (3 + k) = S.1 (6 + k)) ∧ (∀ j, j < 9 → U.2.2.1 j = S.2.2.1 j) ∧ U.2.2.2 0 = S.2.2.2 0 := by
  unfold X11_undo X11_undo_j20
  rw [hm, if_pos (show nI 0 < (1 : Int32) by decide)]
  unfold X11_none
  rw [q_bs]
  refine ⟨_, rfl, rfl, rfl, rfl, fun k h2 => ?_, fun j h2 => ?_, rfl⟩
  · rcases (show k = 0 ∨ k = 1 ∨ k = 2 ∨ k = 3 ∨ k = 4 ∨ k = 5 ∨ k = 6 ∨ k = 7 ∨ k = 8 ∨ k = 9 ∨ k = 10 ∨ k = 11 by omega) with rfl | rfl | rfl | rfl | rfl | rfl | rfl | rfl | rfl | rfl | rfl | rfl <;> rfl
  · rcases (show j = 0 ∨ j = 1 ∨ j = 2 ∨ j = 3 ∨ j = 4 ∨ j = 5 ∨ j = 6 ∨ j = 7 ∨ j = 8 by omega) with rfl | rfl | rfl | rfl | rfl | rfl | rfl | rfl | rfl <;> rfl
theorem undo_rel {S T U : vS} {i : Nat} (h : Rel S T) (hi3 : i < 3) (hm : S.1 0 = nI (i + 1)) (hp : VP i S U) : Rel (nestU S U) (mkT T i (putN (T.2.2.1 0) (fun k => T.2.2.1 0 (495 * (i + 1) + k)) (495 * 0) 495) (putN (T.2.2.2 0) (fun k => T.2.2.2 0 (27 * (i + 1) + k)) (27 * 0) 27)) := by
  obtain ⟨a1, a2, a3, a4, a5, a6, ⟨m', b1, b2, b3, b4⟩, a8⟩ := h
  have e : m' = i + 1 := (nI_eq (by omega) (by omega)).mp (b2.symm.trans hm)
  subst e
  obtain ⟨p0, p1, p2, p3, p4, p5⟩ := hp
  obtain ⟨n0, n5⟩ := nu_m S U
  have ni := nu_i S U
  have na := nu_a S U
  have nl := nu_l S U
  obtain ⟨o1, o2, o3, o4⟩ := nu_o S U
  have gs : ∀ (k : Nat), (mkT T i (putN (T.2.2.1 0) (fun k => T.2.2.1 0 (495 * (i + 1) + k)) (495 * 0) 495) (putN (T.2.2.2 0) (fun k => T.2.2.2 0 (27 * (i + 1) + k)) (27 * 0) 27)).2.2.1 0 k = putN (T.2.2.1 0) (fun k => T.2.2.1 0 (495 * (i + 1) + k)) (495 * 0) 495 k := fun _ => rfl
  have ns : ∀ (k : Nat), (mkT T i (putN (T.2.2.1 0) (fun k => T.2.2.1 0 (495 * (i + 1) + k)) (495 * 0) 495) (putN (T.2.2.2 0) (fun k => T.2.2.2 0 (27 * (i + 1) + k)) (27 * 0) 27)).2.2.2 0 k = putN (T.2.2.2 0) (fun k => T.2.2.2 0 (27 * (i + 1) + k)) (27 * 0) 27 k := fun _ => rfl
  generalize hT : mkT T i (putN (T.2.2.1 0) (fun k => T.2.2.1 0 (495 * (i + 1) + k)) (495 * 0) 495) (putN (T.2.2.2 0) (fun k => T.2.2.2 0 (27 * (i + 1) + k)) (27 * 0) 27) = T2 at gs ns
  have t0 : T2.1 0 = nI 0 := by rw [← hT]; rfl
  have t1 : T2.1 1 = T.1 1 := by rw [← hT]; rfl
  have t7 : T2.1 7 = T.1 7 := by rw [← hT]; rfl
  have t8 : T2.1 8 = T.1 8 := by rw [← hT]; rfl
  have t18 : T2.1 18 = T.1 18 := by rw [← hT]; rfl
  have t19 : T2.1 19 = nI i := by rw [← hT]; rfl
  have tl : T2.2.1 = T.2.1 := by rw [← hT]; rfl
  have ta : ∀ k, k ≠ 0 → T2.2.2.1 k = T.2.2.1 k := fun k hk => by rw [← hT]; exact up_n _ _ hk
  have tb : T2.2.2.2 1 = T.2.2.2 1 := by rw [← hT]; rfl
  clear hT
  generalize nestU S U = S2 at n0 n5 ni na nl o1 o2 o3 o4
  refine ⟨?_, ?_, ?_, ?_, ?_, ?_, ⟨i, by omega, by rw [n0]; exact p1, t19, fun j hj => ?_⟩, ?_⟩
  · unfold R_st; rw [n5, p2, t0]
  · unfold R_fr; rw [o2, tl]; exact a2
  · unfold R_tr; rw [o4 6 (by omega), o3 57 (by omega), o3 58 (by omega), tb, ta 1 (by omega), ta 2 (by omega)]; exact a3
  · unfold R_tp; rw [o1 66 (by omega) (by omega) (by omega), o3 45 (by omega), t1, ta 3 (by omega)]; exact a4
  · unfold R_ft; rw [o1 2 (by omega) (by omega) (by omega), o1 3 (by omega) (by omega) (by omega), o1 4 (by omega) (by omega) (by omega), t7, t8]; exact a5
  · unfold R_lv; rw [o1 1 (by omega) (by omega) (by omega), o3 65 (by omega), t18, ta 13 (by omega)]; exact a6
  · exact R_ci_gen (b4 j (by omega)) (fun k hk => o1 _ (by omega) (by omega) (by omega)) (fun k hk => o3 _ (by omega)) (o4 _ (by omega)) (fun k hk => by rw [gs]; exact putN_out (by omega)) (fun k hk => by rw [ns]; exact putN_out (by omega))
  · obtain ⟨C, hC⟩ := b4 i (by omega)
    refine R_ci_of (C := C) (CityOK_arr hC (fun k hk => ?_) (fun j k hj hk => ?_) (fun k hk => ?_) (fun k hk => ?_) (fun k hk => ?_))
    · rw [ni k hk, p3 k hk, show 6 + 12 * (i + 2) + k = 30 + 12 * i + k by omega]
    · rw [na j hj, p4 j k hj hk, show 9 * (i + 2) + j = 18 + 9 * i + j by omega]
    · rw [nl, p5 k hk, show i + 2 = 2 + i by omega]
    · have := putN_in (f := T.2.2.1 0) (g := fun k => T.2.2.1 0 (495 * (i + 1) + k)) (a := 495 * 0) (n := 495) hk
      rw [show 495 * 0 + k = k by omega] at this
      rw [gs]; exact this
    · have := putN_in (f := T.2.2.2 0) (g := fun k => T.2.2.2 0 (27 * (i + 1) + k)) (a := 27 * 0) (n := 27) hk
      rw [show 27 * 0 + k = k by omega] at this
      rw [ns]; exact this
theorem ok_undo' {F : Nat} (hF : 2000 < F) : ok_undo F Rel := fun S T h => by
  have h' := h
  obtain ⟨a1, a2, a3, a4, a5, a6, ⟨m, b1, b2, b3, b4⟩, a8⟩ := h'
  by_cases q : m = 0
  · subst q
    obtain ⟨U, u, p0, p1, p2, p3, p4, p5⟩ := unU_none b2
    obtain ⟨n0, n5⟩ := nu_m S U
    have ni := nu_i S U
    have na := nu_a S U
    have nl := nu_l S U
    obtain ⟨o1, o2, o3, o4⟩ := nu_o S U
    refine ⟨m1, nestU S U, sI T 0 (nI 6), ?_, ?_, Rel_ask h ⟨fun k hk => ?_, ⟨by rw [o2], by rw [o2]⟩, fun k hk => o3 k (by omega), fun k hk => o4 k (by omega)⟩ (EqT_0 T (nI 6)) ⟨fun k h1 h2 => ?_, fun k hk => by rw [na k hk, p4 k hk], by rw [nl, p5]⟩ (SamT_0 T (nI 6)) (by rw [n5, p2]; rfl)⟩
    · unfold xx_undo; rw [u, ← p0]; rfl
    · unfold xm_undo X12_undo X12_refuse
      rw [b3, if_pos (show nI 0 = (0 : Int32) from rfl), q_bs]
      have e3 : sB (sA (sI (sI T 0 (nI 6)) 19 (nI 0)) 0 (T.2.2.1 0)) 0 (T.2.2.2 0) = sI T 0 (nI 6) := by
        show (va_up (va_up T.1 0 (nI 6)) 19 (nI 0), T.2.1, va_up T.2.2.1 0 (T.2.2.1 0), va_up T.2.2.2 0 (T.2.2.2 0)) = (va_up T.1 0 (nI 6), T.2)
        rw [up_id, up_id]
        refine Prod.ext ?_ rfl
        funext k
        show va_up (va_up T.1 0 (nI 6)) 19 (nI 0) k = va_up T.1 0 (nI 6) k
        by_cases e : k = 19
        · subst e; rw [up_s, up_n _ _ (by omega), b3]
        · rw [up_n _ _ e]
      rw [← e3]; rfl
    · by_cases e : k = 0
      · rw [e, n0, p1, b2]
      · exact o1 k e (by omega) (by omega)
    · have := ni (k - 6) (by omega)
      rw [p3 _ (by omega), show 6 + (k - 6) = k by omega] at this; exact this
  · obtain ⟨i, rfl⟩ : ∃ i, m = i + 1 := ⟨m - 1, by omega⟩
    obtain ⟨C, hC⟩ := b4 i (by omega)
    have hz : isZ (S.1 (6 + 12 * (i + 2) + 4)) = true := wr_z hC.2.2.2.2.2.2
    have x : ∃ U, xx_undo F S = some (nI i, nestU S U) ∧ VP i S U := by
      have aux : ∀ U, VP i S U → ∀ o : Option vS, o = some U → o.map (fun u => (u.1 0, nestU S u)) = some (nI i, nestU S U) := by
        rintro U hU o rfl; rw [← hU.1]; rfl
      rcases (show i = 0 ∨ i = 1 ∨ i = 2 by omega) with rfl | rfl | rfl
      · obtain ⟨U, u, p⟩ := unU_0 b2 hz; exact ⟨U, aux U p _ u, p⟩
      · obtain ⟨U, u, p⟩ := unU_1 b2 hz; exact ⟨U, aux U p _ u, p⟩
      · obtain ⟨U, u, p⟩ := unU_2 b2 hz; exact ⟨U, aux U p _ u, p⟩
    obtain ⟨U, x1, x2⟩ := x
    refine ⟨nI i, nestU S U, _, x1, ?_, undo_rel h (by omega) b2 x2⟩
    unfold xm_undo X12_undo X12_gives
    rw [b3]
    have ce := copies_e (F := F) (a := i + 1) (b := 0) (g := T.2.2.1 0) (nm := T.2.2.2 0) (by omega) (by omega) (by omega) (by omega)
    have e1 : i + 1 - 1 = i := by omega
    simp (disch := omega) only [l_0, l_1, l_2, l_3, l_4, l_5, l_6, l_7, l_8, l_9, l_10, l_11, l_12, l_13, l_14, l_15, l_16, l_17, l_18, l_19, l_20, l_21, l_22, l_23, l_24, l_25, l_26, l_27, l_30, l_31, l_32, l_40, l_48, l_57, l_59, l_60, l_61, l_62, l_64, l_83, l_90, l_97, l_99, l_100, l_108, l_115, l_122, l_123, l_127, l_128, l_131, l_135, l_200, l_255, l_256, l_300, l_487, l_495, l_900, l_999, l_1000, l_1700, l_1792, l_1980, l_2048, l_2475, l_2970, l_3121, l_9999, l_10000, l_11351, l_65536, l_100000, l_1000000, ↓l_m1, l_neg, nI_add, pk_mul, pk_sub, q_leT, q_leF, q_ltT, q_ltF, q_eqT, q_eqF, q_m1e, q_m1e2, q_m1lt, q_m1le, q_m1nl, q_m1nle, q_m1s, q_ix, q_jat, q_jput, q_min1, q_min2, q_max1, q_max2, q_or0, q_0or, q_bs, if_true, if_false, true_and, and_true, false_and, and_false, not_true_eq_false, not_false_eq_true, eq_self, Bool.false_eq_true, q_z0, q_z1, ce, e1]
    rfl
