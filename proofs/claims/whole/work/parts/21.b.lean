/-! ===== PURE 21.b: the plan's draft on both sides ===== -/
def WD (C : Cy) (m d K : Nat) (wf opc at0 opm : Nat → Int32) : Prop := ∃ (R : Nat → Nat → Nat) (dep : Nat → Nat) (enc : Nat → Nat → Nat), WS C R m dep enc d K ∧ (∀ q, q < m → R q 0 ≠ 19 → ClRow R wf q) ∧ (∀ q c, q < m → c < 6 → c ≠ 3 → at0 (2107 + 6 * q + c) = nI (R q c)) ∧ at0 1989 = nI m ∧ ∀ i, i < d → opc i = nI (cls R (enc m i)) ∧ opm i = nI (enc m i)
def ClV (v : Nat → Nat) (wf : Nat → Int32) (K : Nat) : Prop :=
  wf (K * 6 + 0) = nI (cw (v 0)) ∧ (v 0 ≠ 11 → v 0 ≠ 18 → wf (K * 6 + 1) = nI (v 1) ∧ wf (K * 6 + 2) = nI (v 2)) ∧ ((v 0 = 11 ∨ v 0 = 18) → wf (K * 6 + 2) = nI (v 1)) ∧ (1700 ≤ v 0 → wf (K * 6 + 3) = nI (ctst (v 0))) ∧ wf (K * 6 + 4) = nI (v 5) ∧ wf (K * 6 + 5) = nI 0
theorem ClRow_add {R : Nat → Nat → Nat} {m K : Nat} {v : Nat → Nat} {wf wf' : Nat → Int32} (cK : cls R m = K) (hq4 : ∀ q, q < m → R q 4 < m) (v4 : v 4 = 0) (hw : ∀ j, j < K * 6 → wf' j = wf j) (h : ∀ q, q < m → R q 0 ≠ 19 → ClRow R wf q) (hv : ClV v wf' K) : ∀ q, q < m + 1 → rowE R m v q 0 ≠ 19 → ClRow (rowE R m v) wf' q := by
  intro q hq q19
  by_cases e : q = m
  · subst e
    obtain ⟨h1, h2, h3, h4, h5, h6⟩ := hv
    unfold ClRow
    rw [rowE_cls (Nat.le_refl _), cK, rowE_s, rowE_s, rowE_s, rowE_s, rowE_s, v4]
    exact ⟨h1, h2, h3, h4, h5, fun _ => h6, fun _ => h6⟩
  · rw [rowE_o e] at q19
    have l := cls_lt (R := R) (show q < m by omega) q19
    have r4 := hq4 q (by omega)
    obtain ⟨h1, h2, h3, h4, h5, h6, h7⟩ := h q (by omega) q19
    unfold ClRow
    rw [rowE_cls (show q ≤ m by omega), rowE_o e, rowE_o e, rowE_o e, rowE_o e, rowE_o e, rowE_cls (show R q 4 ≤ m by omega)]
    rw [hw _ (by omega), hw _ (by omega), hw _ (by omega), hw _ (by omega), hw _ (by omega), hw _ (by omega)]
    exact ⟨h1, h2, h3, h4, h5, h6, h7⟩
theorem WD_add {C : Cy} {m d K : Nat} {v : Nat → Nat} {wf opc at0 opm wf' at1 : Nat → Int32} (h : WD C m d K wf opc at0 opm) (hK : K < 30) (v19 : v 0 ≠ 19) (v4 : v 4 = 0) (ok : RowOk C (fun _ => v) 0) (hw : ∀ j, j < K * 6 → wf' j = wf j) (hv : ClV v wf' K) (a1 : ∀ q c, q < m → c < 6 → at1 (2107 + 6 * q + c) = at0 (2107 + 6 * q + c)) (a2 : ∀ c, c < 6 → c ≠ 3 → at1 (2107 + 6 * m + c) = nI (v c)) (a3 : at1 1989 = nI (m + 1)) :
    (opn (v 0) → d < 3 → WD C (m + 1) (d + 1) (K + 1) wf' (upd opc d (nI K)) at1 (upd opm d (nI m))) ∧ (¬ opn (v 0) → WD C (m + 1) d (K + 1) wf' opc at1 opm) := by
  obtain ⟨R, dep, enc, ws, cl, rw', n9, op⟩ := h
  have ws' := ws
  obtain ⟨nst, w1, w2, w3, w4, w5, w6, w7, w8⟩ := ws'
  have okR : RowOk C (rowE R m v) m := by unfold RowOk at ok ⊢; rw [rowE_s, rowE_s, rowE_s, rowE_s]; exact ok
  have clr := ClRow_add w3 (fun q hq => (w6 q hq).2) v4 hw cl hv
  have rows : ∀ q c, q < m + 1 → c < 6 → c ≠ 3 → at1 (2107 + 6 * q + c) = nI (rowE R m v q c) := fun q c hq hc h3 => by
    by_cases e : q = m
    · subst e; rw [rowE_s]; exact a2 c hc h3
    · rw [rowE_o e, a1 q c (by omega) hc]; exact rw' q c (by omega) hc h3
  refine ⟨fun o d3 => ?_, fun no => ?_⟩
  · refine ⟨_, _, _, (WS_add ws hK v19 v4 okR (fun _ => d3)).1 o, clr, rows, a3, fun i hi => ?_⟩
    rw [if_pos rfl]
    by_cases e : i = d
    · rw [if_pos e, e, pk_us, pk_us, rowE_cls (Nat.le_refl _), w3]; exact ⟨rfl, rfl⟩
    · have a := op i (by omega)
      have b := w7 i (by omega)
      rw [if_neg e, pk_un e, pk_un e, rowE_cls (by omega)]; exact a
  · refine ⟨_, _, _, (WS_add ws hK v19 v4 okR (fun o => absurd o no)).2 no, clr, rows, a3, fun i hi => ?_⟩
    have a := op i (by omega)
    have b := w7 i (by omega)
    rw [if_pos rfl, rowE_cls (by omega)]; exact a
/-- what is opened last: its rows on both sides -/
theorem WD_top {C : Cy} {m d K : Nat} {wf opc at0 opm : Nat → Int32} (h : WD C m d K wf opc at0 opm) (hd : 1 ≤ d) : ∃ o co, opc (d - 1) = nI co ∧ opm (d - 1) = nI o ∧ o < m ∧ co < K ∧ m ≤ 60 ∧ K ≤ 30 ∧ d ≤ 3 ∧
    ∀ (wf' at1 : Nat → Int32), wf' = upd wf (co * 6 + 5) (nI K) → (∀ q c, q < m → c < 6 → ¬ (q = o ∧ c = 4) → at1 (2107 + 6 * q + c) = at0 (2107 + 6 * q + c)) → at1 (2107 + 6 * o + 4) = nI m → (∀ c, c < 6 → c ≠ 3 → at1 (2107 + 6 * m + c) = nI (if c = 0 then 19 else if c = 4 then o else 0)) → at1 1989 = nI (m + 1) → WD C (m + 1) (d - 1) K wf' opc at1 opm := by
  obtain ⟨R, dep, enc, ws, cl, rw', n9, op⟩ := h
  have ws' := ws
  obtain ⟨nst, w1, w2, w3, w4, w5, w6, w7, w8⟩ := ws'
  obtain ⟨o1, o2, o3⟩ := w7 (d - 1) (by omega)
  obtain ⟨p1, p2⟩ := op (d - 1) (by omega)
  have o19 : R (enc m (d - 1)) 0 ≠ 19 := fun z => by rw [z] at o2; rcases o2 with o | o <;> omega
  have ck : cls R (enc m (d - 1)) < K := by rw [← w3]; exact cls_lt o1 o19
  have om : enc m (d - 1) ≠ m := by omega
  refine ⟨enc m (d - 1), cls R (enc m (d - 1)), p1, p2, o1, ck, by omega, w4, w2, fun wf' at1 hw a1 a2 a3 a4 => ?_⟩
  refine ⟨_, _, _, WS_close ws hd, fun q hq q19 => ?_, fun q c hq hc h3 => ?_, a4, fun i hi => ?_⟩
  · have qm : q ≠ m := fun z => by rw [z, rowC_s] at q19; exact q19 rfl
    rw [rowC_o qm (by omega)] at q19
    obtain ⟨h1, h2, h3, h4, h5, h6, h7⟩ := cl q (by omega) q19
    have w6' := (w6 q (by omega)).2
    unfold ClRow
    rw [rowC_cls (show q ≤ m by omega), rowC_o qm (c := 0) (by omega), rowC_o qm (c := 1) (by omega), rowC_o qm (c := 2) (by omega), rowC_o qm (c := 5) (by omega), hw]
    rw [pk_un (by omega), pk_un (by omega), pk_un (by omega), pk_un (by omega), pk_un (by omega)]
    by_cases e : q = enc m (d - 1)
    · rw [e] at h1 h2 h3 h4 h5 ⊢
      rw [rowC_4 om, rowC_cls (Nat.le_refl _), w3, pk_us]
      exact ⟨h1, h2, h3, h4, h5, fun _ => rfl, fun z => absurd o2 z⟩
    · have ne : cls R q ≠ cls R (enc m (d - 1)) := by
        rcases Nat.lt_or_gt_of_ne e with y | y
        · have := cls_lt y q19; omega
        · have := cls_lt y o19; omega
      rw [rowC_o qm (c := 4) (by omega), rowC_cls (by omega), pk_un (by omega)]
      exact ⟨h1, h2, h3, h4, h5, h6, h7⟩
  · by_cases e : q = m
    · subst e; rw [rowC_s]; exact a3 c hc h3
    · by_cases y : q = enc m (d - 1) ∧ c = 4
      · rw [y.1, y.2, rowC_4 om]; exact a2
      · rw [rowC_o e y, a1 q c (by omega) hc y]; exact rw' q c (by omega) hc h3
  · have a := op i (by omega)
    have b := w7 i (by omega)
    rw [if_pos rfl, rowC_cls (by omega)]; exact a
