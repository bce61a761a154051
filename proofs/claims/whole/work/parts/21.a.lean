/-! ===== PURE 21.a: the plan's rows, one more; one closed ===== -/
def WS (C : Cy) (R : Nat → Nat → Nat) (m : Nat) (dep : Nat → Nat) (enc : Nat → Nat → Nat) (d K : Nat) : Prop :=
  Nest R m dep enc ∧ dep m = d ∧ d ≤ 3 ∧ cls R m = K ∧ K ≤ 30 ∧ m + d ≤ 2 * K ∧ (∀ q, q < m → RowOk C R q ∧ R q 4 < m) ∧ (∀ i, i < d → enc m i < m ∧ opn (R (enc m i) 0) ∧ R (enc m i) 4 = 0) ∧ (∀ i j, i < j → j < d → enc m i < enc m j)
def rowE (R : Nat → Nat → Nat) (m : Nat) (v : Nat → Nat) : Nat → Nat → Nat := fun q c => if q = m then v c else R q c
theorem rowE_o {R : Nat → Nat → Nat} {m q : Nat} {v : Nat → Nat} (h : q ≠ m) (c : Nat) : rowE R m v q c = R q c := if_neg h
theorem rowE_s {R : Nat → Nat → Nat} {m : Nat} {v : Nat → Nat} (c : Nat) : rowE R m v m c = v c := if_pos rfl
theorem rowE_cls {R : Nat → Nat → Nat} {m : Nat} {v : Nat → Nat} {q : Nat} (h : q ≤ m) : cls (rowE R m v) q = cls R q := by
  unfold cls
  refine fb_ct_cong (fun k hk => ?_)
  unfold ncl
  rw [rowE_o (by omega)]
theorem WS_0 (C : Cy) (R : Nat → Nat → Nat) : WS C R 0 (fun _ => 0) (fun _ _ => 0) 0 0 := ⟨⟨rfl, fun q hq => absurd hq (by omega)⟩, rfl, by omega, rfl, by omega, by omega, fun q hq => absurd hq (by omega), fun i hi => absurd hi (by omega), fun i j _ hj => absurd hj (by omega)⟩
theorem RowOk_o {C : Cy} {R R' : Nat → Nat → Nat} {q : Nat} (h : RowOk C R q) (e : ∀ c, c ≠ 4 → R' q c = R q c) : RowOk C R' q := by
  unfold RowOk at h ⊢
  rw [e 0 (by omega), e 1 (by omega), e 2 (by omega), e 5 (by omega)]; exact h
/-- one row more that closes nothing -/
theorem WS_add {C : Cy} {R : Nat → Nat → Nat} {m d K : Nat} {dep : Nat → Nat} {enc : Nat → Nat → Nat} {v : Nat → Nat} (w : WS C R m dep enc d K) (hK : K < 30) (v19 : v 0 ≠ 19) (v4 : v 4 = 0) (ok : RowOk C (rowE R m v) m) (ho : opn (v 0) → d < 3) :
    (opn (v 0) → WS C (rowE R m v) (m + 1) (fun q => if q = m + 1 then d + 1 else dep q) (fun q i => if q = m + 1 then (if i = d then m else enc m i) else enc q i) (d + 1) (K + 1)) ∧
    (¬ opn (v 0) → WS C (rowE R m v) (m + 1) (fun q => if q = m + 1 then d else dep q) (fun q i => if q = m + 1 then enc m i else enc q i) d (K + 1)) := by
  obtain ⟨⟨n0, nn⟩, w1, w2, w3, w4, w5, w6, w7, w8⟩ := w
  have cl : cls (rowE R m v) (m + 1) = K + 1 := by
    rw [cls_s _ (by rw [rowE_s]; exact v19), rowE_cls (Nat.le_refl _), w3]
  have rows : ∀ q, q < m + 1 → RowOk C (rowE R m v) q ∧ rowE R m v q 4 < m + 1 := fun q hq => by
    by_cases e : q = m
    · subst e; exact ⟨ok, by rw [rowE_s, v4]; omega⟩
    · have := w6 q (by omega)
      exact ⟨RowOk_o this.1 (fun c _ => rowE_o e c), by rw [rowE_o e]; omega⟩
  have nst : ∀ (dp : Nat → Nat) (en : Nat → Nat → Nat), (∀ q, q ≤ m → dp q = dep q) → (∀ q i, q ≤ m → en q i = enc q i) → (opn (v 0) → dp (m + 1) = d + 1 ∧ en (m + 1) d = m ∧ ∀ i, i < d → en (m + 1) i = enc m i) → (¬ opn (v 0) → dp (m + 1) = d ∧ ∀ i, i < d → en (m + 1) i = enc m i) → Nest (rowE R m v) (m + 1) dp en := fun dp en e1 e2 e3 e4 => by
    refine ⟨by rw [e1 0 (by omega)]; exact n0, fun q hq => ?_⟩
    by_cases e : q = m
    · subst e
      rw [e1 q (Nat.le_refl _), w1, rowE_s, rowE_s]
      refine ⟨w2, fun o => ?_, fun z => absurd z v19, fun no _ => ?_⟩
      · obtain ⟨f1, f2, f3⟩ := e3 o
        exact ⟨ho o, f1, f2, fun i hi => by rw [f3 i hi, e2 q i (Nat.le_refl _)]⟩
      · obtain ⟨f1, f3⟩ := e4 no
        exact ⟨f1, fun i hi => by rw [f3 i hi, e2 q i (Nat.le_refl _)]⟩
    · obtain ⟨g1, g2, g3, g4⟩ := nn q (by omega)
      rw [e1 q (by omega), e1 (q + 1) (by omega), rowE_o e, rowE_o e]
      refine ⟨g1, fun o => ?_, fun z => ?_, fun no z => ?_⟩
      · obtain ⟨f1, f2, f3, f4⟩ := g2 o
        exact ⟨f1, f2, by rw [e2 _ _ (by omega)]; exact f3, fun i hi => by rw [e2 _ _ (by omega), e2 _ _ (by omega)]; exact f4 i hi⟩
      · obtain ⟨f1, f2, f3, f4, f5⟩ := g3 z
        have w6' := (w6 q (by omega)).2
        have l4 : R q 4 ≠ m := by omega
        exact ⟨f1, by rw [e2 _ _ (by omega)]; exact f2, by rw [rowE_o l4]; exact f3, f4, fun i hi => by rw [e2 _ _ (by omega), e2 _ _ (by omega)]; exact f5 i hi⟩
      · obtain ⟨f1, f2⟩ := g4 no z
        exact ⟨f1, fun i hi => by rw [e2 _ _ (by omega), e2 _ _ (by omega)]; exact f2 i hi⟩
  refine ⟨fun o => ?_, fun no => ?_⟩
  · have d3 := ho o
    refine ⟨nst _ _ (fun q hq => if_neg (by omega)) (fun q i hq => if_neg (by omega)) (fun _ => ⟨if_pos rfl, by rw [if_pos rfl, if_pos rfl], fun i hi => by rw [if_pos rfl, if_neg (by omega)]⟩) (fun no => absurd o no), if_pos rfl, by omega, cl, by omega, by omega, rows, fun i hi => ?_, fun i j hij hj => ?_⟩
    · dsimp only
      rw [if_pos rfl]
      by_cases e : i = d
      · rw [if_pos e, rowE_s, rowE_s]; exact ⟨by omega, o, v4⟩
      · have := w7 i (by omega)
        rw [if_neg e, rowE_o (by omega), rowE_o (by omega)]; exact ⟨by omega, this.2⟩
    · dsimp only
      rw [if_pos rfl, if_pos rfl, if_neg (by omega)]
      by_cases e : j = d
      · rw [if_pos e]; exact (w7 i (by omega)).1
      · rw [if_neg e]; exact w8 i j hij (by omega)
  · refine ⟨nst _ _ (fun q hq => if_neg (by omega)) (fun q i hq => if_neg (by omega)) (fun o => absurd o no) (fun _ => ⟨if_pos rfl, fun i hi => by rw [if_pos rfl]⟩), if_pos rfl, w2, cl, by omega, by omega, rows, fun i hi => ?_, fun i j hij hj => ?_⟩
    · dsimp only
      have := w7 i hi
      rw [if_pos rfl, rowE_o (by omega), rowE_o (by omega)]; exact ⟨by omega, this.2⟩
    · dsimp only
      rw [if_pos rfl, if_pos rfl]; exact w8 i j hij hj
/-- an opened row is closed -/
def rowC (R : Nat → Nat → Nat) (m o : Nat) : Nat → Nat → Nat := fun q c => if q = m then (if c = 0 then 19 else if c = 4 then o else 0) else if q = o ∧ c = 4 then m else R q c
theorem rowC_o {R : Nat → Nat → Nat} {m o q c : Nat} (h : q ≠ m) (h2 : ¬ (q = o ∧ c = 4)) : rowC R m o q c = R q c := by unfold rowC; rw [if_neg h, if_neg h2]
theorem rowC_s {R : Nat → Nat → Nat} {m o c : Nat} : rowC R m o m c = if c = 0 then 19 else if c = 4 then o else 0 := if_pos rfl
theorem rowC_4 {R : Nat → Nat → Nat} {m o : Nat} (h : o ≠ m) : rowC R m o o 4 = m := by unfold rowC; rw [if_neg h, if_pos ⟨rfl, rfl⟩]
theorem rowC_cls {R : Nat → Nat → Nat} {m o q : Nat} (h : q ≤ m) : cls (rowC R m o) q = cls R q := by
  unfold cls
  refine fb_ct_cong (fun k hk => ?_)
  unfold ncl
  rw [rowC_o (by omega) (by omega)]
theorem WS_close {C : Cy} {R : Nat → Nat → Nat} {m d K : Nat} {dep : Nat → Nat} {enc : Nat → Nat → Nat} (w : WS C R m dep enc d K) (hd : 1 ≤ d) :
    WS C (rowC R m (enc m (d - 1))) (m + 1) (fun q => if q = m + 1 then d - 1 else dep q) (fun q i => if q = m + 1 then enc m i else enc q i) (d - 1) K := by
  obtain ⟨⟨n0, nn⟩, w1, w2, w3, w4, w5, w6, w7, w8⟩ := w
  obtain ⟨o1, o2, o3⟩ := w7 (d - 1) (by omega)
  have om : enc m (d - 1) ≠ m := by omega
  have cl : cls (rowC R m (enc m (d - 1))) (m + 1) = K := by
    rw [cls_c _ (by rw [rowC_s]; rfl), rowC_cls (Nat.le_refl _), w3]
  refine ⟨⟨by dsimp only; rw [if_neg (by omega)]; exact n0, fun q hq => ?_⟩, if_pos rfl, by omega, cl, w4, by omega, fun q hq => ?_, fun i hi => ?_, fun i j hij hj => ?_⟩
  · by_cases e : q = m
    · subst e
      dsimp only
      rw [if_neg (by omega), if_pos rfl, w1, rowC_s, rowC_s]
      refine ⟨w2, fun o => ?_, fun _ => ⟨hd, ?_, ?_, rfl, fun i hi => ?_⟩, fun _ z => absurd rfl z⟩
      · rw [if_pos rfl] at o
        rcases o with o | o
        · exact absurd o (by decide)
        · exact absurd o (by decide)
      · rw [if_neg (show ¬ q = q + 1 by omega)]; rfl
      · exact rowC_4 om
      · rw [if_pos rfl, if_neg (by omega)]
    · obtain ⟨g1, g2, g3, g4⟩ := nn q (by omega)
      dsimp only
      rw [if_neg (by omega), if_neg (by omega), rowC_o e (by omega)]
      refine ⟨g1, fun o => ?_, fun z => ?_, fun no z => ?_⟩
      · obtain ⟨f1, f2, f3, f4⟩ := g2 o
        refine ⟨f1, f2, ?_, fun i hi => ?_⟩
        · rw [if_neg (by omega)]; exact f3
        · rw [if_neg (by omega), if_neg (by omega)]; exact f4 i hi
      · obtain ⟨f1, f2, f3, f4, f5⟩ := g3 z
        have w6' := (w6 q (by omega)).2
        have qo : q ≠ enc m (d - 1) := fun y => by
          rw [y] at z
          rcases o2 with o | o <;> omega
        have ro : R q 4 ≠ enc m (d - 1) := fun y => by
          rw [y, o3] at f3
          have q0 : q = 0 := f3.symm
          rw [q0, n0] at f1
          omega
        rw [rowC_o (by omega) (fun y => qo y.1)]
        refine ⟨f1, ?_, ?_, f4, fun i hi => ?_⟩
        · rw [if_neg (by omega)]; exact f2
        · rw [rowC_o (by omega) (fun y => ro y.1)]; exact f3
        · rw [if_neg (by omega), if_neg (by omega)]; exact f5 i hi
      · obtain ⟨f1, f2⟩ := g4 no z
        exact ⟨f1, fun i hi => by rw [if_neg (by omega), if_neg (by omega)]; exact f2 i hi⟩
  · by_cases e : q = m
    · subst e
      refine ⟨?_, by rw [rowC_s, if_neg (by omega), if_pos rfl]; omega⟩
      unfold RowOk
      rw [rowC_s]
      exact Or.inr (Or.inr (Or.inr (Or.inr (Or.inr (Or.inl rfl)))))
    · have := w6 q (by omega)
      refine ⟨RowOk_o this.1 (fun c hc => rowC_o e (fun y => hc y.2)), ?_⟩
      by_cases y : q = enc m (d - 1)
      · rw [y, rowC_4 om]; omega
      · rw [rowC_o e (fun z => y z.1)]; omega
  · dsimp only
    rw [if_pos rfl]
    have a := w7 i (by omega)
    have b := w8 i (d - 1) (by omega) (by omega)
    rw [rowC_o (by omega) (fun y => absurd y.1 (by omega)), rowC_o (by omega) (fun y => absurd y.1 (by omega))]
    exact ⟨by omega, a.2⟩
  · dsimp only
    rw [if_pos rfl, if_pos rfl]; exact w8 i j hij (by omega)
