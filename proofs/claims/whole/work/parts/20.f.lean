/-! ===== PURE 20.f: the draft of a city, one row more ===== -/
def ins (C : Cy) (t : Nat) (v : Nat → Nat) : Cy := fun t' r c => if t' = 0 ∧ r = 0 ∧ c = t then C 0 0 t + 1 else if t' = t ∧ t ≠ 0 ∧ r = C 0 0 t then v c else C t' r c
theorem ins_n (C : Cy) (t : Nat) (v : Nat → Nat) : ins C t v 0 0 t = C 0 0 t + 1 := if_pos ⟨rfl, rfl, rfl⟩
theorem ins_t (C : Cy) {t t' r c : Nat} {v : Nat → Nat} (h : t' ≠ t) (h2 : t' = 0 → c ≠ t) : ins C t v t' r c = C t' r c := by
  unfold ins; rw [if_neg (fun q => h2 q.1 q.2.2), if_neg (fun q => h q.1)]
theorem ins_0 (C : Cy) {t c : Nat} {v : Nat → Nat} (h : c ≠ t) : ins C t v 0 0 c = C 0 0 c := by
  unfold ins; rw [if_neg (fun q => h q.2.2), if_neg (fun q => q.2.1 q.1.symm)]
theorem ins_o (C : Cy) {t r c : Nat} {v : Nat → Nat} (ht : t ≠ 0) (h : r ≠ C 0 0 t) : ins C t v t r c = C t r c := by
  unfold ins; rw [if_neg (fun q => ht q.1), if_neg (fun q => h q.2.2)]
theorem ins_r (C : Cy) {t c : Nat} {v : Nat → Nat} (ht : t ≠ 0) : ins C t v t (C 0 0 t) c = v c := by
  unfold ins; rw [if_neg (fun q => ht q.1), if_pos ⟨rfl, ht, rfl⟩]
def mt (t : Nat) : Nat := if t = 0 then 8 else if t = 1 then 12 else if t = 2 then 7 else if t = 3 then 8 else 4
def wt (t : Nat) : Nat := if t = 1 then 3 else if t = 2 then 5 else if t = 3 then 4 else 3
def bs (t : Nat) : Nat := if t = 1 then 12 else if t = 2 then 48 else if t = 3 then 83 else 115
def rowK (C : Cy) (t : Nat) (v : Nat → Nat) : Prop :=
  (t ≠ 0 → v 0 < C 0 0 0) ∧ (t = 1 → v 1 < C 0 0 0 ∧ v 0 ≠ v 1 ∧ 1 ≤ v 2 ∧ v 2 ≤ 9) ∧ (t = 2 → v 1 ≤ 8 ∧ v 2 < 256) ∧ (t = 3 → v 1 ≤ 9999 ∧ 1 ≤ v 2 ∧ v 2 ≤ 4 ∧ v 3 ≤ 2) ∧ (t = 4 → 1 ≤ v 1 ∧ v 1 ≤ 7)
theorem ins_ok {C : Cy} {t : Nat} {v : Nat → Nat} (ok : Ok C) (t4 : t ≤ 4) (h0 : C 0 0 t < mt t) (hv : rowK C t v) : Ok (ins C t v) := by
  obtain ⟨o0, oR, oE, oH, oW⟩ := ok
  obtain ⟨k0, k1, k2, k3, k4⟩ := hv
  have z : ∀ j, j ≠ t → ins C t v 0 0 j = C 0 0 j := fun j hj => ins_0 C hj
  have n0 := ins_n C t v
  have zz : ∀ j, C 0 0 j ≤ ins C t v 0 0 j ∧ (j = t → ins C t v 0 0 j = C 0 0 t + 1) ∧ (j ≠ t → ins C t v 0 0 j = C 0 0 j) := fun j => by
    by_cases e : j = t
    · subst e; rw [n0]; exact ⟨by omega, fun _ => rfl, fun q => absurd rfl q⟩
    · rw [z j e]; exact ⟨Nat.le_refl _, fun q => absurd q e, fun _ => rfl⟩
  have z0 := zz 0; have z1 := zz 1; have z2 := zz 2; have z3 := zz 3; have z4 := zz 4
  have mh : (t = 0 → C 0 0 t < 8) ∧ (t = 1 → C 0 0 t < 12) ∧ (t = 2 → C 0 0 t < 7) ∧ (t = 3 → C 0 0 t < 8) ∧ (t = 4 → C 0 0 t < 4) := by
    refine ⟨?_, ?_, ?_, ?_, ?_⟩ <;> (intro e; subst e; exact h0)
  refine ⟨?_, fun r hr => ?_, fun r hr => ?_, fun r hr => ?_, fun r hr => ?_⟩
  · rw [z 5 (by omega), z 6 (by omega), z 7 (by omega), z 8 (by omega)]
    refine ⟨?_, ?_, ?_, ?_, ?_, by omega⟩
    · by_cases e : 0 = t
      · subst e; rw [n0]; omega
      · rw [z 0 e]; omega
    · by_cases e : 1 = t
      · subst e; rw [n0]; omega
      · rw [z 1 e]; omega
    · by_cases e : 2 = t
      · subst e; rw [n0]; omega
      · rw [z 2 e]; omega
    · by_cases e : 3 = t
      · subst e; rw [n0]; omega
      · rw [z 3 e]; omega
    · by_cases e : 4 = t
      · subst e; rw [n0]; omega
      · rw [z 4 e]; omega
  · by_cases e : 1 = t
    · subst e
      have := k1 rfl; have := k0 (by omega)
      by_cases q : r = C 0 0 1
      · subst q; rw [ins_r C (by omega), ins_r C (by omega), ins_r C (by omega)]; omega
      · have := oR r (by omega)
        rw [ins_o C (by omega) q, ins_o C (by omega) q, ins_o C (by omega) q]; omega
    · have := oR r (by omega)
      rw [ins_t C e (by omega), ins_t C e (by omega), ins_t C e (by omega)]; omega
  · by_cases e : 2 = t
    · subst e
      have := k2 rfl; have := k0 (by omega)
      by_cases q : r = C 0 0 2
      · subst q; rw [ins_r C (by omega), ins_r C (by omega), ins_r C (by omega)]; omega
      · have := oE r (by omega)
        rw [ins_o C (by omega) q, ins_o C (by omega) q, ins_o C (by omega) q]; omega
    · have := oE r (by omega)
      rw [ins_t C e (by omega), ins_t C e (by omega), ins_t C e (by omega)]; omega
  · by_cases e : 3 = t
    · subst e
      have := k3 rfl; have := k0 (by omega)
      by_cases q : r = C 0 0 3
      · subst q; rw [ins_r C (by omega), ins_r C (by omega), ins_r C (by omega), ins_r C (by omega)]; omega
      · have := oH r (by omega)
        rw [ins_o C (by omega) q, ins_o C (by omega) q, ins_o C (by omega) q, ins_o C (by omega) q]; omega
    · have := oH r (by omega)
      rw [ins_t C e (by omega), ins_t C e (by omega), ins_t C e (by omega), ins_t C e (by omega)]; omega
  · by_cases e : 4 = t
    · subst e
      have := k4 rfl; have := k0 (by omega)
      by_cases q : r = C 0 0 4
      · subst q; rw [ins_r C (by omega), ins_r C (by omega)]; omega
      · have := oW r (by omega)
        rw [ins_o C (by omega) q, ins_o C (by omega) q]; omega
    · have := oW r (by omega)
      rw [ins_t C e (by omega), ins_t C e (by omega)]; omega
/-- the rows that are not told yet are plain -/
def ZR (C : Cy) (g : Nat → Int32) : Prop := g 9 = m1 ∧ (∀ x c, C 0 0 2 ≤ x → x < 7 → 1 ≤ c → c < 5 → g (48 + 5 * x + c) = nI 0) ∧ (∀ h, C 0 0 3 ≤ h → h < 8 → g (83 + 4 * h + 3) = nI 0) ∧ (∀ w, C 0 0 4 ≤ w → w < 4 → g (115 + 3 * w + 2) = nI 0)
theorem MS_ins {C : Cy} {t : Nat} {v : Nat → Nat} {g g' : Nat → Int32} (ok : Ok C) (t4 : t ≤ 4) (h0 : C 0 0 t < mt t) (v1 : t = 2 → v 1 = 0) (h : MS C g) (hz : ZR C g) (a : g' t = nI (C 0 0 t + 1)) (b : t ≠ 0 → ∀ c, c < wt t → g' (bs t + wt t * C 0 0 t + c) = nI (v c)) (k : ∀ j, j ≠ t → (t ≠ 0 → ¬ (bs t + wt t * C 0 0 t ≤ j ∧ j < bs t + wt t * C 0 0 t + wt t)) → j < 127 → g' j = g j) : MS (ins C t v) g' ∧ ZR (ins C t v) g' := by
  obtain ⟨o0, oR, oE, oH, oW⟩ := ok
  obtain ⟨a0, a1, a2, a3, a4, a5, a6⟩ := h
  obtain ⟨b9, b2, b3, b4⟩ := hz
  have z : ∀ j, j ≠ t → ins C t v 0 0 j = C 0 0 j := fun j hj => ins_0 C hj
  have n0 := ins_n C t v
  have T : (t = 0 ∧ True) ∨ (t = 1 ∧ bs t = 12 ∧ wt t = 3 ∧ wt t * C 0 0 t = 3 * C 0 0 t ∧ C 0 0 t < 12) ∨ (t = 2 ∧ bs t = 48 ∧ wt t = 5 ∧ wt t * C 0 0 t = 5 * C 0 0 t ∧ C 0 0 t < 7) ∨ (t = 3 ∧ bs t = 83 ∧ wt t = 4 ∧ wt t * C 0 0 t = 4 * C 0 0 t ∧ C 0 0 t < 8) ∨ (t = 4 ∧ bs t = 115 ∧ wt t = 3 ∧ wt t * C 0 0 t = 3 * C 0 0 t ∧ C 0 0 t < 4) := by
    rcases (show t = 0 ∨ t = 1 ∨ t = 2 ∨ t = 3 ∨ t = 4 by omega) with rfl | rfl | rfl | rfl | rfl
    · exact Or.inl ⟨rfl, trivial⟩
    · exact Or.inr (Or.inl ⟨rfl, rfl, rfl, rfl, h0⟩)
    · exact Or.inr (Or.inr (Or.inl ⟨rfl, rfl, rfl, rfl, h0⟩))
    · exact Or.inr (Or.inr (Or.inr (Or.inl ⟨rfl, rfl, rfl, rfl, h0⟩)))
    · exact Or.inr (Or.inr (Or.inr (Or.inr ⟨rfl, rfl, rfl, rfl, h0⟩)))
  have kk : ∀ j, j ≠ t → (∀ B W, B = bs t → W = wt t → t ≠ 0 → ¬ (B + W * C 0 0 t ≤ j ∧ j < B + W * C 0 0 t + W)) → j < 127 → g' j = g j := fun j h1 h2 h3 => k j h1 (h2 _ _ rfl rfl) h3
  have far : ∀ j, j < 127 → (t ≠ 0 → j < bs t ∨ bs t + wt t * C 0 0 t + wt t ≤ j ∨ (bs t ≤ j ∧ j < bs t + wt t * C 0 0 t)) → j ≠ t → g' j = g j := fun j h1 h2 h3 => k j h3 (fun q => by have := h2 q; omega) h1
  refine ⟨⟨fun j hj => ?_, fun r c hr hc => ?_, fun x hx q => ?_, fun x hx q => ?_, fun x c hx h1 hc => ?_, fun x c hx hc => ?_, fun x c hx hc => ?_⟩, ?_, fun x c hx h1 h2 hc => ?_, fun x hx h1 => ?_, fun x hx h1 => ?_⟩
  · by_cases e : j = t
    · subst e; rw [a, n0]
    · rw [z j e, ← a0 j hj]
      refine far j (by omega) (fun q => Or.inl ?_) e
      rcases T with T | T | T | T | T <;> omega
  · by_cases e : 1 = t
    · subst e
      rw [n0] at hr
      by_cases y : r = C 0 0 1
      · subst y; rw [ins_r C (by omega)]
        exact b (by omega) c hc
      · rw [ins_o C (by omega) y, ← a1 r c (by omega) hc]
        refine far _ (by omega) (fun q => Or.inr (Or.inr ?_)) (by omega)
        rw [show bs 1 = 12 from rfl, show wt 1 = 3 from rfl]; omega
    · rw [z 1 e] at hr
      rw [ins_t C e (by omega), ← a1 r c hr hc]
      refine far _ (by omega) (fun q => Or.inl ?_) (by omega)
      rcases T with T | T | T | T | T <;> omega
  · by_cases e : 2 = t
    · subst e
      rw [n0] at hx
      by_cases y : x = C 0 0 2
      · subst y; rw [ins_r C (by omega)]
        exact b (by omega) 0 (by decide)
      · rw [ins_o C (by omega) y] at q
        rw [ins_o C (by omega) y, ← a2 x (by omega) q]
        refine far _ (by omega) (fun q => Or.inr (Or.inr ?_)) (by omega)
        rw [show bs 2 = 48 from rfl, show wt 2 = 5 from rfl]; omega
    · rw [z 2 e] at hx
      rw [ins_t C e (by omega)] at q
      rw [ins_t C e (by omega), ← a2 x hx q]
      refine far _ (by omega) (fun q => ?_) (by omega)
      rcases T with T | T | T | T | T <;> omega
  · by_cases e : 2 = t
    · subst e
      rw [n0] at hx
      by_cases y : x = C 0 0 2
      · subst y; rw [ins_r C (by omega)] at q; exact absurd (v1 rfl) q
      · rw [ins_o C (by omega) y] at q
        rw [ins_o C (by omega) y, ← a3 x (by omega) q]
        refine far _ (by omega) (fun q => Or.inr (Or.inr ?_)) (by omega)
        rw [show bs 2 = 48 from rfl, show wt 2 = 5 from rfl]; omega
    · rw [z 2 e] at hx
      rw [ins_t C e (by omega)] at q
      rw [ins_t C e (by omega), ← a3 x hx q]
      refine far _ (by omega) (fun q => ?_) (by omega)
      rcases T with T | T | T | T | T <;> omega
  · by_cases e : 2 = t
    · subst e
      rw [n0] at hx
      by_cases y : x = C 0 0 2
      · subst y; rw [ins_r C (by omega)]
        exact b (by omega) c hc
      · rw [ins_o C (by omega) y, ← a4 x c (by omega) h1 hc]
        refine far _ (by omega) (fun q => Or.inr (Or.inr ?_)) (by omega)
        rw [show bs 2 = 48 from rfl, show wt 2 = 5 from rfl]; omega
    · rw [z 2 e] at hx
      rw [ins_t C e (by omega), ← a4 x c hx h1 hc]
      refine far _ (by omega) (fun q => ?_) (by omega)
      rcases T with T | T | T | T | T <;> omega
  · by_cases e : 3 = t
    · subst e
      rw [n0] at hx
      by_cases y : x = C 0 0 3
      · subst y; rw [ins_r C (by omega)]
        exact b (by omega) c hc
      · rw [ins_o C (by omega) y, ← a5 x c (by omega) hc]
        refine far _ (by omega) (fun q => Or.inr (Or.inr ?_)) (by omega)
        rw [show bs 3 = 83 from rfl, show wt 3 = 4 from rfl]; omega
    · rw [z 3 e] at hx
      rw [ins_t C e (by omega), ← a5 x c hx hc]
      refine far _ (by omega) (fun q => ?_) (by omega)
      rcases T with T | T | T | T | T <;> omega
  · by_cases e : 4 = t
    · subst e
      rw [n0] at hx
      by_cases y : x = C 0 0 4
      · subst y; rw [ins_r C (by omega)]
        exact b (by omega) c hc
      · rw [ins_o C (by omega) y, ← a6 x c (by omega) hc]
        refine far _ (by omega) (fun q => Or.inr (Or.inr ?_)) (by omega)
        rw [show bs 4 = 115 from rfl, show wt 4 = 3 from rfl]; omega
    · rw [z 4 e] at hx
      rw [ins_t C e (by omega), ← a6 x c hx hc]
      refine far _ (by omega) (fun q => ?_) (by omega)
      rcases T with T | T | T | T | T <;> omega
  · rw [← b9]
    refine far _ (by omega) (fun q => Or.inl ?_) (by omega)
    rcases T with T | T | T | T | T <;> omega
  · have le : C 0 0 2 ≤ x ∧ (t = 2 → C 0 0 t < x) := by
      by_cases e : 2 = t
      · subst e; rw [n0] at hx; omega
      · rw [z 2 e] at hx; omega
    rw [← b2 x c le.1 h1 h2 hc]
    refine far _ (by omega) (fun q => ?_) (by omega)
    rcases T with T | T | T | T | T <;> omega
  · have le : C 0 0 3 ≤ x ∧ (t = 3 → C 0 0 t < x) := by
      by_cases e : 3 = t
      · subst e; rw [n0] at hx; omega
      · rw [z 3 e] at hx; omega
    rw [← b3 x le.1 h1]
    refine far _ (by omega) (fun q => ?_) (by omega)
    rcases T with T | T | T | T | T <;> omega
  · have le : C 0 0 4 ≤ x ∧ (t = 4 → C 0 0 t < x) := by
      by_cases e : 4 = t
      · subst e; rw [n0] at hx; omega
      · rw [z 4 e] at hx; omega
    rw [← b4 x le.1 h1]
    refine far _ (by omega) (fun q => ?_) (by omega)
    rcases T with T | T | T | T | T <;> omega
