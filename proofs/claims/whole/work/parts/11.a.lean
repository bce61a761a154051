/-! ===== PURE: loops that count, tables, sets as numbers ===== -/
theorem iter_count {σ ε : Type} {b : σ → Option (σ ⊕ ε)} (S : Nat → σ) (n : Nat) {e : ε} (hs : ∀ i, i < n → b (S i) = some (.inl (S (i + 1)))) (he : b (S n) = some (.inr e)) : ∀ F, n < F → iter b F (S 0) = some e := by
  have key : ∀ k i, i + k = n → ∀ F, k < F → iter b F (S i) = some e := by
    intro k
    induction k with
    | zero =>
      intro i hi F hF
      obtain ⟨G, rfl⟩ : ∃ G, F = G + 1 := ⟨F - 1, by omega⟩
      have : i = n := by omega
      subst this
      simp only [iter, he]
    | succ k ih =>
      intro i hi F hF
      obtain ⟨G, rfl⟩ : ∃ G, F = G + 1 := ⟨F - 1, by omega⟩
      simp only [iter, hs i (by omega)]
      exact ih (i + 1) (by omega) G (by omega)
  exact fun F hF => key n 0 (by omega) F hF
theorem iter_mono {σ ε : Type} {b : σ → Option (σ ⊕ ε)} : ∀ (k : Nat) (s : σ) (e : ε), iter b k s = some e → ∀ k', k ≤ k' → iter b k' s = some e
  | 0, _, _, h, _, _ => by cases h
  | k + 1, s, e, h, k', hk => by
    obtain ⟨G, rfl⟩ : ∃ G, k' = G + 1 := ⟨k' - 1, by omega⟩
    simp only [iter] at h ⊢
    cases hb : b s with
    | none => rw [hb] at h; cases h
    | some r =>
      rw [hb] at h
      cases r with
      | inl s' => exact iter_mono k s' e h G (by omega)
      | inr e' => exact h
theorem ix_nI {k n : Nat} (h : k < n) (hn : n < 2 ^ 31) : ix (nI k) n = true := by
  simp only [ix, Bool.and_eq_true, decide_eq_true_eq]
  exact ⟨nI_pos' (by omega), by rw [nI_clamp (by omega)]; exact h⟩
theorem jat_nI {α : Type} (f : Nat → α) {k : Nat} (h : k < 2 ^ 31) : jat f (nI k) = f k := by
  unfold jat; rw [nI_clamp h]
theorem jput_nI (f : Nat → Int32) {k : Nat} (x : Int32) (h : k < 2 ^ 31) : jput f (nI k) x = upd f k x := by
  unfold jput; rw [nI_clamp h]
theorem tget {n w m r c : Nat} {f : Nat → Int32} {W C : Int32} (hW : W = nI w) (hC : C = nI c) (hr : r < m) (hc : c < w) (hm : m * w ≤ n) (hn : n < 2 ^ 31) : X7_get n W (nI m) f (nI r) C = some (f (r * w + c)) := by
  have h0 : r * w + c < n := by
    have : (r + 1) * w ≤ m * w := Nat.mul_le_mul_right w hr
    rw [Nat.succ_mul] at this; omega
  have hw : 0 < w := by omega
  have hm1 : m ≤ m * w := Nat.le_mul_of_pos_right m hw
  have hw1 : w ≤ m * w := Nat.le_mul_of_pos_left w (by omega)
  subst hW; subst hC
  unfold X7_get X7_get_j28 X7_get_j29
  rw [if_neg (nI_pos (by omega)), if_neg (nI_ge hr (by omega)), if_neg (nI_pos (by omega)), if_neg (nI_ge hc (by omega))]
  have e : nI r * nI w + nI c = nI (r * w + c) := by rw [pk_mul, nI_add]
  simp only [e, ix_nI h0 hn, jat_nI f (show r * w + c < 2 ^ 31 by omega)]
  rfl
