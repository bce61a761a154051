/-! ===== the model's readers ===== -/
theorem at2 (k : Nat) (h : k < 3097) : ix (nI k) 3097 = true := ix_nI h (by omega)
theorem extraOf_e (g : Nat → Int32) {x c : Nat} (hx : x < 7) (hc : c < 5) {C : Int32} (hC : C = nI c) : X12_extraOf g (nI x) C = some (g (48 + 5 * x + c)) := by
  subst hC
  unfold X12_extraOf X12_extraRow
  have e : (48 : Int32) + 5 * nI x + nI c = nI (48 + 5 * x + c) := by rw [show (48 : Int32) = nI 48 from rfl, show (5 : Int32) = nI 5 from rfl, pk_mul, nI_add, nI_add]
  simp only [Option.bind_some, e, at2 (48 + 5 * x + c) (by omega), jat_nI g (show 48 + 5 * x + c < 2 ^ 31 by omega), if_true]
theorem happeningOf_e (g : Nat → Int32) {x c : Nat} (hx : x < 8) (hc : c < 4) {C : Int32} (hC : C = nI c) : X12_happeningOf g (nI x) C = some (g (83 + 4 * x + c)) := by
  subst hC
  unfold X12_happeningOf X12_happeningRow
  have e : (83 : Int32) + 4 * nI x + nI c = nI (83 + 4 * x + c) := by rw [show (83 : Int32) = nI 83 from rfl, show (4 : Int32) = nI 4 from rfl, pk_mul, nI_add, nI_add]
  simp only [Option.bind_some, e, at2 (83 + 4 * x + c) (by omega), jat_nI g (show 83 + 4 * x + c < 2 ^ 31 by omega), if_true]
theorem watcherOf_e (g : Nat → Int32) {x c : Nat} (hx : x < 4) (hc : c < 3) {C : Int32} (hC : C = nI c) : X12_watcherOf g (nI x) C = some (g (115 + 3 * x + c)) := by
  subst hC
  unfold X12_watcherOf X12_watcherRow
  have e : (115 : Int32) + 3 * nI x + nI c = nI (115 + 3 * x + c) := by rw [show (115 : Int32) = nI 115 from rfl, show (3 : Int32) = nI 3 from rfl, pk_mul, nI_add, nI_add]
  simp only [Option.bind_some, e, at2 (115 + 3 * x + c) (by omega), jat_nI g (show 115 + 3 * x + c < 2 ^ 31 by omega), if_true]
/-! ===== the two cities: extras, happenings, watchers ===== -/
/-- the class's extras xf and the model's slot g -/
def RE (n : Nat) (xf g : Nat → Int32) : Prop := ∀ x, x < n → g (48 + 5 * x) = (if xf (x * 5 + 1) = 0 then xf (x * 5) else 10 + xf (x * 5)) ∧ ∀ c, 1 ≤ c → c < 5 → g (48 + 5 * x + c) = xf (x * 5 + c)
def RH (n : Nat) (hf g : Nat → Int32) : Prop := ∀ h, h < n → ∀ c, c < 4 → g (83 + 4 * h + c) = hf (h * 5 + c)
def RW (n : Nat) (wf g : Nat → Int32) : Prop := ∀ w, w < n → ∀ c, c < 3 → g (115 + 3 * w + c) = wf (w * 3 + c)
def WE (nC nE : Nat) (xf : Nat → Int32) : Prop := ∀ x, x < nE → (∃ a, a < nC ∧ xf (x * 5) = nI a) ∧ (∃ l, l ≤ 8 ∧ xf (x * 5 + 1) = nI l) ∧ (∃ r, r < 256 ∧ xf (x * 5 + 2) = nI r)
def WH (nC nH : Nat) (hf : Nat → Int32) : Prop := ∀ h, h < nH → (∃ a, a < nC ∧ hf (h * 5) = nI a) ∧ (∃ d, d ≤ 9999 ∧ hf (h * 5 + 1) = nI d) ∧ (∃ k, 1 ≤ k ∧ k ≤ 4 ∧ hf (h * 5 + 2) = nI k) ∧ (∃ k, k ≤ 2 ∧ hf (h * 5 + 3) = nI k)
def WW (nC nW : Nat) (wf : Nat → Int32) : Prop := ∀ w, w < nW → (∃ a, a < nC ∧ wf (w * 3) = nI a) ∧ (∃ k, 1 ≤ k ∧ k ≤ 7 ∧ wf (w * 3 + 1) = nI k)
theorem isExtraX_e {nE : Nat} (v : Int32) (hE : nE < 2 ^ 31) : X11_isExtra (nI nE) v = some (bI (0 ≤ v ∧ v < nI nE)) := by
  unfold X11_isExtra
  rw [within_e, bI_congr (show (0 ≤ v ∧ v ≤ nI nE - 1) ↔ (0 ≤ v ∧ v < nI nE) by rw [pred_le v hE]), Option.bind_some, if_pos isZ_bI]
theorem isCornerX_e {nE : Nat} (v : Int32) (hE : nE < 2 ^ 31) : X11_isCorner (nI nE) v = some (bI (0 ≤ v ∧ v < nI nE)) := by
  unfold X11_isCorner
  rw [within_e, bI_congr (show (0 ≤ v ∧ v ≤ nI nE - 1) ↔ (0 ≤ v ∧ v < nI nE) by rw [pred_le v hE]), Option.bind_some, if_pos isZ_bI]
theorem isHappeningX_e {nE : Nat} (v : Int32) (hE : nE < 2 ^ 31) : X11_isHappening (nI nE) v = some (bI (0 ≤ v ∧ v < nI nE)) := by
  unfold X11_isHappening
  rw [within_e, bI_congr (show (0 ≤ v ∧ v ≤ nI nE - 1) ↔ (0 ≤ v ∧ v < nI nE) by rw [pred_le v hE]), Option.bind_some, if_pos isZ_bI]
theorem isWatcherX_e {nE : Nat} (v : Int32) (hE : nE < 2 ^ 31) : X11_isWatcher (nI nE) v = some (bI (0 ≤ v ∧ v < nI nE)) := by
  unfold X11_isWatcher
  rw [within_e, bI_congr (show (0 ≤ v ∧ v ≤ nI nE - 1) ↔ (0 ≤ v ∧ v < nI nE) by rw [pred_le v hE]), Option.bind_some, if_pos isZ_bI]
theorem isM_aux (v : Int32) (y : Int32) : (if v < 0 then some 0 else if y ≤ v then some (0 : Int32) else some 1) = some (bI (0 ≤ v ∧ v < y)) := by
  by_cases h1 : v < 0
  · rw [if_pos h1, bI_f (fun q => absurd q.1 (Int32.not_le.mpr h1))]
  · rw [if_neg h1]
    by_cases h2 : y ≤ v
    · rw [if_pos h2, bI_f (fun q => absurd q.2 (Int32.not_lt.mpr h2))]
    · rw [if_neg h2, bI_t ⟨Int32.not_lt.mp h1, Int32.not_le.mp h2⟩]
theorem isExtraM_e (g : Nat → Int32) (v : Int32) : X12_isExtra g v = some (bI (0 ≤ v ∧ v < g 2)) := isM_aux v (g 2)
theorem isCornerM_e (g : Nat → Int32) (v : Int32) : X12_isCorner g v = some (bI (0 ≤ v ∧ v < g 0)) := isM_aux v (g 0)
theorem isHappeningM_e (g : Nat → Int32) (v : Int32) : X12_isHappening g v = some (bI (0 ≤ v ∧ v < g 3)) := isM_aux v (g 3)
theorem isWatcherM_e (g : Nat → Int32) (v : Int32) : X12_isWatcher g v = some (bI (0 ≤ v ∧ v < g 4)) := isM_aux v (g 4)
