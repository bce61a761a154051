/-! ===== small answers in closed form ===== -/
def bI (p : Prop) [Decidable p] : Int32 := if p then 1 else 0
theorem bI_t {p : Prop} [Decidable p] (h : p) : bI p = 1 := if_pos h
theorem bI_f {p : Prop} [Decidable p] (h : ¬ p) : bI p = 0 := if_neg h
theorem bI_0 {p : Prop} [Decidable p] : bI p = 0 ↔ ¬ p := by
  by_cases h : p
  · rw [bI_t h]; exact ⟨fun q => absurd q (by decide), fun q => absurd h q⟩
  · rw [bI_f h]; exact ⟨fun _ => h, fun _ => rfl⟩
theorem isZ_bI {p : Prop} [Decidable p] : isZ (bI p) = true := by
  by_cases h : p
  · rw [bI_t h]; rfl
  · rw [bI_f h]; rfl
theorem bI_congr {p q : Prop} [Decidable p] [Decidable q] (h : p ↔ q) : bI p = bI q := by
  by_cases hp : p
  · rw [bI_t hp, bI_t (h.mp hp)]
  · rw [bI_f hp, bI_f (fun z => hp (h.mpr z))]
theorem within_e (a b c : Int32) : X11_within a b c = some (bI (b ≤ a ∧ a ≤ c)) := by
  unfold X11_within X11_within_j14
  by_cases h1 : a < b
  · rw [if_pos h1, bI_f (fun q => absurd q.1 (Int32.not_le.mpr h1))]
  · rw [if_neg h1]
    by_cases h2 : c < a
    · rw [if_pos h2, bI_f (fun q => absurd q.2 (Int32.not_le.mpr h2))]
    · rw [if_neg h2, bI_t ⟨Int32.not_lt.mp h1, Int32.not_lt.mp h2⟩]
theorem isTrayX_e (v : Int32) : X9_isTray v = some (bI (0 ≤ v ∧ v < 4)) := by
  unfold X9_isTray X9_isTray_j13
  by_cases h1 : v < 0
  · rw [if_pos h1, bI_f (fun q => absurd q.1 (Int32.not_le.mpr h1))]
  · rw [if_neg h1]
    by_cases h2 : 4 ≤ v
    · rw [if_pos h2, bI_f (fun q => absurd q.2 (Int32.not_lt.mpr h2))]
    · rw [if_neg h2, bI_t ⟨Int32.not_lt.mp h1, Int32.not_le.mp h2⟩]
theorem isTrayM_e (v : Int32) : X12_isTray v = some (bI (0 ≤ v ∧ v < 4)) := by
  unfold X12_isTray X12_isTray_j13
  by_cases h1 : v < 0
  · rw [if_pos h1, bI_f (fun q => absurd q.1 (Int32.not_le.mpr h1))]
  · rw [if_neg h1]
    by_cases h2 : 4 ≤ v
    · rw [if_pos h2, bI_f (fun q => absurd q.2 (Int32.not_lt.mpr h2))]
    · rw [if_neg h2, bI_t ⟨Int32.not_lt.mp h1, Int32.not_le.mp h2⟩]
theorem lg_lt (x y : Int64) : lg_cmp x y < 0 ↔ x < y := lg_cmp_lt x y
theorem lg_gt (x y : Int64) : 0 < lg_cmp x y ↔ y < x := lg_cmp_gt x y
theorem isFrom_e (a b c : Int64) : X12_isFrom a b c = some (bI (b ≤ a ∧ a ≤ c)) := by
  unfold X12_isFrom X12_isFrom_j17
  by_cases h1 : a < b
  · rw [if_pos ((lg_lt _ _).mpr h1), bI_f (fun q => absurd q.1 (Int64.not_le.mpr h1))]
  · rw [if_neg (fun q => h1 ((lg_lt _ _).mp q))]
    by_cases h2 : c < a
    · rw [if_pos ((lg_gt _ _).mpr h2), bI_f (fun q => absurd q.2 (Int64.not_le.mpr h2))]
    · rw [if_neg (fun q => h2 ((lg_gt _ _).mp q)), bI_t ⟨Int64.not_lt.mp h1, Int64.not_lt.mp h2⟩]
theorem w_le (a b : Int32) : a.toInt64 ≤ b.toInt64 ↔ a ≤ b := by
  rw [Int64.le_iff_toInt_le, Int32.le_iff_toInt_le, Int32.toInt_toInt64, Int32.toInt_toInt64]
theorem w_lt (a b : Int32) : a.toInt64 < b.toInt64 ↔ a < b := by
  rw [Int64.lt_iff_toInt_lt, Int32.lt_iff_toInt_lt, Int32.toInt_toInt64, Int32.toInt_toInt64]
theorem isFromI (v : Int32) {B C : Int64} {b c : Int32} (hB : B = b.toInt64) (hC : C = c.toInt64) : X12_isFrom v.toInt64 B C = some (bI (b ≤ v ∧ v ≤ c)) := by
  rw [isFrom_e, hB, hC]
  congr 1
  exact bI_congr (by rw [w_le, w_le])
theorem pred_le (v : Int32) {n : Nat} (hn : n < 2 ^ 31) : v ≤ nI n - 1 ↔ v < nI n := by
  have h1 : (nI n - 1).toInt = (n : Int) - 1 := by
    cases n with
    | zero => decide
    | succ n => rw [nI_pred, nI_toInt (by omega)]; omega
  rw [Int32.le_iff_toInt_le, Int32.lt_iff_toInt_lt, h1, nI_toInt hn]; omega
/-- a number that is an index below n -/
theorem asIx {v : Int32} {n : Nat} (hn : n < 2 ^ 31) (h : 0 ≤ v ∧ v < nI n) : ∃ j, j < n ∧ v = nI j := by
  rcases pk_ix v hn with q | q | q
  · exact absurd h.1 (Int32.not_le.mpr q)
  · exact absurd h.2 (Int32.not_lt.mpr q)
  · exact q
theorem ixOf {j n : Nat} (hj : j < n) (hn : n < 2 ^ 31) : 0 ≤ nI j ∧ nI j < nI n := ⟨nI_pos' (by omega), nI_lt hj hn⟩
theorem R_none {s w : Int32} : X11_none s w = some (-1, w) := rfl
def R_st (S T : vS) : Prop := S.1 5 = T.1 0
def R_fr (S T : vS) : Prop := S.2.1 0 = T.2.1 0 ∧ S.2.1 1 = T.2.1 1
theorem R_status (F : Nat) (S T : vS) (h : R_st S T) : ∃ r, xx_status F S = some (r, S) ∧ xm_status F T = some (r, T) := ⟨S.1 5, rfl, by show some (T.1 0, T) = _; rw [h]⟩
theorem R_top (F : Nat) (S T : vS) (h : R_fr S T) : ∃ r, xx_top F S = some (r, S) ∧ xm_top F T = some (r, T) := ⟨S.2.1 0, rfl, by show some (T.2.1 0, T) = _; rw [h.1]⟩
theorem R_bottom (F : Nat) (S T : vS) (h : R_fr S T) : ∃ r, xx_bottom F S = some (r, S) ∧ xm_bottom F T = some (r, T) := ⟨S.2.1 1, rfl, by show some (T.2.1 1, T) = _; rw [h.2]⟩
