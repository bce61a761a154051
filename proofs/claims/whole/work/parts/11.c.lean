/-! ===== TRAYS ===== -/
def putN {α : Type} (f g : Nat → α) (a n : Nat) : Nat → α := fun k => if a ≤ k ∧ k < a + n then g (k - a) else f k
theorem putN_0 {α : Type} (f g : Nat → α) (a : Nat) : putN f g a 0 = f := by
  funext k; unfold putN; rw [if_neg (by omega)]
theorem putN_sL (f g : Nat → Int64) (a n : Nat) : vp_updL (putN f g a n) (a + n) (g n) = putN f g a (n + 1) := by
  funext k; unfold vp_updL putN
  by_cases h : k = a + n
  · rw [if_pos h, if_pos (by omega)]; congr 1; omega
  · rw [if_neg h]
    by_cases h2 : a ≤ k ∧ k < a + n
    · rw [if_pos h2, if_pos (by omega)]
    · rw [if_neg h2, if_neg (by omega)]
theorem putN_s (f g : Nat → Int32) (a n : Nat) : upd (putN f g a n) (a + n) (g n) = putN f g a (n + 1) := by
  funext k; unfold upd putN
  by_cases h : k = a + n
  · rw [if_pos h, if_pos (by omega)]; congr 1; omega
  · rw [if_neg h]
    by_cases h2 : a ≤ k ∧ k < a + n
    · rw [if_pos h2, if_pos (by omega)]
    · rw [if_neg h2, if_neg (by omega)]
theorem jputL_nI (f : Nat → Int64) {k : Nat} (x : Int64) (h : k < 2 ^ 31) : jputL f (nI k) x = vp_updL f k x := by
  unfold jputL; rw [nI_clamp h]
/-- what is known of the TRAYS: sizes from -1 to 60, sorts -/
def TrOk (sz so : Nat → Int32) : Prop := ∀ t, t < 4 → (sz t = -1 ∨ ∃ n, n ≤ 60 ∧ sz t = nI n) ∧ (0 ≤ so t ∧ so t ≤ 3)
def R_tr (S T : vS) : Prop := S.2.2.2 6 = T.2.2.2 1 ∧ S.2.2.1 57 = T.2.2.1 1 ∧ S.2.2.1 58 = T.2.2.1 2 ∧ TrOk (S.2.2.1 58) (S.2.2.1 57)
theorem lay_e {F t n : Nat} {f : Nat → Int64} {so sz : Nat → Int32} {v2 : Int32} (ht : t < 4) (hn : n ≤ 60) (hF : 61 < F) : X9_lay F f so sz (nI t) v2 (nI n) = some (putN f (fun _ => 0) (60 * t) n, upd so t v2, upd sz t (nI n)) := by
  unfold X9_lay
  rw [isTrayX_e, bI_t (show 0 ≤ nI t ∧ nI t < 4 from ixOf (n := 4) ht (by omega))]
  have hit : iter (X9_lay_b32 F (jput so (nI t) v2) (jput sz (nI t) (nI n)) (nI t) (nI n)) F (0, f) = some (putN f (fun _ => 0) (60 * t) n) := by
    have := iter_count (b := X9_lay_b32 F (jput so (nI t) v2) (jput sz (nI t) (nI n)) (nI t) (nI n)) (fun i => (nI i, putN f (fun _ => 0) (60 * t) i)) n (e := putN f (fun _ => 0) (60 * t) n) ?_ ?_ F (by omega)
    · rw [← this, putN_0]; rfl
    · intro i hi
      unfold X9_lay_b32
      have e : nI t * 60 + nI i = nI (60 * t + i) := by
        rw [show (60 : Int32) = nI 60 from rfl, pk_mul, nI_add, Nat.mul_comm]
      simp only [if_neg (nI_ge hi (by omega)), e, ix_nI (show 60 * t + i < 240 by omega) (by omega), if_true, jputL_nI _ _ (show 60 * t + i < 2 ^ 31 by omega), nI_1]
      rw [putN_sL]
    · unfold X9_lay_b32
      simp only [if_pos (nI_le (Nat.le_refl n) (by omega))]
  simp only [Option.bind_some, if_neg (show ¬ (1 : Int32) = 0 by decide), if_pos (show nI n ≤ 60 from nI_le (b := 60) hn (by omega)), ix_nI ht (show 4 < 2 ^ 31 by omega), if_true]
  rw [hit]
  simp only [Option.bind_some, jput_nI so v2 (show t < 2 ^ 31 by omega), jput_nI sz (nI n) (show t < 2 ^ 31 by omega)]
theorem trayM_it {F t n : Nat} {f : Nat → Int64} {so sz : Nat → Int32} {s : Int32} (ht : t < 4) (hn : n ≤ 60) (hF : 61 < F) : iter (X12_tray_b49 F s so sz (nI t) (nI n)) F (0, f) = some (putN f (fun _ => 0) (60 * t) n) := by
  have := iter_count (b := X12_tray_b49 F s so sz (nI t) (nI n)) (fun i => (nI i, putN f (fun _ => 0) (60 * t) i)) n (e := putN f (fun _ => 0) (60 * t) n) ?_ ?_ F (by omega)
  · rw [← this, putN_0]; rfl
  · intro i hi
    unfold X12_tray_b49
    have e : 60 * nI t + nI i = nI (60 * t + i) := by
      rw [show (60 : Int32) = nI 60 from rfl, pk_mul, nI_add]
    simp only [if_neg (nI_ge hi (by omega)), e, ix_nI (show 60 * t + i < 240 by omega) (by omega), if_true, jputL_nI _ _ (show 60 * t + i < 2 ^ 31 by omega), nI_1]
    rw [putN_sL]
  · unfold X12_tray_b49
    simp only [if_pos (nI_le (Nat.le_refl n) (by omega))]
/-- tray(): refused alike, or laid alike -/
theorem tray_e {F : Nat} {s s' : Int32} {f : Nat → Int64} {so sz : Nat → Int32} (v1 v2 v3 : Int32) (hF : 61 < F) (hk : TrOk sz so) :
    (X11_tray F s f so sz v1 v2 v3 = some (0, 1, f, so, sz) ∧ X12_tray F s' so sz f v1 v2 v3 = some (0, 1, so, sz, f)) ∨
    ∃ f2 so2 sz2, X11_tray F s f so sz v1 v2 v3 = some (1, 0, f2, so2, sz2) ∧ X12_tray F s' so sz f v1 v2 v3 = some (1, 0, so2, sz2, f2) ∧ TrOk sz2 so2 := by
  unfold X11_tray X12_tray X11_tray_j30 X12_tray_j26
  rw [isTrayX_e, isTrayM_e, within_e, within_e]
  simp only [Option.bind_some]
  by_cases h1 : 0 ≤ v1 ∧ v1 < 4
  · obtain ⟨t, ht, rfl⟩ := asIx (n := 4) (by omega) h1
    rw [bI_t h1]
    by_cases h2 : 0 ≤ v2 ∧ v2 ≤ 3
    · rw [bI_t h2]
      by_cases h3 : 0 ≤ v3 ∧ v3 ≤ 60
      · rw [bI_t h3]
        obtain ⟨n, hn, rfl⟩ := nI_of2 (x := v3) (M := 60) (n := 60) (by decide) (Int32.not_lt.mpr h3.1) h3.2
        refine Or.inr ⟨putN f (fun _ => 0) (60 * t) n, upd so t v2, upd sz t (nI n), ?_, ?_, ?_⟩
        · rw [lay_e ht hn hF]; rfl
        · simp only [if_neg (show ¬ (1 : Int32) = 0 by decide), if_neg (Int32.not_lt.mpr h2.1), if_neg (Int32.not_lt.mpr h2.2), if_neg (Int32.not_lt.mpr h3.1), if_pos h3.2, ix_nI ht (show 4 < 2 ^ 31 by omega), if_true]
          rw [trayM_it ht hn hF]
          simp only [Option.bind_some, jput_nI so v2 (show t < 2 ^ 31 by omega), jput_nI sz (nI n) (show t < 2 ^ 31 by omega)]
          rfl
        · intro u hu
          obtain ⟨k1, k2⟩ := hk u hu
          unfold upd
          by_cases e : u = t
          · simp only [e, if_true]; exact ⟨Or.inr ⟨n, hn, rfl⟩, h2⟩
          · simp only [e, if_false]; exact ⟨k1, k2⟩
      · rw [bI_f h3]
        refine Or.inl ⟨rfl, ?_⟩
        simp only [if_neg (show ¬ (1 : Int32) = 0 by decide), if_neg (Int32.not_lt.mpr h2.1), if_neg (Int32.not_lt.mpr h2.2)]
        by_cases h4 : v3 < 0
        · rw [if_pos h4]; rfl
        · rw [if_neg h4, if_neg (fun q => h3 ⟨Int32.not_lt.mp h4, q⟩)]; rfl
    · rw [bI_f h2]
      refine Or.inl ⟨rfl, ?_⟩
      simp only [if_neg (show ¬ (1 : Int32) = 0 by decide)]
      by_cases h4 : v2 < 0
      · rw [if_pos h4]; rfl
      · rw [if_neg h4, if_pos (Int32.not_le.mp fun q => h2 ⟨Int32.not_lt.mp h4, q⟩)]; rfl
  · rw [bI_f h1]
    exact Or.inl ⟨rfl, rfl⟩
