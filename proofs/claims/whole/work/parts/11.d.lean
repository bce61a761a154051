/-! ===== a place of a TRAY ===== -/
theorem sum_gt (a b c : Int32) : 0 < lg_cmp (a.toInt64 + b.toInt64) c.toInt64 ↔ c.toInt < a.toInt + b.toInt := by
  rw [lg_gt, Int64.lt_iff_toInt_lt]
  have ha := fb_rng a
  have hb := fb_rng b
  rw [fb_addL (by rw [Int32.toInt_toInt64, Int32.toInt_toInt64]; omega) (by rw [Int32.toInt_toInt64, Int32.toInt_toInt64]; omega), Int32.toInt_toInt64, Int32.toInt_toInt64, Int32.toInt_toInt64]
theorem hasRange_e {sz : Nat → Int32} {t : Nat} (ht : t < 4) (a b : Int32) : X9_hasRange sz (nI t) a b = some (bI (a.toInt + b.toInt ≤ (sz t).toInt)) := by
  unfold X9_hasRange X9_hasRange_j28
  rw [isTrayX_e, bI_t (show 0 ≤ nI t ∧ nI t < 4 from ixOf (n := 4) ht (by omega))]
  simp only [Option.bind_some, if_neg (show ¬ (1 : Int32) = 0 by decide), ix_nI ht (show 4 < 2 ^ 31 by omega), if_true, jat_nI sz (show t < 2 ^ 31 by omega), sum_gt]
  by_cases h : (sz t).toInt < a.toInt + b.toInt
  · rw [if_pos h, bI_f (by omega)]
  · rw [if_neg h, bI_t (by omega)]
theorem isMissing_e {sz : Nat → Int32} {t : Nat} (ht : t < 4) : X9_isMissing sz (nI t) = some (bI (sz t = -1)) := by
  unfold X9_isMissing X9_isMissing_j18
  rw [isTrayX_e, bI_t (show 0 ≤ nI t ∧ nI t < 4 from ixOf (n := 4) ht (by omega))]
  simp only [Option.bind_some, if_neg (show ¬ (1 : Int32) = 0 by decide), ix_nI ht (show 4 < 2 ^ 31 by omega), if_true, jat_nI sz (show t < 2 ^ 31 by omega)]
  by_cases h : sz t = -1
  · rw [if_pos h, bI_t h]
  · rw [if_neg h, bI_f h]
theorem nI_ne_m1 {n : Nat} (h : n < 2 ^ 31) : ¬ nI n = -1 := fun e => by
  have := congrArg Int32.toInt e
  rw [nI_toInt h] at this
  have h2 : (-1 : Int32).toInt = -1 := by decide
  omega
/-- what a place of a TRAY comes to: refused alike, or a place that is there -/
theorem place_e {sz so : Nat → Int32} (v1 v2 : Int32) (hk : TrOk sz so) :
    (∃ w : Int32, 0 < w ∧ X11_placeStatus sz v1 v2 = some w ∧ X12_wrongPlace sz v1 v2 = some w) ∨
    (X11_placeStatus sz v1 v2 = some 0 ∧ X12_wrongPlace sz v1 v2 = some 0 ∧ ∃ t n j, t < 4 ∧ n ≤ 60 ∧ j < n ∧ v1 = nI t ∧ v2 = nI j ∧ sz t = nI n) := by
  unfold X11_placeStatus X12_wrongPlace X11_placeStatus_j43 X12_wrongPlace_j39
  rw [isTrayX_e, isTrayM_e]
  simp only [Option.bind_some]
  by_cases h1 : 0 ≤ v1 ∧ v1 < 4
  · obtain ⟨t, ht, rfl⟩ := asIx (n := 4) (by omega) h1
    rw [bI_t h1, isMissing_e ht, hasRange_e ht]
    simp only [Option.bind_some, if_neg (show ¬ (1 : Int32) = 0 by decide), ix_nI ht (show 4 < 2 ^ 31 by omega), if_true, jat_nI sz (show t < 2 ^ 31 by omega)]
    rcases (hk t ht).1 with h2 | ⟨n, hn, h2⟩
    · left
      refine ⟨2, by decide, ?_, ?_⟩
      · rw [bI_t h2]; rfl
      · rw [if_pos h2]
    · rw [h2, bI_f (nI_ne_m1 (by omega)), if_neg (nI_ne_m1 (by omega)), if_pos rfl]
      by_cases h3 : v2 < 0
      · left
        exact ⟨3, by decide, by rw [if_pos h3], by rw [if_pos h3]⟩
      · rw [if_neg h3, if_neg h3]
        obtain ⟨j, hj, rfl⟩ := nI_of h3
        by_cases h4 : j < n
        · right
          refine ⟨?_, ?_, t, n, j, ht, hn, h4, rfl, rfl, h2⟩
          · rw [bI_t (by rw [nI_toInt hj, nI_toInt (by omega), show (1 : Int32).toInt = 1 from by decide]; omega)]; rfl
          · rw [if_pos (nI_lt h4 (by omega))]
        · left
          refine ⟨3, by decide, ?_, ?_⟩
          · rw [bI_f (by rw [nI_toInt hj, nI_toInt (by omega), show (1 : Int32).toInt = 1 from by decide]; omega)]; rfl
          · rw [if_neg (nI_nlt (by omega) hj)]
  · left
    rw [bI_f h1]
    exact ⟨1, by decide, rfl, rfl⟩
theorem hasPlace_e {sz : Nat → Int32} {t n j : Nat} (ht : t < 4) (hn : n ≤ 60) (hj : j < n) (hs : sz t = nI n) : X9_hasPlace sz (nI t) (nI j) = some 1 := by
  unfold X9_hasPlace
  rw [isTrayX_e, bI_t (show 0 ≤ nI t ∧ nI t < 4 from ixOf (n := 4) ht (by omega))]
  simp only [Option.bind_some, if_neg (show ¬ (1 : Int32) = 0 by decide), if_neg (nI_pos (show j < 2 ^ 31 by omega)), ix_nI ht (show 4 < 2 ^ 31 by omega), if_true, jat_nI sz (show t < 2 ^ 31 by omega), hs, if_neg (nI_ge hj (show n < 2 ^ 31 by omega))]
theorem shr_trim (v : Int64) (w : Int32) : X12_shrunk v w = X9_trimmed v w := rfl
theorem trim_some (v : Int64) (w : Int32) : ∃ x, X9_trimmed v w = some x := by
  unfold X9_trimmed
  by_cases h0 : w = 0
  · exact ⟨_, by rw [if_pos h0]⟩
  · by_cases h1 : w = 1
    · exact ⟨_, by rw [if_neg h0, if_pos h1]⟩
    · by_cases h2 : w = 2
      · exact ⟨_, by rw [if_neg h0, if_neg h1, if_pos h2]⟩
      · exact ⟨_, by rw [if_neg h0, if_neg h1, if_neg h2]⟩
theorem at60 (t j : Nat) : nI t * 60 + nI j = nI (60 * t + j) := by
  rw [show (60 : Int32) = nI 60 from rfl, pk_mul, nI_add, Nat.mul_comm]
theorem at60' (t j : Nat) : 60 * nI t + nI j = nI (60 * t + j) := by
  rw [show (60 : Int32) = nI 60 from rfl, pk_mul, nI_add]
theorem write_e {s s' : Int32} {f : Nat → Int64} {so sz : Nat → Int32} (v1 v2 : Int32) (v3 : Int64) (hk : TrOk sz so) :
    ∃ r w f2, X11_write s f so sz v1 v2 v3 = some (r, w, f2) ∧ X12_write s' so sz f v1 v2 v3 = some (r, w, f2) := by
  unfold X11_write X12_write X12_write_j34
  rcases place_e v1 v2 hk with ⟨w, hw, h1, h2⟩ | ⟨h1, h2, t, n, j, ht, hn, hj, rfl, rfl, hs⟩
  · have hw0 : ¬ w = 0 := fun e => by rw [e] at hw; exact absurd hw (by decide)
    refine ⟨0, w, f, ?_, ?_⟩
    · rw [h1]; simp only [Option.bind_some, if_neg hw0]; rfl
    · rw [h2]; simp only [Option.bind_some, if_neg hw0, X12_is]; rfl
  · obtain ⟨x, hx⟩ := trim_some v3 (so t)
    refine ⟨1, 0, vp_updL f (60 * t + j) x, ?_, ?_⟩
    · rw [h1]
      unfold X9_set
      simp only [Option.bind_some, if_pos (show (0 : Int32) = 0 from rfl), hasPlace_e ht hn hj hs, if_neg (show ¬ (1 : Int32) = 0 by decide), ix_nI ht (show 4 < 2 ^ 31 by omega), if_true, jat_nI so (show t < 2 ^ 31 by omega), hx, at60, ix_nI (show 60 * t + j < 240 by omega) (by omega), jputL_nI _ _ (show 60 * t + j < 2 ^ 31 by omega)]
      rfl
    · rw [h2]
      simp only [Option.bind_some, if_pos (show (0 : Int32) = 0 from rfl), ix_nI ht (show 4 < 2 ^ 31 by omega), if_true, jat_nI so (show t < 2 ^ 31 by omega), shr_trim, hx, at60', ix_nI (show 60 * t + j < 240 by omega) (by omega), jputL_nI _ _ (show 60 * t + j < 2 ^ 31 by omega), X12_is]
      rfl
theorem read_e {s s' : Int32} {f : Nat → Int64} {so sz : Nat → Int32} (v1 v2 : Int32) (hk : TrOk sz so) :
    ∃ r w, X11_read s f sz v1 v2 = some (r, w) ∧ X12_read s' sz f v1 v2 = some (r, w) := by
  unfold X11_read X12_read
  rcases place_e v1 v2 hk with ⟨w, hw, h1, h2⟩ | ⟨h1, h2, t, n, j, ht, hn, hj, rfl, rfl, hs⟩
  · have hw0 : ¬ w = 0 := fun e => by rw [e] at hw; exact absurd hw (by decide)
    refine ⟨-1, w, ?_, ?_⟩
    · rw [h1]; simp only [Option.bind_some, if_neg hw0]; rfl
    · rw [h2]; simp only [Option.bind_some, if_neg (Int32.not_le.mpr hw)]
  · refine ⟨f (60 * t + j), 0, ?_, ?_⟩
    · rw [h1]
      unfold X9_get
      simp only [Option.bind_some, if_pos (show (0 : Int32) = 0 from rfl), hasPlace_e ht hn hj hs, if_neg (show ¬ (1 : Int32) = 0 by decide), at60, ix_nI (show 60 * t + j < 240 by omega) (by omega), if_true, jat_nI f (show 60 * t + j < 2 ^ 31 by omega)]
    · rw [h2]
      simp only [Option.bind_some, if_pos (show (0 : Int32) ≤ 0 by decide), at60', ix_nI (show 60 * t + j < 240 by omega) (by omega), if_true, jat_nI f (show 60 * t + j < 2 ^ 31 by omega)]
