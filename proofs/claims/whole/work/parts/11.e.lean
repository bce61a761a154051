/-! ===== pour ===== -/
theorem sub_lt_nI {n a m : Nat} (hn : n ≤ 60) (ha : a < 2 ^ 31) (hm : m < 2 ^ 31) : (nI n - nI a < nI m) ↔ n < a + m := by
  rw [Int32.lt_iff_toInt_lt, fb_subI (by rw [nI_toInt (by omega), nI_toInt ha]; omega) (by rw [nI_toInt (by omega), nI_toInt ha]; omega), nI_toInt (by omega), nI_toInt ha, nI_toInt hm]; omega
theorem range_nI {sz : Nat → Int32} {t n a m : Nat} (ht : t < 4) (hn : n ≤ 60) (hs : sz t = nI n) (ha : a < 2 ^ 31) (hm : m < 2 ^ 31) : X9_hasRange sz (nI t) (nI a) (nI m) = some (bI (a + m ≤ n)) := by
  rw [hasRange_e ht, hs]
  congr 1
  exact bI_congr (by rw [nI_toInt ha, nI_toInt hm, nI_toInt (by omega)]; omega)
theorem sortOf_e {so : Nat → Int32} {t : Nat} (ht : t < 4) : X9_sortOf so (nI t) = some (so t) := by
  unfold X9_sortOf
  rw [isTrayX_e, bI_t (show 0 ≤ nI t ∧ nI t < 4 from ixOf (n := 4) ht (by omega))]
  simp only [Option.bind_some, if_neg (show ¬ (1 : Int32) = 0 by decide), ix_nI ht (show 4 < 2 ^ 31 by omega), if_true, jat_nI so (show t < 2 ^ 31 by omega)]
theorem putN_dL (f g : Nat → Int64) (a n i : Nat) (h : i < n) : vp_updL (putN f (fun k => g (k + (n - i))) (a + (n - i)) i) (a + (n - 1 - i)) (g (n - 1 - i)) = putN f (fun k => g (k + (n - (i + 1)))) (a + (n - (i + 1))) (i + 1) := by
  funext k; unfold vp_updL putN
  by_cases h1 : k = a + (n - 1 - i)
  · rw [if_pos h1, if_pos (by omega)]; congr 1; omega
  · rw [if_neg h1]
    by_cases h2 : a + (n - i) ≤ k ∧ k < a + (n - i) + i
    · rw [if_pos h2, if_pos (by omega)]; dsimp only; congr 1; omega
    · rw [if_neg h2, if_neg (by omega)]
theorem pour_it {F : Nat} {s : Int32} {so sz : Nat → Int32} {f : Nat → Int64} {t u a b m : Nat} (ht : t < 4) (hu : u < 4) (ha : a + m ≤ 60) (hb : b + m ≤ 60) (hF : 61 < F) :
    iter (X12_pour_b118 F s so sz (nI t) (nI a) (nI u) (nI b) (nI m)) F (0, f) = some (putN f (fun k => f (60 * t + a + k)) (60 * u + b) m) := by
  by_cases hab : b ≤ a
  · have := iter_count (b := X12_pour_b118 F s so sz (nI t) (nI a) (nI u) (nI b) (nI m)) (fun i => (nI i, putN f (fun k => f (60 * t + a + k)) (60 * u + b) i)) m (e := putN f (fun k => f (60 * t + a + k)) (60 * u + b) m) ?_ ?_ F (by omega)
    · rw [← this, putN_0]; rfl
    · intro i hi
      unfold X12_pour_b118 X12_pour_j143
      have e1 : 60 * nI t + nI a + nI i = nI (60 * t + a + i) := by rw [at60', nI_add]
      have e2 : 60 * nI u + nI b + nI i = nI (60 * u + b + i) := by rw [at60', nI_add]
      simp only [if_neg (nI_ge hi (by omega)), if_pos (nI_le hab (by omega)), e1, e2, ix_nI (show 60 * t + a + i < 240 by omega) (by omega), ix_nI (show 60 * u + b + i < 240 by omega) (by omega), if_true, jputL_nI _ _ (show 60 * u + b + i < 2 ^ 31 by omega), jat_nI _ (show 60 * t + a + i < 2 ^ 31 by omega), nI_1]
      have e3 : putN f (fun k => f (60 * t + a + k)) (60 * u + b) i (60 * t + a + i) = f (60 * t + a + i) := by
        unfold putN; rw [if_neg (by omega)]
      rw [e3, ← putN_sL]
    · unfold X12_pour_b118
      simp only [if_pos (nI_le (Nat.le_refl m) (by omega))]
  · have := iter_count (b := X12_pour_b118 F s so sz (nI t) (nI a) (nI u) (nI b) (nI m)) (fun i => (nI i, putN f (fun k => f (60 * t + a + (k + (m - i)))) (60 * u + b + (m - i)) i)) m (e := putN f (fun k => f (60 * t + a + k)) (60 * u + b) m) ?_ ?_ F (by omega)
    · rw [← this, putN_0]; rfl
    · intro i hi
      unfold X12_pour_b118 X12_pour_j143
      have e0 : nI m - 1 - nI i = nI (m - 1 - i) := by
        rw [show (1 : Int32) = nI 1 from rfl, pk_sub (by omega), pk_sub (by omega)]
      have e1 : 60 * nI t + nI a + nI (m - 1 - i) = nI (60 * t + a + (m - 1 - i)) := by rw [at60', nI_add]
      have e2 : 60 * nI u + nI b + nI (m - 1 - i) = nI (60 * u + b + (m - 1 - i)) := by rw [at60', nI_add]
      simp only [if_neg (nI_ge hi (by omega)), if_neg (nI_ge (show a < b by omega) (by omega)), e0, e1, e2, ix_nI (show 60 * t + a + (m - 1 - i) < 240 by omega) (by omega), ix_nI (show 60 * u + b + (m - 1 - i) < 240 by omega) (by omega), if_true, jputL_nI _ _ (show 60 * u + b + (m - 1 - i) < 2 ^ 31 by omega), jat_nI _ (show 60 * t + a + (m - 1 - i) < 2 ^ 31 by omega), nI_1]
      have e3 : putN f (fun k => f (60 * t + a + (k + (m - i)))) (60 * u + b + (m - i)) i (60 * t + a + (m - 1 - i)) = f (60 * t + a + (m - 1 - i)) := by
        unfold putN; rw [if_neg (by omega)]
      rw [e3, putN_dL f (fun k => f (60 * t + a + k)) (60 * u + b) m i hi]
    · unfold X12_pour_b118
      simp only [if_pos (nI_le (Nat.le_refl m) (by omega)), Nat.sub_self, Nat.add_zero]
theorem cpy_putN (f : Nat → Int64) (sp dp n : Nat) : va_cpy f f sp dp n = putN f (fun k => f (sp + k)) dp n := rfl
theorem pour_e {F : Nat} {s s' : Int32} {f : Nat → Int64} {so sz : Nat → Int32} (v1 v2 v3 v4 v5 : Int32) (hF : 61 < F) (hk : TrOk sz so) :
    ∃ r w f2, X11_pour s f so sz v1 v2 v3 v4 v5 = some (r, w, f2) ∧ X12_pour F s' so sz f v1 v2 v3 v4 v5 = some (r, w, f2) := by
  unfold X11_pour X12_pour X11_pour_j36 X12_pour_j28 X11_pour_j64 X12_pour_j54 X11_pour_j125 X12_pour_j109
  rw [isTrayX_e, isTrayX_e, isTrayM_e, isTrayM_e]
  simp only [Option.bind_some]
  by_cases h1 : 0 ≤ v1 ∧ v1 < 4
  case neg => rw [bI_f h1]; exact ⟨_, _, _, rfl, rfl⟩
  rw [bI_t h1]
  by_cases h3 : 0 ≤ v3 ∧ v3 < 4
  case neg => rw [bI_f h3]; exact ⟨_, _, _, rfl, rfl⟩
  rw [bI_t h3]
  simp only [if_neg (show ¬ (1 : Int32) = 0 by decide)]
  by_cases h2 : v2 < 0
  · simp only [if_pos h2]; exact ⟨_, _, _, rfl, rfl⟩
  by_cases h4 : v4 < 0
  · simp only [if_neg h2, if_pos h4]; exact ⟨_, _, _, rfl, rfl⟩
  by_cases h5 : 0 ≤ v5
  case neg => simp only [if_neg h2, if_neg h4, if_neg h5]; exact ⟨_, _, _, rfl, rfl⟩
  simp only [if_neg h2, if_neg h4, if_pos h5]
  obtain ⟨t, ht, rfl⟩ := asIx (n := 4) (by omega) h1
  obtain ⟨u, hu, rfl⟩ := asIx (n := 4) (by omega) h3
  obtain ⟨a, ha, rfl⟩ := nI_of h2
  obtain ⟨b, hb, rfl⟩ := nI_of h4
  obtain ⟨m, hm, rfl⟩ := nI_of (Int32.not_lt.mpr h5)
  simp only [isMissing_e ht, isMissing_e hu, sortOf_e ht, sortOf_e hu, Option.bind_some, ix_nI ht (show 4 < 2 ^ 31 by omega), ix_nI hu (show 4 < 2 ^ 31 by omega), if_true, jat_nI _ (show t < 2 ^ 31 by omega), jat_nI _ (show u < 2 ^ 31 by omega)]
  rcases (hk t ht).1 with q1 | ⟨n1, hn1, q1⟩
  · rw [bI_t q1, if_neg (show ¬ (1 : Int32) = 0 by decide), if_pos q1]; exact ⟨_, _, _, rfl, rfl⟩
  rcases (hk u hu).1 with q2 | ⟨n2, hn2, q2⟩
  · rw [bI_t q2, bI_f (show ¬ sz t = -1 by rw [q1]; exact nI_ne_m1 (by omega)), if_pos rfl, if_neg (show ¬ (1 : Int32) = 0 by decide), if_neg (show ¬ sz t = -1 by rw [q1]; exact nI_ne_m1 (by omega)), if_pos q2]; exact ⟨_, _, _, rfl, rfl⟩
  rw [bI_f (show ¬ sz t = -1 by rw [q1]; exact nI_ne_m1 (by omega)), bI_f (show ¬ sz u = -1 by rw [q2]; exact nI_ne_m1 (by omega))]
  simp only [if_pos (show (0 : Int32) = 0 from rfl), if_neg (show ¬ sz t = -1 by rw [q1]; exact nI_ne_m1 (by omega)), if_neg (show ¬ sz u = -1 by rw [q2]; exact nI_ne_m1 (by omega))]
  by_cases h6 : so t = so u
  case neg => simp only [if_neg h6]; exact ⟨_, _, _, rfl, rfl⟩
  simp only [if_pos h6, range_nI ht hn1 q1 ha hm, range_nI hu hn2 q2 hb hm, Option.bind_some, q1, q2]
  by_cases h7 : a + m ≤ n1
  case neg =>
    rw [bI_f h7, if_pos rfl, if_pos ((sub_lt_nI hn1 ha hm).mpr (by omega))]; exact ⟨_, _, _, rfl, rfl⟩
  rw [bI_t h7, if_neg (show ¬ (1 : Int32) = 0 by decide), if_neg (fun z => absurd ((sub_lt_nI hn1 ha hm).mp z) (by omega))]
  by_cases h8 : b + m ≤ n2
  case neg =>
    rw [bI_f h8, if_pos rfl, if_neg (Int32.not_le.mpr ((sub_lt_nI hn2 hb hm).mpr (by omega)))]; exact ⟨_, _, _, rfl, rfl⟩
  rw [bI_t h8, if_neg (show ¬ (1 : Int32) = 0 by decide), if_pos (Int32.not_lt.mp fun z => absurd ((sub_lt_nI hn2 hb hm).mp z) (by omega))]
  refine ⟨1, 0, putN f (fun k => f (60 * t + a + k)) (60 * u + b) m, ?_, ?_⟩
  · unfold X9_move
    have hok : cpok (nI (60 * t + a)) (nI (60 * u + b)) (nI m) 240 240 = true := by
      simp only [cpok, Bool.and_eq_true, decide_eq_true_eq]
      rw [nI_clamp (by omega), nI_clamp (by omega), nI_clamp (by omega)]
      exact ⟨nI_pos (by omega), nI_pos (by omega), nI_pos (by omega), by omega, by omega⟩
    simp only [if_neg h2, if_neg h4, if_neg (Int32.not_lt.mpr h5), range_nI ht hn1 q1 ha hm, range_nI hu hn2 q2 hb hm, Option.bind_some, bI_t h7, bI_t h8, if_neg (show ¬ (1 : Int32) = 0 by decide), at60, hok, if_true, jcpyL, nI_clamp (show 60 * t + a < 2 ^ 31 by omega), nI_clamp (show 60 * u + b < 2 ^ 31 by omega), nI_clamp hm, cpy_putN]
    rfl
  · rw [pour_it ht hu (by omega) (by omega) hF]; rfl
