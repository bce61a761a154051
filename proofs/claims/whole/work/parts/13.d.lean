/-! ===== PURE 13.d: roads, how far ===== -/
def rdj (C : Cy) (a b r : Nat) : Bool := decide ((C 1 r 0 = a ∧ C 1 r 1 = b) ∨ (C 1 r 0 = b ∧ C 1 r 1 = a))
def rd (C : Cy) (a b : Nat) : Nat → Nat
  | 0 => 1000000
  | n + 1 => if rdj C a b n then min (rd C a b n) (C 1 n 2) else rd C a b n
/-- what the road takes, 1000000 if there is none -/
def tk (C : Cy) (a b : Nat) : Nat := rd C a b (C 0 0 1)
theorem rd_le (C : Cy) (a b : Nat) : ∀ n, rd C a b n ≤ 1000000
  | 0 => Nat.le_refl _
  | n + 1 => by
    have := rd_le C a b n
    rw [rd]
    by_cases h : rdj C a b n = true
    · rw [if_pos h]; omega
    · rw [if_neg h]; exact this
theorem rd_sym (C : Cy) (a b : Nat) : ∀ n, rd C a b n = rd C b a n
  | 0 => rfl
  | n + 1 => by
    have e : rdj C a b n = rdj C b a n := by
      unfold rdj; rw [decide_eq_decide]; exact ⟨fun q => q.symm, fun q => q.symm⟩
    rw [rd, rd, rd_sym C a b n, e]
theorem tk_sym (C : Cy) (a b : Nat) : tk C a b = tk C b a := rd_sym C a b _
theorem rd_val {C : Cy} (ok : Ok C) (a b : Nat) : ∀ n, n ≤ C 0 0 1 → rd C a b n = 1000000 ∨ (1 ≤ rd C a b n ∧ rd C a b n ≤ 9 ∧ a ≠ b ∧ a < C 0 0 0 ∧ b < C 0 0 0)
  | 0, _ => Or.inl rfl
  | n + 1, hn => by
    have ih := rd_val ok a b n (by omega)
    have e := ok.2.1 n (by omega)
    rw [rd]
    by_cases h : rdj C a b n = true
    · rw [if_pos h]
      have h2 := of_decide_eq_true h
      have : a ≠ b ∧ a < C 0 0 0 ∧ b < C 0 0 0 := by
        rcases h2 with h2 | h2 <;> exact ⟨by omega, by omega, by omega⟩
      omega
    · rw [if_neg h]; exact ih
theorem tk_val {C : Cy} (ok : Ok C) (a b : Nat) : tk C a b = 1000000 ∨ (1 ≤ tk C a b ∧ tk C a b ≤ 9 ∧ a ≠ b ∧ a < C 0 0 0 ∧ b < C 0 0 0) := rd_val ok a b _ (Nat.le_refl _)
def tk0 (C : Cy) (a b : Nat) : Nat := if tk C a b = 1000000 then 0 else tk C a b
theorem tk0_le {C : Cy} (ok : Ok C) (a b : Nat) : tk0 C a b ≤ 9 := by
  unfold tk0
  rcases tk_val ok a b with h | h
  · rw [if_pos h]; omega
  · rw [if_neg (by omega)]; omega
theorem m_roadOf {F : Nat} {C : Cy} {g : Nat → Int32} {a b : Nat} (ok : Ok C) (hM : MS C g) (ha : a < 100) (hb : b < 100) (hF : 100 < F) : X12_roadOf F g (nI a) (nI b) = some (nI (tk C a b)) := by
  have ok' := ok
  obtain ⟨o0, oR, oE, oH, oW⟩ := ok
  unfold X12_roadOf
  rw [show ((1000000 : Int32), (0 : Int32)) = (nI (rd C a b 0), nI 0) from rfl]
  rw [iter_count (b := X12_roadOf_b7 F g (nI a) (nI b)) (fun i => (nI (rd C a b i), nI i)) (C 0 0 1) (e := nI (rd C a b (C 0 0 1))) ?_ ?_ F (by omega)]; rfl
  · intro i hi
    have e1 := oR i hi
    have e2 := rd_le C a b i
    unfold X12_roadOf_b7 X12_roadOf_j56 X12_roadOf_j68 X12_roadOf_j85 X12_roadRow
    by_cases h : rdj C a b i = true
    · have e3 : rd C a b (i + 1) = min (rd C a b i) (C 1 i 2) := by rw [rd, if_pos h]
      rw [e3]
      rcases of_decide_eq_true h with ⟨h1, h2⟩ | ⟨h1, h2⟩
      · simp (disch := omega) only [l_0, l_1, l_2, l_3, l_4, l_5, l_6, l_7, l_8, l_9, l_10, l_11, l_12, l_13, l_14, l_15, l_16, l_17, l_18, l_19, l_20, l_21, l_22, l_23, l_24, l_25, l_26, l_27, l_30, l_31, l_32, l_40, l_48, l_57, l_59, l_60, l_61, l_62, l_64, l_83, l_90, l_97, l_99, l_100, l_108, l_115, l_122, l_123, l_127, l_128, l_131, l_135, l_200, l_255, l_256, l_300, l_487, l_495, l_900, l_999, l_1000, l_1700, l_1792, l_1980, l_2048, l_2475, l_2970, l_3121, l_9999, l_10000, l_11351, l_65536, l_100000, l_1000000, ↓l_m1, l_neg, nI_add, pk_mul, pk_sub, q_leT, q_leF, q_ltT, q_ltF, q_eqT, q_eqF, q_m1e, q_m1e2, q_m1lt, q_m1le, q_m1nl, q_m1nle, q_m1s, q_ix, q_jat, q_jput, q_min1, q_min2, q_max1, q_max2, q_or0, q_0or, Option.bind_some, if_true, if_false, true_and, and_true, false_and, and_false, not_true_eq_false, not_false_eq_true, eq_self, Bool.false_eq_true, q_z0, q_z1, m_0 hM, m_E hM, m_Es hM, m_Er hM, m_H hM, m_W hM, m_R0 hM, m_R1 hM, m_R2 hM, q_min]
      · by_cases h3 : C 1 i 0 = a
        · exfalso; omega
        · simp (disch := omega) only [l_0, l_1, l_2, l_3, l_4, l_5, l_6, l_7, l_8, l_9, l_10, l_11, l_12, l_13, l_14, l_15, l_16, l_17, l_18, l_19, l_20, l_21, l_22, l_23, l_24, l_25, l_26, l_27, l_30, l_31, l_32, l_40, l_48, l_57, l_59, l_60, l_61, l_62, l_64, l_83, l_90, l_97, l_99, l_100, l_108, l_115, l_122, l_123, l_127, l_128, l_131, l_135, l_200, l_255, l_256, l_300, l_487, l_495, l_900, l_999, l_1000, l_1700, l_1792, l_1980, l_2048, l_2475, l_2970, l_3121, l_9999, l_10000, l_11351, l_65536, l_100000, l_1000000, ↓l_m1, l_neg, nI_add, pk_mul, pk_sub, q_leT, q_leF, q_ltT, q_ltF, q_eqT, q_eqF, q_m1e, q_m1e2, q_m1lt, q_m1le, q_m1nl, q_m1nle, q_m1s, q_ix, q_jat, q_jput, q_min1, q_min2, q_max1, q_max2, q_or0, q_0or, Option.bind_some, if_true, if_false, true_and, and_true, false_and, and_false, not_true_eq_false, not_false_eq_true, eq_self, Bool.false_eq_true, q_z0, q_z1, m_0 hM, m_E hM, m_Es hM, m_Er hM, m_H hM, m_W hM, m_R0 hM, m_R1 hM, m_R2 hM, q_min]
    · have e3 : rd C a b (i + 1) = rd C a b i := by rw [rd, if_neg h]
      rw [e3]
      have h5 : ¬ ((C 1 i 0 = a ∧ C 1 i 1 = b) ∨ (C 1 i 0 = b ∧ C 1 i 1 = a)) := fun q => h (decide_eq_true q)
      by_cases h1 : C 1 i 0 = a
      · have h2 : C 1 i 1 ≠ b := fun e => h5 (Or.inl ⟨h1, e⟩)
        by_cases h3 : C 1 i 0 = b
        · have h4 : C 1 i 1 ≠ a := fun e => h5 (Or.inr ⟨h3, e⟩)
          simp (disch := omega) only [l_0, l_1, l_2, l_3, l_4, l_5, l_6, l_7, l_8, l_9, l_10, l_11, l_12, l_13, l_14, l_15, l_16, l_17, l_18, l_19, l_20, l_21, l_22, l_23, l_24, l_25, l_26, l_27, l_30, l_31, l_32, l_40, l_48, l_57, l_59, l_60, l_61, l_62, l_64, l_83, l_90, l_97, l_99, l_100, l_108, l_115, l_122, l_123, l_127, l_128, l_131, l_135, l_200, l_255, l_256, l_300, l_487, l_495, l_900, l_999, l_1000, l_1700, l_1792, l_1980, l_2048, l_2475, l_2970, l_3121, l_9999, l_10000, l_11351, l_65536, l_100000, l_1000000, ↓l_m1, l_neg, nI_add, pk_mul, pk_sub, q_leT, q_leF, q_ltT, q_ltF, q_eqT, q_eqF, q_m1e, q_m1e2, q_m1lt, q_m1le, q_m1nl, q_m1nle, q_m1s, q_ix, q_jat, q_jput, q_min1, q_min2, q_max1, q_max2, q_or0, q_0or, Option.bind_some, if_true, if_false, true_and, and_true, false_and, and_false, not_true_eq_false, not_false_eq_true, eq_self, Bool.false_eq_true, q_z0, q_z1, m_0 hM, m_E hM, m_Es hM, m_Er hM, m_H hM, m_W hM, m_R0 hM, m_R1 hM, m_R2 hM]
        · simp (disch := omega) only [l_0, l_1, l_2, l_3, l_4, l_5, l_6, l_7, l_8, l_9, l_10, l_11, l_12, l_13, l_14, l_15, l_16, l_17, l_18, l_19, l_20, l_21, l_22, l_23, l_24, l_25, l_26, l_27, l_30, l_31, l_32, l_40, l_48, l_57, l_59, l_60, l_61, l_62, l_64, l_83, l_90, l_97, l_99, l_100, l_108, l_115, l_122, l_123, l_127, l_128, l_131, l_135, l_200, l_255, l_256, l_300, l_487, l_495, l_900, l_999, l_1000, l_1700, l_1792, l_1980, l_2048, l_2475, l_2970, l_3121, l_9999, l_10000, l_11351, l_65536, l_100000, l_1000000, ↓l_m1, l_neg, nI_add, pk_mul, pk_sub, q_leT, q_leF, q_ltT, q_ltF, q_eqT, q_eqF, q_m1e, q_m1e2, q_m1lt, q_m1le, q_m1nl, q_m1nle, q_m1s, q_ix, q_jat, q_jput, q_min1, q_min2, q_max1, q_max2, q_or0, q_0or, Option.bind_some, if_true, if_false, true_and, and_true, false_and, and_false, not_true_eq_false, not_false_eq_true, eq_self, Bool.false_eq_true, q_z0, q_z1, m_0 hM, m_E hM, m_Es hM, m_Er hM, m_H hM, m_W hM, m_R0 hM, m_R1 hM, m_R2 hM]
      · by_cases h3 : C 1 i 0 = b
        · have h4 : C 1 i 1 ≠ a := fun e => h5 (Or.inr ⟨h3, e⟩)
          simp (disch := omega) only [l_0, l_1, l_2, l_3, l_4, l_5, l_6, l_7, l_8, l_9, l_10, l_11, l_12, l_13, l_14, l_15, l_16, l_17, l_18, l_19, l_20, l_21, l_22, l_23, l_24, l_25, l_26, l_27, l_30, l_31, l_32, l_40, l_48, l_57, l_59, l_60, l_61, l_62, l_64, l_83, l_90, l_97, l_99, l_100, l_108, l_115, l_122, l_123, l_127, l_128, l_131, l_135, l_200, l_255, l_256, l_300, l_487, l_495, l_900, l_999, l_1000, l_1700, l_1792, l_1980, l_2048, l_2475, l_2970, l_3121, l_9999, l_10000, l_11351, l_65536, l_100000, l_1000000, ↓l_m1, l_neg, nI_add, pk_mul, pk_sub, q_leT, q_leF, q_ltT, q_ltF, q_eqT, q_eqF, q_m1e, q_m1e2, q_m1lt, q_m1le, q_m1nl, q_m1nle, q_m1s, q_ix, q_jat, q_jput, q_min1, q_min2, q_max1, q_max2, q_or0, q_0or, Option.bind_some, if_true, if_false, true_and, and_true, false_and, and_false, not_true_eq_false, not_false_eq_true, eq_self, Bool.false_eq_true, q_z0, q_z1, m_0 hM, m_E hM, m_Es hM, m_Er hM, m_H hM, m_W hM, m_R0 hM, m_R1 hM, m_R2 hM]
        · simp (disch := omega) only [l_0, l_1, l_2, l_3, l_4, l_5, l_6, l_7, l_8, l_9, l_10, l_11, l_12, l_13, l_14, l_15, l_16, l_17, l_18, l_19, l_20, l_21, l_22, l_23, l_24, l_25, l_26, l_27, l_30, l_31, l_32, l_40, l_48, l_57, l_59, l_60, l_61, l_62, l_64, l_83, l_90, l_97, l_99, l_100, l_108, l_115, l_122, l_123, l_127, l_128, l_131, l_135, l_200, l_255, l_256, l_300, l_487, l_495, l_900, l_999, l_1000, l_1700, l_1792, l_1980, l_2048, l_2475, l_2970, l_3121, l_9999, l_10000, l_11351, l_65536, l_100000, l_1000000, ↓l_m1, l_neg, nI_add, pk_mul, pk_sub, q_leT, q_leF, q_ltT, q_ltF, q_eqT, q_eqF, q_m1e, q_m1e2, q_m1lt, q_m1le, q_m1nl, q_m1nle, q_m1s, q_ix, q_jat, q_jput, q_min1, q_min2, q_max1, q_max2, q_or0, q_0or, Option.bind_some, if_true, if_false, true_and, and_true, false_and, and_false, not_true_eq_false, not_false_eq_true, eq_self, Bool.false_eq_true, q_z0, q_z1, m_0 hM, m_E hM, m_Es hM, m_Er hM, m_H hM, m_W hM, m_R0 hM, m_R1 hM, m_R2 hM]
  · unfold X12_roadOf_b7
    simp (disch := omega) only [l_0, l_1, l_2, l_3, l_4, l_5, l_6, l_7, l_8, l_9, l_10, l_11, l_12, l_13, l_14, l_15, l_16, l_17, l_18, l_19, l_20, l_21, l_22, l_23, l_24, l_25, l_26, l_27, l_30, l_31, l_32, l_40, l_48, l_57, l_59, l_60, l_61, l_62, l_64, l_83, l_90, l_97, l_99, l_100, l_108, l_115, l_122, l_123, l_127, l_128, l_131, l_135, l_200, l_255, l_256, l_300, l_487, l_495, l_900, l_999, l_1000, l_1700, l_1792, l_1980, l_2048, l_2475, l_2970, l_3121, l_9999, l_10000, l_11351, l_65536, l_100000, l_1000000, ↓l_m1, l_neg, nI_add, pk_mul, pk_sub, q_leT, q_leF, q_ltT, q_ltF, q_eqT, q_eqF, q_m1e, q_m1e2, q_m1lt, q_m1le, q_m1nl, q_m1nle, q_m1s, q_ix, q_jat, q_jput, q_min1, q_min2, q_max1, q_max2, q_or0, q_0or, Option.bind_some, if_true, if_false, true_and, and_true, false_and, and_false, not_true_eq_false, not_false_eq_true, eq_self, Bool.false_eq_true, q_z0, q_z1, m_0 hM, m_E hM, m_Es hM, m_Er hM, m_H hM, m_W hM, m_R0 hM, m_R1 hM, m_R2 hM]
/-! shortest ways -/
def fws (d : Nat → Nat → Nat) (c : Nat) : Nat → Nat → Nat := fun a b => min (d a b) (d a c + d c b)
def fwn (d : Nat → Nat → Nat) : Nat → Nat → Nat → Nat
  | 0 => d
  | n + 1 => fws (fwn d n) n
def dz (C : Cy) (a b : Nat) : Nat := if a = b then 0 else tk C a b
/-- how far, 1000000 if there is no way -/
def far (C : Cy) : Nat → Nat → Nat := fwn (dz C) 8
theorem fwn_0 {d : Nat → Nat → Nat} (h : ∀ a, d a a = 0) : ∀ n a, fwn d n a a = 0
  | 0, a => h a
  | n + 1, a => by
    have := fwn_0 h n a
    rw [fwn, fws, this]; omega
theorem fwn_mono (d : Nat → Nat → Nat) (a b : Nat) : ∀ n m, n ≤ m → fwn d m a b ≤ fwn d n a b := by
  intro n m h
  induction m with
  | zero => rw [show n = 0 by omega]; exact Nat.le_refl _
  | succ m ih =>
    by_cases e : n = m + 1
    · rw [e]; exact Nat.le_refl _
    · have := ih (by omega)
      rw [fwn, fws]; omega
theorem fwn_tri {d : Nat → Nat → Nat} (h : ∀ a, d a a = 0) : ∀ n c, c < n → ∀ a b, fwn d n a b ≤ fwn d n a c + fwn d n c b
  | 0, c, hc => by omega
  | n + 1, c, hc => by
    intro a b
    have z := fwn_0 h n
    by_cases e : c = n
    · subst e
      have z1 := z c
      simp only [fwn, fws]; omega
    · have ih := fwn_tri h n c (by omega)
      have i1 := ih a b; have i2 := ih n b; have i3 := ih a n; have i4 := ih n n
      have z1 := z n
      simp only [fwn, fws]; omega
theorem fwn_min {d e : Nat → Nat → Nat} {K : Nat} (h : ∀ a b, e a b = min K (d a b)) : ∀ n a b, fwn e n a b = min K (fwn d n a b)
  | 0, a, b => h a b
  | n + 1, a, b => by
    have i1 := fwn_min h n a b; have i2 := fwn_min h n a n; have i3 := fwn_min h n n b
    simp only [fwn, fws]; omega
theorem dz_0 (C : Cy) (a : Nat) : dz C a a = 0 := by unfold dz; rw [if_pos rfl]
theorem far_0 (C : Cy) (a : Nat) : far C a a = 0 := by unfold far; exact fwn_0 (dz_0 C) 8 a
theorem far_tri (C : Cy) {c : Nat} (hc : c < 8) (a b : Nat) : far C a b ≤ far C a c + far C c b := by unfold far; exact fwn_tri (dz_0 C) 8 c hc a b
theorem dz_le (C : Cy) (a b : Nat) : dz C a b ≤ 1000000 := by
  unfold dz
  by_cases h : a = b
  · rw [if_pos h]; omega
  · rw [if_neg h]; exact rd_le C a b _
theorem far_dz (C : Cy) (a b : Nat) : far C a b ≤ dz C a b := by unfold far; exact fwn_mono (dz C) a b 0 8 (by omega)
theorem far_le (C : Cy) (a b : Nat) : far C a b ≤ 1000000 := Nat.le_trans (far_dz C a b) (dz_le C a b)
theorem far_tk (C : Cy) (a b : Nat) : far C a b ≤ tk C a b := by
  have h1 := far_dz C a b
  unfold dz at h1
  by_cases e : a = b
  · rw [if_pos e] at h1; omega
  · rwa [if_neg e] at h1
/-- the first step of a way -/
theorem fwn_step {C : Cy} (ok : Ok C) {b : Nat} (hb : b < 8) : ∀ n, n ≤ 8 → ∀ a c, a < 8 → c < 8 → a ≠ c → fwn (dz C) n a c < 1000000 → ∃ k, k < 8 ∧ tk C a k < 1000000 ∧ tk C a k + far C k c ≤ fwn (dz C) n a c
  | 0, _ => by
    intro a c ha hc hac h
    have e : fwn (dz C) 0 a c = tk C a c := by show dz C a c = _; unfold dz; rw [if_neg hac]
    rw [e] at h ⊢
    exact ⟨c, hc, h, by rw [far_0]; omega⟩
  | n + 1, hn => by
    intro a c ha hc hac h
    have ih := fwn_step ok hb n (by omega)
    by_cases e : fwn (dz C) n a c ≤ fwn (dz C) n a n + fwn (dz C) n n c
    · have e2 : fwn (dz C) (n + 1) a c = fwn (dz C) n a c := by simp only [fwn, fws]; omega
      rw [e2] at h ⊢
      exact ih a c ha hc hac h
    · have e2 : fwn (dz C) (n + 1) a c = fwn (dz C) n a n + fwn (dz C) n n c := by simp only [fwn, fws]; omega
      rw [e2] at h ⊢
      by_cases e3 : a = n
      · subst e3
        exfalso
        have := fwn_0 (dz_0 C) a a
        omega
      · obtain ⟨k, hk, h1, h2⟩ := ih a n ha (by omega) e3 (by omega)
        have t := far_tri C (show n < 8 by omega) k c
        have m : far C n c ≤ fwn (dz C) n n c := by unfold far; exact fwn_mono (dz C) n c n 8 (by omega)
        exact ⟨k, hk, h1, by omega⟩
theorem far_step {C : Cy} (ok : Ok C) {a b : Nat} (ha : a < 8) (hb : b < 8) (hab : a ≠ b) (h : far C a b < 1000000) : ∃ k, k < 8 ∧ tk C a k < 1000000 ∧ tk C a k + far C k b ≤ far C a b := by
  unfold far at h ⊢
  obtain ⟨k, h1, h2, h3⟩ := fwn_step ok hb 8 (Nat.le_refl _) a b ha hb hab h
  exact ⟨k, h1, h2, h3⟩
theorem far_cnt {C : Cy} (ok : Ok C) {b : Nat} (hb : b < 8) : ∀ v a, a < 8 → far C a b = v → v < 1000000 → v ≤ 9 * fb_ct (fun k => decide (far C k b < v)) 8 := by
  intro v
  induction v using Nat.strongRecOn with
  | ind v ih =>
    intro a ha hv h
    by_cases hab : a = b
    · subst hab; rw [far_0] at hv; omega
    obtain ⟨k, hk, h1, h2⟩ := far_step ok ha hb hab (by omega)
    have t1 := tk_val ok a k
    have i := ih (far C k b) (by omega) k hk rfl (by omega)
    have t := far_tri C hk a b
    have t2 := far_tk C a k
    have c1 : fb_ct (fun j => decide (far C j b < far C k b)) 8 + 1 ≤ fb_ct (fun j => decide (far C j b < v)) 8 := by
      have c2 := fb_ct_upd (fun j => decide (far C j b < far C k b)) true hk
      have c3 : fb_ct (fun j => if j = k then true else decide (far C j b < far C k b)) 8 ≤ fb_ct (fun j => decide (far C j b < v)) 8 := by
        refine fb_ct_sub (fun j _ hj => ?_)
        refine decide_eq_true ?_
        by_cases e : j = k
        · rw [e]; omega
        · rw [if_neg e] at hj
          have := of_decide_eq_true hj
          omega
      rw [decide_eq_false (show ¬ far C k b < far C k b by omega)] at c2
      simp only [if_true, Bool.false_eq_true, if_false] at c2
      omega
    omega
/-- a way is short -/
theorem far_small {C : Cy} (ok : Ok C) {a b : Nat} (ha : a < 8) (hb : b < 8) (h : far C a b < 1000000) : far C a b ≤ 72 := by
  have h1 := far_cnt ok hb _ a ha rfl h
  have h2 := fb_ct_le (fun k => decide (far C k b < far C a b)) 8
  omega
/-- the model's rows of ways -/
def FB (C : Cy) (f : Nat → Int32) : Prop := ∀ a b, a < 8 → b < 8 → f (8 * a + b) = nI (far C a b)
def FD (d : Nat → Nat → Nat) (f : Nat → Int32) : Prop := ∀ a b, a < 8 → b < 8 → f (8 * a + b) = nI (d a b)
def lay2 (d e : Nat → Nat → Nat) (a i : Nat) : Nat → Nat → Nat := fun a' b' => if a' < a ∨ (a' = a ∧ b' < i) then e a' b' else d a' b'
theorem FD_put {d e : Nat → Nat → Nat} {f : Nat → Int32} {a i v : Nat} (h : FD (lay2 d e a i) f) (ha : a < 8) (hi : i < 8) (hv : v = e a i) : FD (lay2 d e a (i + 1)) (upd f (8 * a + i) (nI v)) := by
  intro a' b' ha' hb'
  by_cases q : a' = a ∧ b' = i
  · obtain ⟨rfl, rfl⟩ := q
    rw [pk_us, hv]; unfold lay2; rw [if_pos (Or.inr ⟨rfl, by omega⟩)]
  · rw [pk_un (by omega), h a' b' ha' hb']
    unfold lay2
    by_cases q2 : a' < a ∨ (a' = a ∧ b' < i)
    · rw [if_pos q2, if_pos (by omega)]
    · rw [if_neg q2, if_neg (by omega)]
theorem FD_next {d e : Nat → Nat → Nat} {f : Nat → Int32} {a : Nat} (h : FD (lay2 d e a 8) f) : FD (lay2 d e (a + 1) 0) f := by
  intro a' b' ha' hb'
  rw [h a' b' ha' hb']
  unfold lay2
  by_cases q2 : a' < a ∨ (a' = a ∧ b' < 8)
  · rw [if_pos q2, if_pos (by omega)]
  · rw [if_neg q2, if_neg (by omega)]
theorem FD_all {d e : Nat → Nat → Nat} {f : Nat → Int32} (h : FD (lay2 d e 8 0) f) : FD e f := by
  intro a' b' ha' hb'
  rw [h a' b' ha' hb']
  unfold lay2
  rw [if_pos (by omega)]
theorem FD_none {d e : Nat → Nat → Nat} {f : Nat → Int32} (h : FD d f) : FD (lay2 d e 0 0) f := by
  intro a' b' ha' hb'
  rw [h a' b' ha' hb']
  unfold lay2
  rw [if_neg (by omega)]
theorem nI_any (x : Int32) : x = nI x.toBitVec.toNat := Int32.toBitVec_inj.mp (BitVec.eq_of_toNat_eq (by rw [pk_tn x.toBitVec.isLt]))
theorem FD_any (f : Nat → Int32) : ∃ d, FD d f := ⟨fun a b => (f (8 * a + b)).toBitVec.toNat, fun a b _ _ => nI_any _⟩
theorem m_laysFar {F : Nat} {C : Cy} {g f : Nat → Int32} (ok : Ok C) (hM : MS C g) (hF : 100 < F) : ∃ f2, X12_laysFar F g f = some f2 ∧ FB C f2 := by
  unfold X12_laysFar
  obtain ⟨d, hd⟩ := FD_any f
  obtain ⟨f1, h1, h2⟩ := it_rel (b := X12_laysFar_b2 F g) 8 (fun i s => ∃ f, s = (nI i, f) ∧ FD (lay2 d (dz C) i 0) f) (fun f => FD (dz C) f) (fun i s hi hs => by
      obtain ⟨f, rfl, hf⟩ := hs
      obtain ⟨f1, h1, h2⟩ := it_rel (b := X12_laysFar_b10 F g (nI i)) 8 (fun j s => ∃ f, s = (nI j, f) ∧ FD (lay2 d (dz C) i j) f) (fun f => FD (lay2 d (dz C) i 8) f) (fun j s hj hs => by
          obtain ⟨f, rfl, hf⟩ := hs
          refine Or.inl ⟨(nI (j + 1), upd f (8 * i + j) (nI (dz C i j))), ?_, _, rfl, FD_put hf hi hj rfl⟩
          unfold X12_laysFar_b10 X12_laysFar_j41
          by_cases e : i = j
          · have e2 : dz C i j = 0 := if_pos e
            simp (disch := omega) only [l_0, l_1, l_2, l_3, l_4, l_5, l_6, l_7, l_8, l_9, l_10, l_11, l_12, l_13, l_14, l_15, l_16, l_17, l_18, l_19, l_20, l_21, l_22, l_23, l_24, l_25, l_26, l_27, l_30, l_31, l_32, l_40, l_48, l_57, l_59, l_60, l_61, l_62, l_64, l_83, l_90, l_97, l_99, l_100, l_108, l_115, l_122, l_123, l_127, l_128, l_131, l_135, l_200, l_255, l_256, l_300, l_487, l_495, l_900, l_999, l_1000, l_1700, l_1792, l_1980, l_2048, l_2475, l_2970, l_3121, l_9999, l_10000, l_11351, l_65536, l_100000, l_1000000, ↓l_m1, l_neg, nI_add, pk_mul, pk_sub, q_leT, q_leF, q_ltT, q_ltF, q_eqT, q_eqF, q_m1e, q_m1e2, q_m1lt, q_m1le, q_m1nl, q_m1nle, q_m1s, q_ix, q_jat, q_jput, q_min1, q_min2, q_max1, q_max2, q_or0, q_0or, Option.bind_some, if_true, if_false, true_and, and_true, false_and, and_false, not_true_eq_false, not_false_eq_true, eq_self, Bool.false_eq_true, q_z0, q_z1, e2]
          · have e2 : dz C i j = tk C i j := if_neg e
            simp (disch := omega) only [l_0, l_1, l_2, l_3, l_4, l_5, l_6, l_7, l_8, l_9, l_10, l_11, l_12, l_13, l_14, l_15, l_16, l_17, l_18, l_19, l_20, l_21, l_22, l_23, l_24, l_25, l_26, l_27, l_30, l_31, l_32, l_40, l_48, l_57, l_59, l_60, l_61, l_62, l_64, l_83, l_90, l_97, l_99, l_100, l_108, l_115, l_122, l_123, l_127, l_128, l_131, l_135, l_200, l_255, l_256, l_300, l_487, l_495, l_900, l_999, l_1000, l_1700, l_1792, l_1980, l_2048, l_2475, l_2970, l_3121, l_9999, l_10000, l_11351, l_65536, l_100000, l_1000000, ↓l_m1, l_neg, nI_add, pk_mul, pk_sub, q_leT, q_leF, q_ltT, q_ltF, q_eqT, q_eqF, q_m1e, q_m1e2, q_m1lt, q_m1le, q_m1nl, q_m1nle, q_m1s, q_ix, q_jat, q_jput, q_min1, q_min2, q_max1, q_max2, q_or0, q_0or, Option.bind_some, if_true, if_false, true_and, and_true, false_and, and_false, not_true_eq_false, not_false_eq_true, eq_self, Bool.false_eq_true, q_z0, q_z1, e2, m_roadOf ok hM]) (fun s hs => by
          obtain ⟨f, rfl, hf⟩ := hs
          refine ⟨f, ?_, hf⟩
          unfold X12_laysFar_b10
          simp (disch := omega) only [l_0, l_1, l_2, l_3, l_4, l_5, l_6, l_7, l_8, l_9, l_10, l_11, l_12, l_13, l_14, l_15, l_16, l_17, l_18, l_19, l_20, l_21, l_22, l_23, l_24, l_25, l_26, l_27, l_30, l_31, l_32, l_40, l_48, l_57, l_59, l_60, l_61, l_62, l_64, l_83, l_90, l_97, l_99, l_100, l_108, l_115, l_122, l_123, l_127, l_128, l_131, l_135, l_200, l_255, l_256, l_300, l_487, l_495, l_900, l_999, l_1000, l_1700, l_1792, l_1980, l_2048, l_2475, l_2970, l_3121, l_9999, l_10000, l_11351, l_65536, l_100000, l_1000000, ↓l_m1, l_neg, nI_add, pk_mul, pk_sub, q_leT, q_leF, q_ltT, q_ltF, q_eqT, q_eqF, q_m1e, q_m1e2, q_m1lt, q_m1le, q_m1nl, q_m1nle, q_m1s, q_ix, q_jat, q_jput, q_min1, q_min2, q_max1, q_max2, q_or0, q_0or, Option.bind_some, if_true, if_false, true_and, and_true, false_and, and_false, not_true_eq_false, not_false_eq_true, eq_self, Bool.false_eq_true, q_z0, q_z1]) (s0 := (0, f)) ⟨f, rfl, hf⟩ (show 8 < F by omega)
      refine Or.inl ⟨(nI (i + 1), f1), ?_, f1, rfl, FD_next h2⟩
      unfold X12_laysFar_b2
      simp (disch := omega) only [l_0, l_1, l_2, l_3, l_4, l_5, l_6, l_7, l_8, l_9, l_10, l_11, l_12, l_13, l_14, l_15, l_16, l_17, l_18, l_19, l_20, l_21, l_22, l_23, l_24, l_25, l_26, l_27, l_30, l_31, l_32, l_40, l_48, l_57, l_59, l_60, l_61, l_62, l_64, l_83, l_90, l_97, l_99, l_100, l_108, l_115, l_122, l_123, l_127, l_128, l_131, l_135, l_200, l_255, l_256, l_300, l_487, l_495, l_900, l_999, l_1000, l_1700, l_1792, l_1980, l_2048, l_2475, l_2970, l_3121, l_9999, l_10000, l_11351, l_65536, l_100000, l_1000000, ↓l_m1, l_neg, nI_add, pk_mul, pk_sub, q_leT, q_leF, q_ltT, q_ltF, q_eqT, q_eqF, q_m1e, q_m1e2, q_m1lt, q_m1le, q_m1nl, q_m1nle, q_m1s, q_ix, q_jat, q_jput, q_min1, q_min2, q_max1, q_max2, q_or0, q_0or, Option.bind_some, if_true, if_false, true_and, and_true, false_and, and_false, not_true_eq_false, not_false_eq_true, eq_self, Bool.false_eq_true, q_z0, q_z1]
      rw [show (nI 0, f) = ((0 : Int32), f) from rfl, h1]; rfl) (fun s hs => by
      obtain ⟨f, rfl, hf⟩ := hs
      refine ⟨f, ?_, FD_all hf⟩
      unfold X12_laysFar_b2
      simp (disch := omega) only [l_0, l_1, l_2, l_3, l_4, l_5, l_6, l_7, l_8, l_9, l_10, l_11, l_12, l_13, l_14, l_15, l_16, l_17, l_18, l_19, l_20, l_21, l_22, l_23, l_24, l_25, l_26, l_27, l_30, l_31, l_32, l_40, l_48, l_57, l_59, l_60, l_61, l_62, l_64, l_83, l_90, l_97, l_99, l_100, l_108, l_115, l_122, l_123, l_127, l_128, l_131, l_135, l_200, l_255, l_256, l_300, l_487, l_495, l_900, l_999, l_1000, l_1700, l_1792, l_1980, l_2048, l_2475, l_2970, l_3121, l_9999, l_10000, l_11351, l_65536, l_100000, l_1000000, ↓l_m1, l_neg, nI_add, pk_mul, pk_sub, q_leT, q_leF, q_ltT, q_ltF, q_eqT, q_eqF, q_m1e, q_m1e2, q_m1lt, q_m1le, q_m1nl, q_m1nle, q_m1s, q_ix, q_jat, q_jput, q_min1, q_min2, q_max1, q_max2, q_or0, q_0or, Option.bind_some, if_true, if_false, true_and, and_true, false_and, and_false, not_true_eq_false, not_false_eq_true, eq_self, Bool.false_eq_true, q_z0, q_z1]) (s0 := (0, f)) ⟨f, rfl, FD_none hd⟩ (show 8 < F by omega)
  obtain ⟨f3, h3, h4⟩ := it_rel (b := X12_laysFar_b56 F g) 8 (fun c s => ∃ f, s = (nI c, f) ∧ FD (fwn (dz C) c) f) (fun f => FD (fwn (dz C) 8) f) (fun c s hc hs => by
      obtain ⟨f, rfl, hf⟩ := hs
      obtain ⟨f1, h1, h2⟩ := it_rel (b := X12_laysFar_b64 F g (nI c)) 8 (fun i s => ∃ f, s = (nI i, f) ∧ FD (lay2 (fwn (dz C) c) (fwn (dz C) (c + 1)) i 0) f) (fun f => FD (fwn (dz C) (c + 1)) f) (fun i s hi hs => by
          obtain ⟨f, rfl, hf⟩ := hs
          obtain ⟨f1, h1, h2⟩ := it_rel (b := X12_laysFar_b72 F g (nI c) (nI i)) 8 (fun j s => ∃ f, s = (nI j, f) ∧ FD (lay2 (fwn (dz C) c) (fwn (dz C) (c + 1)) i j) f) (fun f => FD (lay2 (fwn (dz C) c) (fwn (dz C) (c + 1)) i 8) f) (fun j s hj hs => by
              obtain ⟨f, rfl, hf⟩ := hs
              have z := fwn_0 (dz_0 C) c c
              have k1 : f (8 * i + j) = nI (fwn (dz C) c i j) := by
                rw [hf i j hi hj]; unfold lay2; rw [if_neg (by omega)]
              have k2 : f (8 * i + c) = nI (fwn (dz C) c i c) := by
                rw [hf i c hi hc]; unfold lay2
                by_cases q : i < i ∨ i = i ∧ c < j
                · rw [if_pos q]; congr 1; simp only [fwn, fws]; omega
                · rw [if_neg q]
              have k3 : f (8 * c + j) = nI (fwn (dz C) c c j) := by
                rw [hf c j hc hj]; unfold lay2
                by_cases q : c < i ∨ c = i ∧ j < j
                · rw [if_pos q]; congr 1; simp only [fwn, fws]; omega
                · rw [if_neg q]
              have b1 := Nat.le_trans (fwn_mono (dz C) i j 0 c (by omega)) (dz_le C i j)
              have b2 := Nat.le_trans (fwn_mono (dz C) i c 0 c (by omega)) (dz_le C i c)
              have b3 := Nat.le_trans (fwn_mono (dz C) c j 0 c (by omega)) (dz_le C c j)
              refine Or.inl ⟨(nI (j + 1), upd f (8 * i + j) (nI (fwn (dz C) (c + 1) i j))), ?_, _, rfl, FD_put hf hi hj rfl⟩
              unfold X12_laysFar_b72
              simp (disch := omega) only [l_0, l_1, l_2, l_3, l_4, l_5, l_6, l_7, l_8, l_9, l_10, l_11, l_12, l_13, l_14, l_15, l_16, l_17, l_18, l_19, l_20, l_21, l_22, l_23, l_24, l_25, l_26, l_27, l_30, l_31, l_32, l_40, l_48, l_57, l_59, l_60, l_61, l_62, l_64, l_83, l_90, l_97, l_99, l_100, l_108, l_115, l_122, l_123, l_127, l_128, l_131, l_135, l_200, l_255, l_256, l_300, l_487, l_495, l_900, l_999, l_1000, l_1700, l_1792, l_1980, l_2048, l_2475, l_2970, l_3121, l_9999, l_10000, l_11351, l_65536, l_100000, l_1000000, ↓l_m1, l_neg, nI_add, pk_mul, pk_sub, q_leT, q_leF, q_ltT, q_ltF, q_eqT, q_eqF, q_m1e, q_m1e2, q_m1lt, q_m1le, q_m1nl, q_m1nle, q_m1s, q_ix, q_jat, q_jput, q_min1, q_min2, q_max1, q_max2, q_or0, q_0or, Option.bind_some, if_true, if_false, true_and, and_true, false_and, and_false, not_true_eq_false, not_false_eq_true, eq_self, Bool.false_eq_true, q_z0, q_z1, k1, k2, k3, q_min]
              rfl) (fun s hs => by
              obtain ⟨f, rfl, hf⟩ := hs
              refine ⟨f, ?_, hf⟩
              unfold X12_laysFar_b72
              simp (disch := omega) only [l_0, l_1, l_2, l_3, l_4, l_5, l_6, l_7, l_8, l_9, l_10, l_11, l_12, l_13, l_14, l_15, l_16, l_17, l_18, l_19, l_20, l_21, l_22, l_23, l_24, l_25, l_26, l_27, l_30, l_31, l_32, l_40, l_48, l_57, l_59, l_60, l_61, l_62, l_64, l_83, l_90, l_97, l_99, l_100, l_108, l_115, l_122, l_123, l_127, l_128, l_131, l_135, l_200, l_255, l_256, l_300, l_487, l_495, l_900, l_999, l_1000, l_1700, l_1792, l_1980, l_2048, l_2475, l_2970, l_3121, l_9999, l_10000, l_11351, l_65536, l_100000, l_1000000, ↓l_m1, l_neg, nI_add, pk_mul, pk_sub, q_leT, q_leF, q_ltT, q_ltF, q_eqT, q_eqF, q_m1e, q_m1e2, q_m1lt, q_m1le, q_m1nl, q_m1nle, q_m1s, q_ix, q_jat, q_jput, q_min1, q_min2, q_max1, q_max2, q_or0, q_0or, Option.bind_some, if_true, if_false, true_and, and_true, false_and, and_false, not_true_eq_false, not_false_eq_true, eq_self, Bool.false_eq_true, q_z0, q_z1]) (s0 := (0, f)) ⟨f, rfl, hf⟩ (show 8 < F by omega)
          refine Or.inl ⟨(nI (i + 1), f1), ?_, f1, rfl, FD_next h2⟩
          unfold X12_laysFar_b64
          simp (disch := omega) only [l_0, l_1, l_2, l_3, l_4, l_5, l_6, l_7, l_8, l_9, l_10, l_11, l_12, l_13, l_14, l_15, l_16, l_17, l_18, l_19, l_20, l_21, l_22, l_23, l_24, l_25, l_26, l_27, l_30, l_31, l_32, l_40, l_48, l_57, l_59, l_60, l_61, l_62, l_64, l_83, l_90, l_97, l_99, l_100, l_108, l_115, l_122, l_123, l_127, l_128, l_131, l_135, l_200, l_255, l_256, l_300, l_487, l_495, l_900, l_999, l_1000, l_1700, l_1792, l_1980, l_2048, l_2475, l_2970, l_3121, l_9999, l_10000, l_11351, l_65536, l_100000, l_1000000, ↓l_m1, l_neg, nI_add, pk_mul, pk_sub, q_leT, q_leF, q_ltT, q_ltF, q_eqT, q_eqF, q_m1e, q_m1e2, q_m1lt, q_m1le, q_m1nl, q_m1nle, q_m1s, q_ix, q_jat, q_jput, q_min1, q_min2, q_max1, q_max2, q_or0, q_0or, Option.bind_some, if_true, if_false, true_and, and_true, false_and, and_false, not_true_eq_false, not_false_eq_true, eq_self, Bool.false_eq_true, q_z0, q_z1]
          rw [show (nI 0, f) = ((0 : Int32), f) from rfl, h1]; rfl) (fun s hs => by
          obtain ⟨f, rfl, hf⟩ := hs
          refine ⟨f, ?_, FD_all hf⟩
          unfold X12_laysFar_b64
          simp (disch := omega) only [l_0, l_1, l_2, l_3, l_4, l_5, l_6, l_7, l_8, l_9, l_10, l_11, l_12, l_13, l_14, l_15, l_16, l_17, l_18, l_19, l_20, l_21, l_22, l_23, l_24, l_25, l_26, l_27, l_30, l_31, l_32, l_40, l_48, l_57, l_59, l_60, l_61, l_62, l_64, l_83, l_90, l_97, l_99, l_100, l_108, l_115, l_122, l_123, l_127, l_128, l_131, l_135, l_200, l_255, l_256, l_300, l_487, l_495, l_900, l_999, l_1000, l_1700, l_1792, l_1980, l_2048, l_2475, l_2970, l_3121, l_9999, l_10000, l_11351, l_65536, l_100000, l_1000000, ↓l_m1, l_neg, nI_add, pk_mul, pk_sub, q_leT, q_leF, q_ltT, q_ltF, q_eqT, q_eqF, q_m1e, q_m1e2, q_m1lt, q_m1le, q_m1nl, q_m1nle, q_m1s, q_ix, q_jat, q_jput, q_min1, q_min2, q_max1, q_max2, q_or0, q_0or, Option.bind_some, if_true, if_false, true_and, and_true, false_and, and_false, not_true_eq_false, not_false_eq_true, eq_self, Bool.false_eq_true, q_z0, q_z1]) (s0 := (0, f)) ⟨f, rfl, FD_none hf⟩ (show 8 < F by omega)
      refine Or.inl ⟨(nI (c + 1), f1), ?_, f1, rfl, h2⟩
      unfold X12_laysFar_b56
      simp (disch := omega) only [l_0, l_1, l_2, l_3, l_4, l_5, l_6, l_7, l_8, l_9, l_10, l_11, l_12, l_13, l_14, l_15, l_16, l_17, l_18, l_19, l_20, l_21, l_22, l_23, l_24, l_25, l_26, l_27, l_30, l_31, l_32, l_40, l_48, l_57, l_59, l_60, l_61, l_62, l_64, l_83, l_90, l_97, l_99, l_100, l_108, l_115, l_122, l_123, l_127, l_128, l_131, l_135, l_200, l_255, l_256, l_300, l_487, l_495, l_900, l_999, l_1000, l_1700, l_1792, l_1980, l_2048, l_2475, l_2970, l_3121, l_9999, l_10000, l_11351, l_65536, l_100000, l_1000000, ↓l_m1, l_neg, nI_add, pk_mul, pk_sub, q_leT, q_leF, q_ltT, q_ltF, q_eqT, q_eqF, q_m1e, q_m1e2, q_m1lt, q_m1le, q_m1nl, q_m1nle, q_m1s, q_ix, q_jat, q_jput, q_min1, q_min2, q_max1, q_max2, q_or0, q_0or, Option.bind_some, if_true, if_false, true_and, and_true, false_and, and_false, not_true_eq_false, not_false_eq_true, eq_self, Bool.false_eq_true, q_z0, q_z1]
      rw [show (nI 0, f) = ((0 : Int32), f) from rfl, h1]; rfl) (fun s hs => by
      obtain ⟨f, rfl, hf⟩ := hs
      refine ⟨f, ?_, hf⟩
      unfold X12_laysFar_b56
      simp (disch := omega) only [l_0, l_1, l_2, l_3, l_4, l_5, l_6, l_7, l_8, l_9, l_10, l_11, l_12, l_13, l_14, l_15, l_16, l_17, l_18, l_19, l_20, l_21, l_22, l_23, l_24, l_25, l_26, l_27, l_30, l_31, l_32, l_40, l_48, l_57, l_59, l_60, l_61, l_62, l_64, l_83, l_90, l_97, l_99, l_100, l_108, l_115, l_122, l_123, l_127, l_128, l_131, l_135, l_200, l_255, l_256, l_300, l_487, l_495, l_900, l_999, l_1000, l_1700, l_1792, l_1980, l_2048, l_2475, l_2970, l_3121, l_9999, l_10000, l_11351, l_65536, l_100000, l_1000000, ↓l_m1, l_neg, nI_add, pk_mul, pk_sub, q_leT, q_leF, q_ltT, q_ltF, q_eqT, q_eqF, q_m1e, q_m1e2, q_m1lt, q_m1le, q_m1nl, q_m1nle, q_m1s, q_ix, q_jat, q_jput, q_min1, q_min2, q_max1, q_max2, q_or0, q_0or, Option.bind_some, if_true, if_false, true_and, and_true, false_and, and_false, not_true_eq_false, not_false_eq_true, eq_self, Bool.false_eq_true, q_z0, q_z1]) (s0 := (0, f1)) ⟨f1, rfl, h2⟩ (show 8 < F by omega)
  refine ⟨f3, ?_, by unfold FB far; exact h4⟩
  rw [h1]
  simp only [Option.bind_some]
  rw [h3]; rfl
