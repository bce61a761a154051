/-! ===== PURE 17.a: the happenings ahead in their order ===== -/
def ahd (C : Cy) (h : Nat) : Bool := decide (C 3 h 3 = 0 ∧ C 0 0 8 ≤ C 3 h 1)
def key (C : Cy) (h : Nat) : Nat := C 3 h 1 * 16 + h
def LineOK (C : Cy) (i n : Nat) (L : Nat → Nat) : Prop := n ≤ i ∧ (∀ j, j < n → L j < i ∧ ahd C (L j) = true) ∧ (∀ j k, j < k → k < n → key C (L j) < key C (L k)) ∧ (∀ h, h < i → ahd C h = true → ∃ j, j < n ∧ L j = h)
def insL (L : Nat → Nat) (p h : Nat) : Nat → Nat := fun k => if k < p then L k else if k = p then h else L (k - 1)
theorem LineOK_ins {C : Cy} {i n p : Nat} {L : Nat → Nat} (hi : i < 16) (h : LineOK C i n L) (hp : p ≤ n) (ha : ahd C i = true) (h1 : ∀ k, p ≤ k → k < n → C 3 i 1 < C 3 (L k) 1) (h2 : ∀ k, k < p → C 3 (L k) 1 ≤ C 3 i 1) : LineOK C (i + 1) (n + 1) (insL L p i) := by
  obtain ⟨a1, a2, a3, a4⟩ := h
  refine ⟨by omega, fun j hj => ?_, fun j k hjk hk => ?_, fun x hx hax => ?_⟩
  · unfold insL
    by_cases q1 : j < p
    · rw [if_pos q1]; have := a2 j (by omega); exact ⟨by omega, this.2⟩
    · rw [if_neg q1]
      by_cases q2 : j = p
      · rw [if_pos q2]; exact ⟨by omega, ha⟩
      · rw [if_neg q2]; have := a2 (j - 1) (by omega); exact ⟨by omega, this.2⟩
  · unfold insL
    by_cases q1 : k < p
    · rw [if_pos q1, if_pos (by omega)]; exact a3 j k hjk (by omega)
    · rw [if_neg q1]
      by_cases q2 : k = p
      · rw [if_pos q2, if_pos (by omega)]
        have b := h2 j (by omega)
        have c := (a2 j (by omega)).1
        unfold key; omega
      · rw [if_neg q2]
        by_cases q3 : j < p
        · rw [if_pos q3]; exact a3 j (k - 1) (by omega) (by omega)
        · rw [if_neg q3]
          by_cases q4 : j = p
          · rw [if_pos q4]
            have b := h1 (k - 1) (by omega) (by omega)
            unfold key; omega
          · rw [if_neg q4]; exact a3 (j - 1) (k - 1) (by omega) (by omega)
  · by_cases e : x = i
    · exact ⟨p, by omega, by unfold insL; rw [if_neg (by omega), if_pos rfl, e]⟩
    · obtain ⟨j, hj, hL⟩ := a4 x (by omega) hax
      by_cases q : j < p
      · exact ⟨j, by omega, by unfold insL; rw [if_pos q, hL]⟩
      · exact ⟨j + 1, by omega, by unfold insL; rw [if_neg (by omega), if_neg (by omega), Nat.add_sub_cancel, hL]⟩
theorem LineOK_no {C : Cy} {i n : Nat} {L : Nat → Nat} (h : LineOK C i n L) (ha : ahd C i = false) : LineOK C (i + 1) n L := by
  obtain ⟨a1, a2, a3, a4⟩ := h
  refine ⟨by omega, fun j hj => ⟨by have := (a2 j hj).1; omega, (a2 j hj).2⟩, a3, fun x hx hax => ?_⟩
  by_cases e : x = i
  · rw [e, ha] at hax; cases hax
  · exact a4 x (by omega) hax
/-- the shifting loop -/
theorem c_shift {F : Nat} {C : Cy} {hf f : Nat → Int32} {i n : Nat} {L : Nat → Nat} (lo op : Int32) (ok : Ok C) (hH : CH C hf) (hi : i < C 0 0 3) (hn : n < 8) (hL : LineOK C i n L) (hf1 : ∀ j, j < n → f j = nI (L j)) (hF : 100 < F) :
    ∃ p f2, iter (X4_lineUp_b67 F lo op (nI (C 0 0 8)) (nI (C 0 0 3)) hf (nI i) (nI (C 3 i 1))) F (nI n, f) = some (nI p, f2) ∧ p ≤ n ∧ (∀ k, k < p → f2 k = nI (L k)) ∧ (∀ k, p < k → k ≤ n → f2 k = nI (L (k - 1))) ∧ (∀ k, p ≤ k → k < n → C 3 i 1 < C 3 (L k) 1) ∧ (∀ k, k < p → C 3 (L k) 1 ≤ C 3 i 1) := by
  have o0 := ok.1
  obtain ⟨a1, a2, a3, a4⟩ := hL
  have ei := ok.2.2.2.1 i hi
  have sorted : ∀ j k, j ≤ k → k < n → C 3 (L j) 1 ≤ C 3 (L k) 1 := by
    intro j k hjk hk
    by_cases e : j = k
    · rw [e]; exact Nat.le_refl _
    · have b := a3 j k (by omega) hk
      have c := (a2 j (by omega)).1
      have d := (a2 k hk).1
      unfold key at b; omega
  obtain ⟨e, h1, p, f2, rfl, h2⟩ := it_rel (b := X4_lineUp_b67 F lo op (nI (C 0 0 8)) (nI (C 0 0 3)) hf (nI i) (nI (C 3 i 1))) n
    (fun j s => ∃ f, s = (nI (n - j), f) ∧ (∀ k, k < n - j → f k = nI (L k)) ∧ (∀ k, n - j < k → k ≤ n → f k = nI (L (k - 1))) ∧ (∀ k, n - j ≤ k → k < n → C 3 i 1 < C 3 (L k) 1))
    (fun e => ∃ p f2, e = (nI p, f2) ∧ p ≤ n ∧ (∀ k, k < p → f2 k = nI (L k)) ∧ (∀ k, p < k → k ≤ n → f2 k = nI (L (k - 1))) ∧ (∀ k, p ≤ k → k < n → C 3 i 1 < C 3 (L k) 1) ∧ (∀ k, k < p → C 3 (L k) 1 ≤ C 3 i 1)) (fun j s hj hs => by
      obtain ⟨f1, rfl, b1, b2, b3⟩ := hs
      have g1 : f1 (n - j - 1) = nI (L (n - j - 1)) := b1 _ (by omega)
      have hl := a2 (n - j - 1) (by omega)
      have el := ok.2.2.2.1 (L (n - j - 1)) (by omega)
      unfold X4_lineUp_b67
      by_cases q : C 3 (L (n - j - 1)) 1 ≤ C 3 i 1
      · refine Or.inr ⟨(nI (n - j), f1), ?_, n - j, f1, rfl, by omega, b1, b2, b3, fun k hk => Nat.le_trans (sorted k (n - j - 1) (by omega) (by omega)) q⟩
        simp (disch := omega) only [l_0, l_1, l_2, l_3, l_4, l_5, l_6, l_7, l_8, l_9, l_10, l_11, l_12, l_13, l_14, l_15, l_16, l_17, l_18, l_19, l_20, l_21, l_22, l_23, l_24, l_25, l_26, l_27, l_30, l_31, l_32, l_40, l_48, l_57, l_59, l_60, l_61, l_62, l_64, l_83, l_90, l_97, l_99, l_100, l_108, l_115, l_122, l_123, l_127, l_128, l_131, l_135, l_200, l_255, l_256, l_300, l_487, l_495, l_900, l_999, l_1000, l_1700, l_1792, l_1980, l_2048, l_2475, l_2970, l_3121, l_9999, l_10000, l_11351, l_65536, l_100000, l_1000000, ↓l_m1, l_neg, nI_add, pk_mul, pk_sub, q_leT, q_leF, q_ltT, q_ltF, q_eqT, q_eqF, q_m1e, q_m1e2, q_m1lt, q_m1le, q_m1nl, q_m1nle, q_m1s, q_ix, q_jat, q_jput, q_min1, q_min2, q_max1, q_max2, q_or0, q_0or, q_bs, if_true, if_false, true_and, and_true, false_and, and_false, not_true_eq_false, not_false_eq_true, eq_self, Bool.false_eq_true, q_z0, q_z1, q_get, q_set, q_raise, g1, hH (L (n - j - 1))]
      · refine Or.inl ⟨(nI (n - (j + 1)), upd f1 (n - j) (nI (L (n - j - 1)))), ?_, _, rfl, fun k hk => ?_, fun k hk1 hk2 => ?_, fun k hk1 hk2 => ?_⟩
        · have ed : nI (n - j) + m1 = nI (n - (j + 1)) := by rw [q_dec (by omega)]; congr 1
          simp (disch := omega) only [l_0, l_1, l_2, l_3, l_4, l_5, l_6, l_7, l_8, l_9, l_10, l_11, l_12, l_13, l_14, l_15, l_16, l_17, l_18, l_19, l_20, l_21, l_22, l_23, l_24, l_25, l_26, l_27, l_30, l_31, l_32, l_40, l_48, l_57, l_59, l_60, l_61, l_62, l_64, l_83, l_90, l_97, l_99, l_100, l_108, l_115, l_122, l_123, l_127, l_128, l_131, l_135, l_200, l_255, l_256, l_300, l_487, l_495, l_900, l_999, l_1000, l_1700, l_1792, l_1980, l_2048, l_2475, l_2970, l_3121, l_9999, l_10000, l_11351, l_65536, l_100000, l_1000000, ↓l_m1, l_neg, nI_add, pk_mul, pk_sub, q_leT, q_leF, q_ltT, q_ltF, q_eqT, q_eqF, q_m1e, q_m1e2, q_m1lt, q_m1le, q_m1nl, q_m1nle, q_m1s, q_ix, q_jat, q_jput, q_min1, q_min2, q_max1, q_max2, q_or0, q_0or, q_bs, if_true, if_false, true_and, and_true, false_and, and_false, not_true_eq_false, not_false_eq_true, eq_self, Bool.false_eq_true, q_z0, q_z1, q_get, q_set, q_raise, g1, hH (L (n - j - 1)), ed]
        · rw [pk_un (by omega)]; exact b1 k (by omega)
        · by_cases e : k = n - j
          · rw [e, pk_us]
          · rw [pk_un e]; exact b2 k (by omega) hk2
        · by_cases e : k = n - j - 1
          · rw [e]; omega
          · exact b3 k (by omega) hk2) (fun s hs => by
      obtain ⟨f1, rfl, b1, b2, b3⟩ := hs
      rw [Nat.sub_self] at b1 b2 b3 ⊢
      refine ⟨(nI 0, f1), ?_, 0, f1, rfl, by omega, b1, b2, b3, fun k hk => by omega⟩
      unfold X4_lineUp_b67
      simp (disch := omega) only [l_0, l_1, l_2, l_3, l_4, l_5, l_6, l_7, l_8, l_9, l_10, l_11, l_12, l_13, l_14, l_15, l_16, l_17, l_18, l_19, l_20, l_21, l_22, l_23, l_24, l_25, l_26, l_27, l_30, l_31, l_32, l_40, l_48, l_57, l_59, l_60, l_61, l_62, l_64, l_83, l_90, l_97, l_99, l_100, l_108, l_115, l_122, l_123, l_127, l_128, l_131, l_135, l_200, l_255, l_256, l_300, l_487, l_495, l_900, l_999, l_1000, l_1700, l_1792, l_1980, l_2048, l_2475, l_2970, l_3121, l_9999, l_10000, l_11351, l_65536, l_100000, l_1000000, ↓l_m1, l_neg, nI_add, pk_mul, pk_sub, q_leT, q_leF, q_ltT, q_ltF, q_eqT, q_eqF, q_m1e, q_m1e2, q_m1lt, q_m1le, q_m1nl, q_m1nle, q_m1s, q_ix, q_jat, q_jput, q_min1, q_min2, q_max1, q_max2, q_or0, q_0or, q_bs, if_true, if_false, true_and, and_true, false_and, and_false, not_true_eq_false, not_false_eq_true, eq_self, Bool.false_eq_true, q_z0, q_z1]) (s0 := (nI n, f)) ⟨f, rfl, hf1, fun k h1 h2 => by omega, fun k h1 h2 => by omega⟩ (show n < F by omega)
  exact ⟨p, f2, h1, h2⟩
def openS (C : Cy) : Nat := setOf (ahd C) (C 0 0 3)
theorem c_lineUp {F : Nat} {C : Cy} {hf f : Nat → Int32} (lo op : Int32) (ok : Ok C) (hH : CH C hf) (hF : 100 < F) :
    ∃ n L f2, X4_lineUp F lo op f (nI (C 0 0 8)) (nI (C 0 0 3)) hf = some (nI n, nI (openS C), f2) ∧ LineOK C (C 0 0 3) n L ∧ ∀ j, j < n → f2 j = nI (L j) := by
  have o0 := ok.1
  obtain ⟨e, h1, n, L, f2, rfl, h2, h3⟩ := it_rel (b := X4_lineUp_b12 F (nI (C 0 0 8)) (nI (C 0 0 3)) hf) (C 0 0 3)
    (fun i s => ∃ n L f, s = (nI i, nI n, nI (setOf (ahd C) i), f) ∧ LineOK C i n L ∧ ∀ j, j < n → f j = nI (L j))
    (fun e => ∃ n L f, e = (nI n, nI (openS C), f) ∧ LineOK C (C 0 0 3) n L ∧ ∀ j, j < n → f j = nI (L j)) (fun i s hi hs => by
      obtain ⟨n, L, f1, rfl, b1, b2⟩ := hs
      have n8 := b1.1
      have e1 := ok.2.2.2.1 i hi
      have st := set_step (ahd C) (show i < 31 by omega)
      unfold X4_lineUp_b12 X4_lineUp_j115 X4_lineUp_j145
      cases ha : ahd C i with
      | false =>
        rw [ha] at st
        simp only [Bool.false_eq_true, if_false] at st
        refine Or.inl ⟨(nI (i + 1), nI n, nI (setOf (ahd C) (i + 1)), f1), ?_, n, L, f1, rfl, LineOK_no b1 ha, b2⟩
        rw [← st]
        have hno : ¬ (C 3 i 3 = 0 ∧ C 0 0 8 ≤ C 3 i 1) := of_decide_eq_false ha
        by_cases q : C 3 i 3 = 0
        · have q2 : C 3 i 1 < C 0 0 8 := by omega
          simp (disch := omega) only [l_0, l_1, l_2, l_3, l_4, l_5, l_6, l_7, l_8, l_9, l_10, l_11, l_12, l_13, l_14, l_15, l_16, l_17, l_18, l_19, l_20, l_21, l_22, l_23, l_24, l_25, l_26, l_27, l_30, l_31, l_32, l_40, l_48, l_57, l_59, l_60, l_61, l_62, l_64, l_83, l_90, l_97, l_99, l_100, l_108, l_115, l_122, l_123, l_127, l_128, l_131, l_135, l_200, l_255, l_256, l_300, l_487, l_495, l_900, l_999, l_1000, l_1700, l_1792, l_1980, l_2048, l_2475, l_2970, l_3121, l_9999, l_10000, l_11351, l_65536, l_100000, l_1000000, ↓l_m1, l_neg, nI_add, pk_mul, pk_sub, q_leT, q_leF, q_ltT, q_ltF, q_eqT, q_eqF, q_m1e, q_m1e2, q_m1lt, q_m1le, q_m1nl, q_m1nle, q_m1s, q_ix, q_jat, q_jput, q_min1, q_min2, q_max1, q_max2, q_or0, q_0or, q_bs, if_true, if_false, true_and, and_true, false_and, and_false, not_true_eq_false, not_false_eq_true, eq_self, Bool.false_eq_true, q_z0, q_z1, q_get, q_set, q_raise, hH i, c_tcT hH]
        · simp (disch := omega) only [l_0, l_1, l_2, l_3, l_4, l_5, l_6, l_7, l_8, l_9, l_10, l_11, l_12, l_13, l_14, l_15, l_16, l_17, l_18, l_19, l_20, l_21, l_22, l_23, l_24, l_25, l_26, l_27, l_30, l_31, l_32, l_40, l_48, l_57, l_59, l_60, l_61, l_62, l_64, l_83, l_90, l_97, l_99, l_100, l_108, l_115, l_122, l_123, l_127, l_128, l_131, l_135, l_200, l_255, l_256, l_300, l_487, l_495, l_900, l_999, l_1000, l_1700, l_1792, l_1980, l_2048, l_2475, l_2970, l_3121, l_9999, l_10000, l_11351, l_65536, l_100000, l_1000000, ↓l_m1, l_neg, nI_add, pk_mul, pk_sub, q_leT, q_leF, q_ltT, q_ltF, q_eqT, q_eqF, q_m1e, q_m1e2, q_m1lt, q_m1le, q_m1nl, q_m1nle, q_m1s, q_ix, q_jat, q_jput, q_min1, q_min2, q_max1, q_max2, q_or0, q_0or, q_bs, if_true, if_false, true_and, and_true, false_and, and_false, not_true_eq_false, not_false_eq_true, eq_self, Bool.false_eq_true, q_z0, q_z1, q_get, q_set, q_raise, hH i, c_tcF hH]
      | true =>
        rw [ha] at st
        simp only [if_true] at st
        obtain ⟨q1, q2⟩ := of_decide_eq_true ha
        obtain ⟨p, f2, i1, p1, p2, p3, p4, p5⟩ := c_shift (F := F) (f := f1) (nI n) (nI (setOf (ahd C) i)) ok hH hi (by omega) b1 b2 hF
        refine Or.inl ⟨(nI (i + 1), nI (n + 1), nI (setOf (ahd C) (i + 1)), upd f2 p (nI i)), ?_, n + 1, insL L p i, upd f2 p (nI i), rfl, LineOK_ins (by omega) b1 p1 ha p4 p5, fun j hj => ?_⟩
        · rw [← st]
          simp (disch := omega) only [l_0, l_1, l_2, l_3, l_4, l_5, l_6, l_7, l_8, l_9, l_10, l_11, l_12, l_13, l_14, l_15, l_16, l_17, l_18, l_19, l_20, l_21, l_22, l_23, l_24, l_25, l_26, l_27, l_30, l_31, l_32, l_40, l_48, l_57, l_59, l_60, l_61, l_62, l_64, l_83, l_90, l_97, l_99, l_100, l_108, l_115, l_122, l_123, l_127, l_128, l_131, l_135, l_200, l_255, l_256, l_300, l_487, l_495, l_900, l_999, l_1000, l_1700, l_1792, l_1980, l_2048, l_2475, l_2970, l_3121, l_9999, l_10000, l_11351, l_65536, l_100000, l_1000000, ↓l_m1, l_neg, nI_add, pk_mul, pk_sub, q_leT, q_leF, q_ltT, q_ltF, q_eqT, q_eqF, q_m1e, q_m1e2, q_m1lt, q_m1le, q_m1nl, q_m1nle, q_m1s, q_ix, q_jat, q_jput, q_min1, q_min2, q_max1, q_max2, q_or0, q_0or, q_bs, if_true, if_false, true_and, and_true, false_and, and_false, not_true_eq_false, not_false_eq_true, eq_self, Bool.false_eq_true, q_z0, q_z1, q_get, q_set, q_raise, hH i, c_tcT hH, i1]
        · unfold insL
          by_cases z1 : j < p
          · rw [pk_un (by omega), if_pos z1]; exact p2 j z1
          · rw [if_neg z1]
            by_cases z2 : j = p
            · rw [if_pos z2, z2, pk_us]
            · rw [if_neg z2, pk_un z2]; exact p3 j (by omega) (by omega)) (fun s hs => by
      obtain ⟨n, L, f1, rfl, b1, b2⟩ := hs
      refine ⟨_, ?_, n, L, f1, rfl, b1, b2⟩
      unfold X4_lineUp_b12 openS
      simp (disch := omega) only [l_0, l_1, l_2, l_3, l_4, l_5, l_6, l_7, l_8, l_9, l_10, l_11, l_12, l_13, l_14, l_15, l_16, l_17, l_18, l_19, l_20, l_21, l_22, l_23, l_24, l_25, l_26, l_27, l_30, l_31, l_32, l_40, l_48, l_57, l_59, l_60, l_61, l_62, l_64, l_83, l_90, l_97, l_99, l_100, l_108, l_115, l_122, l_123, l_127, l_128, l_131, l_135, l_200, l_255, l_256, l_300, l_487, l_495, l_900, l_999, l_1000, l_1700, l_1792, l_1980, l_2048, l_2475, l_2970, l_3121, l_9999, l_10000, l_11351, l_65536, l_100000, l_1000000, ↓l_m1, l_neg, nI_add, pk_mul, pk_sub, q_leT, q_leF, q_ltT, q_ltF, q_eqT, q_eqF, q_m1e, q_m1e2, q_m1lt, q_m1le, q_m1nl, q_m1nle, q_m1s, q_ix, q_jat, q_jput, q_min1, q_min2, q_max1, q_max2, q_or0, q_0or, q_bs, if_true, if_false, true_and, and_true, false_and, and_false, not_true_eq_false, not_false_eq_true, eq_self, Bool.false_eq_true, q_z0, q_z1]) (s0 := (0, 0, 0, f)) ⟨0, fun _ => 0, f, rfl, ⟨Nat.le_refl _, fun j hj => by omega, fun j k _ hk => by omega, fun x hx => by omega⟩, fun j hj => by omega⟩ (show C 0 0 3 < F by omega)
  refine ⟨n, L, f2, ?_, h2, h3⟩
  unfold X4_lineUp
  rw [h1, q_bs]
theorem m_ahead0 {F : Nat} {C : Cy} {g : Nat → Int32} (ok : Ok C) (hM : MS C g) (hF : 100 < F) : X12_ahead0 F g = some (nI (openS C)) := by
  have o0 := ok.1
  unfold X12_ahead0 openS
  rw [loop_set (n := C 0 0 3) (ahd C) (by omega) ?_ ?_ (by omega)]; rfl
  · intro i x hi
    have e1 := ok.2.2.2.1 i hi
    unfold X12_ahead0_b4 X12_ahead0_j45 X12_ahead0_j46
    by_cases q1 : C 3 i 3 = 0
    · by_cases q2 : C 0 0 8 ≤ C 3 i 1
      · have hp : ahd C i = true := decide_eq_true ⟨q1, q2⟩
        simp (disch := omega) only [l_0, l_1, l_2, l_3, l_4, l_5, l_6, l_7, l_8, l_9, l_10, l_11, l_12, l_13, l_14, l_15, l_16, l_17, l_18, l_19, l_20, l_21, l_22, l_23, l_24, l_25, l_26, l_27, l_30, l_31, l_32, l_40, l_48, l_57, l_59, l_60, l_61, l_62, l_64, l_83, l_90, l_97, l_99, l_100, l_108, l_115, l_122, l_123, l_127, l_128, l_131, l_135, l_200, l_255, l_256, l_300, l_487, l_495, l_900, l_999, l_1000, l_1700, l_1792, l_1980, l_2048, l_2475, l_2970, l_3121, l_9999, l_10000, l_11351, l_65536, l_100000, l_1000000, ↓l_m1, l_neg, nI_add, pk_mul, pk_sub, q_leT, q_leF, q_ltT, q_ltF, q_eqT, q_eqF, q_m1e, q_m1e2, q_m1lt, q_m1le, q_m1nl, q_m1nle, q_m1s, q_ix, q_jat, q_jput, q_min1, q_min2, q_max1, q_max2, q_or0, q_0or, q_bs, if_true, if_false, true_and, and_true, false_and, and_false, not_true_eq_false, not_false_eq_true, eq_self, Bool.false_eq_true, q_z0, q_z1, m_0 hM, m_E hM, m_Es hM, m_Er hM, m_H hM, m_W hM, m_R0 hM, m_R1 hM, m_R2 hM, m_tcT hM, hp]
      · have hp : ahd C i = false := decide_eq_false (fun z => q2 z.2)
        simp (disch := omega) only [l_0, l_1, l_2, l_3, l_4, l_5, l_6, l_7, l_8, l_9, l_10, l_11, l_12, l_13, l_14, l_15, l_16, l_17, l_18, l_19, l_20, l_21, l_22, l_23, l_24, l_25, l_26, l_27, l_30, l_31, l_32, l_40, l_48, l_57, l_59, l_60, l_61, l_62, l_64, l_83, l_90, l_97, l_99, l_100, l_108, l_115, l_122, l_123, l_127, l_128, l_131, l_135, l_200, l_255, l_256, l_300, l_487, l_495, l_900, l_999, l_1000, l_1700, l_1792, l_1980, l_2048, l_2475, l_2970, l_3121, l_9999, l_10000, l_11351, l_65536, l_100000, l_1000000, ↓l_m1, l_neg, nI_add, pk_mul, pk_sub, q_leT, q_leF, q_ltT, q_ltF, q_eqT, q_eqF, q_m1e, q_m1e2, q_m1lt, q_m1le, q_m1nl, q_m1nle, q_m1s, q_ix, q_jat, q_jput, q_min1, q_min2, q_max1, q_max2, q_or0, q_0or, q_bs, if_true, if_false, true_and, and_true, false_and, and_false, not_true_eq_false, not_false_eq_true, eq_self, Bool.false_eq_true, q_z0, q_z1, m_0 hM, m_E hM, m_Es hM, m_Er hM, m_H hM, m_W hM, m_R0 hM, m_R1 hM, m_R2 hM, m_tcT hM, hp]
    · have hp : ahd C i = false := decide_eq_false (fun z => q1 z.1)
      simp (disch := omega) only [l_0, l_1, l_2, l_3, l_4, l_5, l_6, l_7, l_8, l_9, l_10, l_11, l_12, l_13, l_14, l_15, l_16, l_17, l_18, l_19, l_20, l_21, l_22, l_23, l_24, l_25, l_26, l_27, l_30, l_31, l_32, l_40, l_48, l_57, l_59, l_60, l_61, l_62, l_64, l_83, l_90, l_97, l_99, l_100, l_108, l_115, l_122, l_123, l_127, l_128, l_131, l_135, l_200, l_255, l_256, l_300, l_487, l_495, l_900, l_999, l_1000, l_1700, l_1792, l_1980, l_2048, l_2475, l_2970, l_3121, l_9999, l_10000, l_11351, l_65536, l_100000, l_1000000, ↓l_m1, l_neg, nI_add, pk_mul, pk_sub, q_leT, q_leF, q_ltT, q_ltF, q_eqT, q_eqF, q_m1e, q_m1e2, q_m1lt, q_m1le, q_m1nl, q_m1nle, q_m1s, q_ix, q_jat, q_jput, q_min1, q_min2, q_max1, q_max2, q_or0, q_0or, q_bs, if_true, if_false, true_and, and_true, false_and, and_false, not_true_eq_false, not_false_eq_true, eq_self, Bool.false_eq_true, q_z0, q_z1, m_0 hM, m_E hM, m_Es hM, m_Er hM, m_H hM, m_W hM, m_R0 hM, m_R1 hM, m_R2 hM, m_tcF hM, hp]
  · intro x
    unfold X12_ahead0_b4
    simp (disch := omega) only [l_0, l_1, l_2, l_3, l_4, l_5, l_6, l_7, l_8, l_9, l_10, l_11, l_12, l_13, l_14, l_15, l_16, l_17, l_18, l_19, l_20, l_21, l_22, l_23, l_24, l_25, l_26, l_27, l_30, l_31, l_32, l_40, l_48, l_57, l_59, l_60, l_61, l_62, l_64, l_83, l_90, l_97, l_99, l_100, l_108, l_115, l_122, l_123, l_127, l_128, l_131, l_135, l_200, l_255, l_256, l_300, l_487, l_495, l_900, l_999, l_1000, l_1700, l_1792, l_1980, l_2048, l_2475, l_2970, l_3121, l_9999, l_10000, l_11351, l_65536, l_100000, l_1000000, ↓l_m1, l_neg, nI_add, pk_mul, pk_sub, q_leT, q_leF, q_ltT, q_ltF, q_eqT, q_eqF, q_m1e, q_m1e2, q_m1lt, q_m1le, q_m1nl, q_m1nle, q_m1s, q_ix, q_jat, q_jput, q_min1, q_min2, q_max1, q_max2, q_or0, q_0or, q_bs, if_true, if_false, true_and, and_true, false_and, and_false, not_true_eq_false, not_false_eq_true, eq_self, Bool.false_eq_true, q_z0, q_z1, m_0 hM, m_E hM, m_Es hM, m_Er hM, m_H hM, m_W hM, m_R0 hM, m_R1 hM, m_R2 hM]
