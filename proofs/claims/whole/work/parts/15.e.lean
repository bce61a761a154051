/-! ===== PURE 15.e: mark, undo ===== -/
def szs (j : Nat) : Nat := if j = 0 then 24 else if j = 1 then 64 else if j = 2 then 64 else if j = 3 then 27 else if j = 4 then 27 else if j = 5 then 35 else if j = 6 then 40 else if j = 7 then 12 else 180
theorem cls_lt {R : Nat → Nat → Nat} {q m : Nat} (h : q < m) (hc : R q 0 ≠ 19) : cls R q < cls R m := by
  unfold cls
  have h1 : fb_ct (ncl R) (q + 1) ≤ fb_ct (ncl R) m := fb_ct_mono _ (by omega)
  have e : ncl R q = true := decide_eq_true hc
  rw [fb_ct_succ, e] at h1
  simp only [if_true] at h1
  omega
theorem NR_arr {C : Cy} {nN : Int32} {co co' : Nat → Int64} {so so' nu nu' : Nat → Int32} {mn : Nat → Int64} (h : NR C nN co so nu mn) (h1 : ∀ k, k < 27 → co' k = co k) (h2 : ∀ k, k < 27 → so' k = so k) (h3 : ∀ k, k < 27 → nu' k = nu k) : NR C nN co' so' nu' mn := by
  obtain ⟨n, nm, a1, a2, a3, a4, a5, a6⟩ := h
  refine ⟨n, nm, a1, a2, fun i hi => ?_, fun s k b1 b2 hk hz => ?_, a5, a6⟩
  · rw [h1 i (by omega), h2 i (by omega), h3 i (by omega)]; exact a3 i hi
  · obtain ⟨i, hi, c⟩ := a4 s k b1 b2 hk hz
    exact ⟨i, hi, by rw [h1 i (by omega), h2 i (by omega), h3 i (by omega)]; exact c⟩
theorem WR_arr {C : Cy} {hw nW : Int32} {wf wf' g : Nat → Int32} (h : WR C hw nW wf g) (h1 : ∀ k, k < 180 → wf' k = wf k) : WR C hw nW wf' g := by
  rcases h with h | ⟨a, R, m, b1, b2, b3, b4, b5, b6, b7⟩
  · exact Or.inl h
  · refine Or.inr ⟨a, R, m, b1, b2, b3, b4, b5, fun q hq hc => ?_, b7⟩
    have l := cls_lt hq hc
    have := b6 q hq hc
    unfold ClRow at this ⊢
    rw [h1 _ (by omega), h1 _ (by omega), h1 _ (by omega), h1 _ (by omega), h1 _ (by omega), h1 _ (by omega)]; exact this
theorem CityOK_arr {C : Cy} {ci ci' : Nat → Int32} {ca ca' : Nat → Nat → Int32} {cl cl' : Nat → Int64} {g g' : Nat → Int32} {nm nm' : Nat → Int64} (h : CityOK C ci ca cl g nm) (h1 : ∀ k, k < 12 → ci' k = ci k) (h2 : ∀ j k, j < 9 → k < szs j → ca' j k = ca j k) (h3 : ∀ k, k < 27 → cl' k = cl k) (h4 : ∀ k, k < 495 → g' k = g k) (h5 : ∀ k, k < 27 → nm' k = nm k) : CityOK C ci' ca' cl' g' nm' := by
  obtain ⟨a1, a2, a3, ⟨⟨c0, c1, c2, c3, c5, c6, c8, c9, c10⟩, cR, cT, cF, cX, cH, cW⟩, a5, a6, a7⟩ := h
  have o0 := a1.1
  refine ⟨a1, a2, a3, ⟨⟨?_, ?_, ?_, ?_, ?_, ?_, ?_, ?_, ?_⟩, ?_, ?_, ?_, ?_, ?_, ?_⟩, MS_cong a1 a5 (fun k hk => h4 k (by omega)), ?_, ?_⟩
  · rw [h1 0 (by omega)]; exact c0
  · rw [h1 1 (by omega)]; exact c1
  · rw [h1 2 (by omega)]; exact c2
  · rw [h1 3 (by omega)]; exact c3
  · rw [h1 5 (by omega)]; exact c5
  · rw [h1 6 (by omega)]; exact c6
  · rw [h1 8 (by omega)]; exact c8
  · rw [h1 9 (by omega)]; exact c9
  · rw [h1 10 (by omega)]; exact c10
  · intro r c hr hc; rw [h2 0 _ (by omega) (show _ < 24 by omega)]; exact cR r c hr hc
  · intro a b ha hb; rw [h2 1 _ (by omega) (show _ < 64 by omega)]; exact cT a b ha hb
  · intro h0 a b ha hb; rw [h2 2 _ (by omega) (show _ < 64 by omega)]; exact cF h0 a b ha hb
  · intro a b ha hb; rw [h2 5 _ (by omega) (show _ < 35 by omega)]; exact cX a b ha hb
  · intro a b ha hb; rw [h2 6 _ (by omega) (show _ < 40 by omega)]; exact cH a b ha hb
  · intro a b ha hb; rw [h2 7 _ (by omega) (show _ < 12 by omega)]; exact cW a b ha hb
  · rw [h1 7 (by omega)]
    exact NR_cong a1 (NR_arr a6 h3 (fun k hk => h2 3 k (by omega) hk) (fun k hk => h2 4 k (by omega) hk)) h5
  · rw [h1 4 (by omega), h1 11 (by omega)]
    exact WR_cong (WR_arr a7 (fun k hk => h2 8 k (by omega) hk)) (fun k hk => h4 k (by omega))
theorem copies_e {F a b : Nat} {g : Nat → Int32} {nm : Nat → Int64} (ha : a ≤ 3) (hb : b ≤ 3) (hab : a ≠ b) (hF : 600 < F) : X12_copies F g nm (nI a) (nI b) = some (putN g (fun k => g (495 * a + k)) (495 * b) 495, putN nm (fun k => nm (27 * a + k)) (27 * b) 27) := by
  unfold X12_copies
  have i1 : iter (X12_copies_b2 F nm (nI a) (nI b)) F (nI 0, putN g (fun k => g (495 * a + k)) (495 * b) 0) = some (putN g (fun k => g (495 * a + k)) (495 * b) 495) := by
    refine iter_count (b := X12_copies_b2 F nm (nI a) (nI b)) (fun i => (nI i, putN g (fun k => g (495 * a + k)) (495 * b) i)) 495 (fun i hi => ?_) ?_ F (by omega)
    · have e : putN g (fun k => g (495 * a + k)) (495 * b) i (495 * a + i) = g (495 * a + i) := by unfold putN; rw [if_neg (by omega)]
      have e2 := putN_s g (fun k => g (495 * a + k)) (495 * b) i
      unfold X12_copies_b2
      simp (disch := omega) only [l_0, l_1, l_2, l_3, l_4, l_5, l_6, l_7, l_8, l_9, l_10, l_11, l_12, l_13, l_14, l_15, l_16, l_17, l_18, l_19, l_20, l_21, l_22, l_23, l_24, l_25, l_26, l_27, l_30, l_31, l_32, l_40, l_48, l_57, l_59, l_60, l_61, l_62, l_64, l_83, l_90, l_97, l_99, l_100, l_108, l_115, l_122, l_123, l_127, l_128, l_131, l_135, l_200, l_255, l_256, l_300, l_487, l_495, l_900, l_999, l_1000, l_1700, l_1792, l_1980, l_2048, l_2475, l_2970, l_3121, l_9999, l_10000, l_11351, l_65536, l_100000, l_1000000, ↓l_m1, l_neg, nI_add, pk_mul, pk_sub, q_leT, q_leF, q_ltT, q_ltF, q_eqT, q_eqF, q_m1e, q_m1e2, q_m1lt, q_m1le, q_m1nl, q_m1nle, q_m1s, q_ix, q_jat, q_jput, q_min1, q_min2, q_max1, q_max2, q_or0, q_0or, q_bs, if_true, if_false, true_and, and_true, false_and, and_false, not_true_eq_false, not_false_eq_true, eq_self, Bool.false_eq_true, q_z0, q_z1, e, e2]
    · unfold X12_copies_b2
      simp (disch := omega) only [l_0, l_1, l_2, l_3, l_4, l_5, l_6, l_7, l_8, l_9, l_10, l_11, l_12, l_13, l_14, l_15, l_16, l_17, l_18, l_19, l_20, l_21, l_22, l_23, l_24, l_25, l_26, l_27, l_30, l_31, l_32, l_40, l_48, l_57, l_59, l_60, l_61, l_62, l_64, l_83, l_90, l_97, l_99, l_100, l_108, l_115, l_122, l_123, l_127, l_128, l_131, l_135, l_200, l_255, l_256, l_300, l_487, l_495, l_900, l_999, l_1000, l_1700, l_1792, l_1980, l_2048, l_2475, l_2970, l_3121, l_9999, l_10000, l_11351, l_65536, l_100000, l_1000000, ↓l_m1, l_neg, nI_add, pk_mul, pk_sub, q_leT, q_leF, q_ltT, q_ltF, q_eqT, q_eqF, q_m1e, q_m1e2, q_m1lt, q_m1le, q_m1nl, q_m1nle, q_m1s, q_ix, q_jat, q_jput, q_min1, q_min2, q_max1, q_max2, q_or0, q_0or, q_bs, if_true, if_false, true_and, and_true, false_and, and_false, not_true_eq_false, not_false_eq_true, eq_self, Bool.false_eq_true, q_z0, q_z1]
  have i2 : iter (X12_copies_b41 F (putN g (fun k => g (495 * a + k)) (495 * b) 495) (nI a) (nI b)) F (nI 0, putN nm (fun k => nm (27 * a + k)) (27 * b) 0) = some (putN nm (fun k => nm (27 * a + k)) (27 * b) 27) := by
    refine iter_count (b := X12_copies_b41 F (putN g (fun k => g (495 * a + k)) (495 * b) 495) (nI a) (nI b)) (fun i => (nI i, putN nm (fun k => nm (27 * a + k)) (27 * b) i)) 27 (fun i hi => ?_) ?_ F (by omega)
    · have e : putN nm (fun k => nm (27 * a + k)) (27 * b) i (27 * a + i) = nm (27 * a + i) := by unfold putN; rw [if_neg (by omega)]
      have e2 := putN_sL nm (fun k => nm (27 * a + k)) (27 * b) i
      have jl : ∀ (f : Nat → Int64) (k : Nat) (x : Int64), k < 2 ^ 31 → jputL f (nI k) x = vp_updL f k x := fun f k x hk => jputL_nI f x hk
      unfold X12_copies_b41
      simp (disch := omega) only [l_0, l_1, l_2, l_3, l_4, l_5, l_6, l_7, l_8, l_9, l_10, l_11, l_12, l_13, l_14, l_15, l_16, l_17, l_18, l_19, l_20, l_21, l_22, l_23, l_24, l_25, l_26, l_27, l_30, l_31, l_32, l_40, l_48, l_57, l_59, l_60, l_61, l_62, l_64, l_83, l_90, l_97, l_99, l_100, l_108, l_115, l_122, l_123, l_127, l_128, l_131, l_135, l_200, l_255, l_256, l_300, l_487, l_495, l_900, l_999, l_1000, l_1700, l_1792, l_1980, l_2048, l_2475, l_2970, l_3121, l_9999, l_10000, l_11351, l_65536, l_100000, l_1000000, ↓l_m1, l_neg, nI_add, pk_mul, pk_sub, q_leT, q_leF, q_ltT, q_ltF, q_eqT, q_eqF, q_m1e, q_m1e2, q_m1lt, q_m1le, q_m1nl, q_m1nle, q_m1s, q_ix, q_jat, q_jput, q_min1, q_min2, q_max1, q_max2, q_or0, q_0or, q_bs, if_true, if_false, true_and, and_true, false_and, and_false, not_true_eq_false, not_false_eq_true, eq_self, Bool.false_eq_true, q_z0, q_z1, e, jl, e2]
    · unfold X12_copies_b41
      simp (disch := omega) only [l_0, l_1, l_2, l_3, l_4, l_5, l_6, l_7, l_8, l_9, l_10, l_11, l_12, l_13, l_14, l_15, l_16, l_17, l_18, l_19, l_20, l_21, l_22, l_23, l_24, l_25, l_26, l_27, l_30, l_31, l_32, l_40, l_48, l_57, l_59, l_60, l_61, l_62, l_64, l_83, l_90, l_97, l_99, l_100, l_108, l_115, l_122, l_123, l_127, l_128, l_131, l_135, l_200, l_255, l_256, l_300, l_487, l_495, l_900, l_999, l_1000, l_1700, l_1792, l_1980, l_2048, l_2475, l_2970, l_3121, l_9999, l_10000, l_11351, l_65536, l_100000, l_1000000, ↓l_m1, l_neg, nI_add, pk_mul, pk_sub, q_leT, q_leF, q_ltT, q_ltF, q_eqT, q_eqF, q_m1e, q_m1e2, q_m1lt, q_m1le, q_m1nl, q_m1nle, q_m1s, q_ix, q_jat, q_jput, q_min1, q_min2, q_max1, q_max2, q_or0, q_0or, q_bs, if_true, if_false, true_and, and_true, false_and, and_false, not_true_eq_false, not_false_eq_true, eq_self, Bool.false_eq_true, q_z0, q_z1]
  rw [putN_0] at i1 i2
  rw [show ((0 : Int32), g) = (nI 0, g) from rfl, i1, q_bs, show ((0 : Int32), nm) = (nI 0, nm) from rfl, i2, q_bs]
def nestM (S U : vS) : vS := (sA (sI (sA (sI (sA (sI (sA (sI (sA (sA (sB (sI (sA (sA (sA (sI (sI (sI (sI (sI (sI (sI (sA (sI (sA (sI (sA (sI (sA (sI (sA (sA (sB (sI (sA (sA (sA (sI (sI (sI (sI (sI (sI (sI (sA (sI (sA (sI (sA (sI (sA (sI (sA (sA (sB (sI (sA (sA (sA (sI (sI (sI (sI (sI (sI (sI (sI (sI S 0 (U.1 1)) 5 (U.1 2)) 30 (U.1 3)) 31 (U.1 4)) 32 (U.1 5)) 33 (U.1 6)) 34 (U.1 7)) 35 (U.1 8)) 36 (U.1 9)) 18 (U.2.2.1 0)) 19 (U.2.2.1 1)) 20 (U.2.2.1 2)) 37 (U.1 10)) 2 (U.2.2.2 0)) 21 (U.2.2.1 3)) 22 (U.2.2.1 4)) 38 (U.1 11)) 23 (U.2.2.1 5)) 39 (U.1 12)) 24 (U.2.2.1 6)) 40 (U.1 13)) 25 (U.2.2.1 7)) 41 (U.1 14)) 26 (U.2.2.1 8)) 42 (U.1 15)) 43 (U.1 16)) 44 (U.1 17)) 45 (U.1 18)) 46 (U.1 19)) 47 (U.1 20)) 48 (U.1 21)) 27 (U.2.2.1 9)) 28 (U.2.2.1 10)) 29 (U.2.2.1 11)) 49 (U.1 22)) 3 (U.2.2.2 1)) 30 (U.2.2.1 12)) 31 (U.2.2.1 13)) 50 (U.1 23)) 32 (U.2.2.1 14)) 51 (U.1 24)) 33 (U.2.2.1 15)) 52 (U.1 25)) 34 (U.2.2.1 16)) 53 (U.1 26)) 35 (U.2.2.1 17)) 54 (U.1 27)) 55 (U.1 28)) 56 (U.1 29)) 57 (U.1 30)) 58 (U.1 31)) 59 (U.1 32)) 60 (U.1 33)) 36 (U.2.2.1 18)) 37 (U.2.2.1 19)) 38 (U.2.2.1 20)) 61 (U.1 34)) 4 (U.2.2.2 2)) 39 (U.2.2.1 21)) 40 (U.2.2.1 22)) 62 (U.1 35)) 41 (U.2.2.1 23)) 63 (U.1 36)) 42 (U.2.2.1 24)) 64 (U.1 37)) 43 (U.2.2.1 25)) 65 (U.1 38)) 44 (U.2.2.1 26))
theorem nm_m (S U : vS) : (nestM S U).1 0 = U.1 1 ∧ (nestM S U).1 5 = U.1 2 := ⟨rfl, rfl⟩
theorem nm_i (S U : vS) : ∀ i k, i < 3 → k < 12 → (nestM S U).1 (30 + 12 * i + k) = U.1 (3 + 12 * i + k) := by
  intro i k hi hk
  rcases (show i = 0 ∨ i = 1 ∨ i = 2 by omega) with rfl | rfl | rfl
  · rcases (show k = 0 ∨ k = 1 ∨ k = 2 ∨ k = 3 ∨ k = 4 ∨ k = 5 ∨ k = 6 ∨ k = 7 ∨ k = 8 ∨ k = 9 ∨ k = 10 ∨ k = 11 by omega) with rfl | rfl | rfl | rfl | rfl | rfl | rfl | rfl | rfl | rfl | rfl | rfl <;> rfl
  · rcases (show k = 0 ∨ k = 1 ∨ k = 2 ∨ k = 3 ∨ k = 4 ∨ k = 5 ∨ k = 6 ∨ k = 7 ∨ k = 8 ∨ k = 9 ∨ k = 10 ∨ k = 11 by omega) with rfl | rfl | rfl | rfl | rfl | rfl | rfl | rfl | rfl | rfl | rfl | rfl <;> rfl
  · rcases (show k = 0 ∨ k = 1 ∨ k = 2 ∨ k = 3 ∨ k = 4 ∨ k = 5 ∨ k = 6 ∨ k = 7 ∨ k = 8 ∨ k = 9 ∨ k = 10 ∨ k = 11 by omega) with rfl | rfl | rfl | rfl | rfl | rfl | rfl | rfl | rfl | rfl | rfl | rfl <;> rfl
theorem nm_a (S U : vS) : ∀ i k, i < 3 → k < 9 → (nestM S U).2.2.1 (18 + 9 * i + k) = U.2.2.1 (9 * i + k) := by
  intro i k hi hk
  rcases (show i = 0 ∨ i = 1 ∨ i = 2 by omega) with rfl | rfl | rfl
  · rcases (show k = 0 ∨ k = 1 ∨ k = 2 ∨ k = 3 ∨ k = 4 ∨ k = 5 ∨ k = 6 ∨ k = 7 ∨ k = 8 by omega) with rfl | rfl | rfl | rfl | rfl | rfl | rfl | rfl | rfl <;> rfl
  · rcases (show k = 0 ∨ k = 1 ∨ k = 2 ∨ k = 3 ∨ k = 4 ∨ k = 5 ∨ k = 6 ∨ k = 7 ∨ k = 8 by omega) with rfl | rfl | rfl | rfl | rfl | rfl | rfl | rfl | rfl <;> rfl
  · rcases (show k = 0 ∨ k = 1 ∨ k = 2 ∨ k = 3 ∨ k = 4 ∨ k = 5 ∨ k = 6 ∨ k = 7 ∨ k = 8 by omega) with rfl | rfl | rfl | rfl | rfl | rfl | rfl | rfl | rfl <;> rfl
theorem nm_l (S U : vS) : ∀ i, i < 3 → (nestM S U).2.2.2 (2 + i) = U.2.2.2 i := by
  intro i hi
  rcases (show i = 0 ∨ i = 1 ∨ i = 2 by omega) with rfl | rfl | rfl <;> rfl
theorem nm_o (S U : vS) : (∀ k, k ≠ 0 → k ≠ 5 → (k < 30 ∨ 66 ≤ k) → (nestM S U).1 k = S.1 k) ∧ (nestM S U).2.1 = S.2.1 ∧ (∀ k, (k < 18 ∨ 45 ≤ k) → (nestM S U).2.2.1 k = S.2.2.1 k) ∧ (∀ k, (k < 2 ∨ 5 ≤ k) → (nestM S U).2.2.2 k = S.2.2.2 k) := by
  refine ⟨fun k h0 h5 hk => ?_, ?_, fun k hk => ?_, fun k hk => ?_⟩
  · unfold nestM; simp (disch := omega) only [sI, sA, sB, up_n]
  · unfold nestM; simp only [sI, sA, sB]
  · unfold nestM; simp (disch := omega) only [sI, sA, sB, up_n]
  · unfold nestM; simp (disch := omega) only [sI, sA, sB, up_n]
def UP (m : Nat) (S U : vS) : Prop := U.1 0 = nI (m + 1) ∧ U.1 1 = nI (m + 1) ∧ U.1 2 = nI 0 ∧ (∀ i k, i < 3 → k < 12 → U.1 (3 + 12 * i + k) = if i = m then S.1 (6 + k) else S.1 (30 + 12 * i + k)) ∧ (∀ i j k, i < 3 → j < 9 → k < szs j → U.2.2.1 (9 * i + j) k = if i = m then S.2.2.1 j k else S.2.2.1 (18 + 9 * i + j) k) ∧ (∀ i k, i < 3 → k < 27 → U.2.2.2 i k = if i = m then S.2.2.2 0 k else S.2.2.2 (2 + i) k)
theorem mkU_0 {S : vS} (hm : S.1 0 = nI 0) (hz : isZ (S.1 10) = true) : ∃ U, (X11_mark (S.1 0) (S.1 5) (S.1 6) (S.1 7) (S.1 8) (S.1 9) (S.1 10) (S.1 11) (S.1 12) (S.2.2.1 0) (S.2.2.1 1) (S.2.2.1 2) (S.1 13) (S.2.2.2 0) (S.2.2.1 3) (S.2.2.1 4) (S.1 14) (S.2.2.1 5) (S.1 15) (S.2.2.1 6) (S.1 16) (S.2.2.1 7) (S.1 17) (S.2.2.1 8) (S.1 30) (S.1 31) (S.1 32) (S.1 33) (S.1 34) (S.1 35) (S.1 36) (S.2.2.1 18) (S.2.2.1 19) (S.2.2.1 20) (S.1 37) (S.2.2.2 2) (S.2.2.1 21) (S.2.2.1 22) (S.1 38) (S.2.2.1 23) (S.1 39) (S.2.2.1 24) (S.1 40) (S.2.2.1 25) (S.1 41) (S.2.2.1 26) (S.1 42) (S.1 43) (S.1 44) (S.1 45) (S.1 46) (S.1 47) (S.1 48) (S.2.2.1 27) (S.2.2.1 28) (S.2.2.1 29) (S.1 49) (S.2.2.2 3) (S.2.2.1 30) (S.2.2.1 31) (S.1 50) (S.2.2.1 32) (S.1 51) (S.2.2.1 33) (S.1 52) (S.2.2.1 34) (S.1 53) (S.2.2.1 35) (S.1 54) (S.1 55) (S.1 56) (S.1 57) (S.1 58) (S.1 59) (S.1 60) (S.2.2.1 36) (S.2.2.1 37) (S.2.2.1 38) (S.1 61) (S.2.2.2 4) (S.2.2.1 39) (S.2.2.1 40) (S.1 62) (S.2.2.1 41) (S.1 63) (S.2.2.1 42) (S.1 64) (S.2.2.1 43) (S.1 65) (S.2.2.1 44)) = some U ∧ UP 0 S U := by
  unfold X11_mark
  rw [hm, if_pos (show nI 0 < (3 : Int32) by decide), if_pos (show nI 0 = (0 : Int32) from rfl), copy_e _ _ _ _ _ _ _ _ _ _ _ _ _ _ _ _ _ _ _ _ _ _ _ _ _ _ _ _ _ _ _ _ _ _ _ _ _ _ _ _ _ _ _ _ hz, q_bs]
  unfold X11_answer
  rw [q_bs]
  refine ⟨_, rfl, rfl, rfl, rfl, fun i k h1 h2 => ?_, fun i j k h1 h2 h3 => ?_, fun i k h1 h2 => ?_⟩
  · rcases (show i = 0 ∨ i = 1 ∨ i = 2 by omega) with rfl | rfl | rfl
    · rcases (show k = 0 ∨ k = 1 ∨ k = 2 ∨ k = 3 ∨ k = 4 ∨ k = 5 ∨ k = 6 ∨ k = 7 ∨ k = 8 ∨ k = 9 ∨ k = 10 ∨ k = 11 by omega) with rfl | rfl | rfl | rfl | rfl | rfl | rfl | rfl | rfl | rfl | rfl | rfl <;> rfl
    · rcases (show k = 0 ∨ k = 1 ∨ k = 2 ∨ k = 3 ∨ k = 4 ∨ k = 5 ∨ k = 6 ∨ k = 7 ∨ k = 8 ∨ k = 9 ∨ k = 10 ∨ k = 11 by omega) with rfl | rfl | rfl | rfl | rfl | rfl | rfl | rfl | rfl | rfl | rfl | rfl <;> rfl
    · rcases (show k = 0 ∨ k = 1 ∨ k = 2 ∨ k = 3 ∨ k = 4 ∨ k = 5 ∨ k = 6 ∨ k = 7 ∨ k = 8 ∨ k = 9 ∨ k = 10 ∨ k = 11 by omega) with rfl | rfl | rfl | rfl | rfl | rfl | rfl | rfl | rfl | rfl | rfl | rfl <;> rfl
  · rcases (show i = 0 ∨ i = 1 ∨ i = 2 by omega) with rfl | rfl | rfl
    · rcases (show j = 0 ∨ j = 1 ∨ j = 2 ∨ j = 3 ∨ j = 4 ∨ j = 5 ∨ j = 6 ∨ j = 7 ∨ j = 8 by omega) with rfl | rfl | rfl | rfl | rfl | rfl | rfl | rfl | rfl <;> exact cp_in h3
    · rcases (show j = 0 ∨ j = 1 ∨ j = 2 ∨ j = 3 ∨ j = 4 ∨ j = 5 ∨ j = 6 ∨ j = 7 ∨ j = 8 by omega) with rfl | rfl | rfl | rfl | rfl | rfl | rfl | rfl | rfl <;> rfl
    · rcases (show j = 0 ∨ j = 1 ∨ j = 2 ∨ j = 3 ∨ j = 4 ∨ j = 5 ∨ j = 6 ∨ j = 7 ∨ j = 8 by omega) with rfl | rfl | rfl | rfl | rfl | rfl | rfl | rfl | rfl <;> rfl
  · rcases (show i = 0 ∨ i = 1 ∨ i = 2 by omega) with rfl | rfl | rfl
    · exact cp_in h2
    · rfl
    · rfl
theorem mkU_1 {S : vS} (hm : S.1 0 = nI 1) (hz : isZ (S.1 10) = true) : ∃ U, (X11_mark (S.1 0) (S.1 5) (S.1 6) (S.1 7) (S.1 8) (S.1 9) (S.1 10) (S.1 11) (S.1 12) (S.2.2.1 0) (S.2.2.1 1) (S.2.2.1 2) (S.1 13) (S.2.2.2 0) (S.2.2.1 3) (S.2.2.1 4) (S.1 14) (S.2.2.1 5) (S.1 15) (S.2.2.1 6) (S.1 16) (S.2.2.1 7) (S.1 17) (S.2.2.1 8) (S.1 30) (S.1 31) (S.1 32) (S.1 33) (S.1 34) (S.1 35) (S.1 36) (S.2.2.1 18) (S.2.2.1 19) (S.2.2.1 20) (S.1 37) (S.2.2.2 2) (S.2.2.1 21) (S.2.2.1 22) (S.1 38) (S.2.2.1 23) (S.1 39) (S.2.2.1 24) (S.1 40) (S.2.2.1 25) (S.1 41) (S.2.2.1 26) (S.1 42) (S.1 43) (S.1 44) (S.1 45) (S.1 46) (S.1 47) (S.1 48) (S.2.2.1 27) (S.2.2.1 28) (S.2.2.1 29) (S.1 49) (S.2.2.2 3) (S.2.2.1 30) (S.2.2.1 31) (S.1 50) (S.2.2.1 32) (S.1 51) (S.2.2.1 33) (S.1 52) (S.2.2.1 34) (S.1 53) (S.2.2.1 35) (S.1 54) (S.1 55) (S.1 56) (S.1 57) (S.1 58) (S.1 59) (S.1 60) (S.2.2.1 36) (S.2.2.1 37) (S.2.2.1 38) (S.1 61) (S.2.2.2 4) (S.2.2.1 39) (S.2.2.1 40) (S.1 62) (S.2.2.1 41) (S.1 63) (S.2.2.1 42) (S.1 64) (S.2.2.1 43) (S.1 65) (S.2.2.1 44)) = some U ∧ UP 1 S U := by
  unfold X11_mark
  rw [hm, if_pos (show nI 1 < (3 : Int32) by decide), if_neg (show ¬ nI 1 = (0 : Int32) by decide), if_pos (show nI 1 = (1 : Int32) from rfl), copy_e _ _ _ _ _ _ _ _ _ _ _ _ _ _ _ _ _ _ _ _ _ _ _ _ _ _ _ _ _ _ _ _ _ _ _ _ _ _ _ _ _ _ _ _ hz, q_bs]
  unfold X11_answer
  rw [q_bs]
  refine ⟨_, rfl, rfl, rfl, rfl, fun i k h1 h2 => ?_, fun i j k h1 h2 h3 => ?_, fun i k h1 h2 => ?_⟩
  · rcases (show i = 0 ∨ i = 1 ∨ i = 2 by omega) with rfl | rfl | rfl
    · rcases (show k = 0 ∨ k = 1 ∨ k = 2 ∨ k = 3 ∨ k = 4 ∨ k = 5 ∨ k = 6 ∨ k = 7 ∨ k = 8 ∨ k = 9 ∨ k = 10 ∨ k = 11 by omega) with rfl | rfl | rfl | rfl | rfl | rfl | rfl | rfl | rfl | rfl | rfl | rfl <;> rfl
    · rcases (show k = 0 ∨ k = 1 ∨ k = 2 ∨ k = 3 ∨ k = 4 ∨ k = 5 ∨ k = 6 ∨ k = 7 ∨ k = 8 ∨ k = 9 ∨ k = 10 ∨ k = 11 by omega) with rfl | rfl | rfl | rfl | rfl | rfl | rfl | rfl | rfl | rfl | rfl | rfl <;> rfl
    · rcases (show k = 0 ∨ k = 1 ∨ k = 2 ∨ k = 3 ∨ k = 4 ∨ k = 5 ∨ k = 6 ∨ k = 7 ∨ k = 8 ∨ k = 9 ∨ k = 10 ∨ k = 11 by omega) with rfl | rfl | rfl | rfl | rfl | rfl | rfl | rfl | rfl | rfl | rfl | rfl <;> rfl
  · rcases (show i = 0 ∨ i = 1 ∨ i = 2 by omega) with rfl | rfl | rfl
    · rcases (show j = 0 ∨ j = 1 ∨ j = 2 ∨ j = 3 ∨ j = 4 ∨ j = 5 ∨ j = 6 ∨ j = 7 ∨ j = 8 by omega) with rfl | rfl | rfl | rfl | rfl | rfl | rfl | rfl | rfl <;> rfl
    · rcases (show j = 0 ∨ j = 1 ∨ j = 2 ∨ j = 3 ∨ j = 4 ∨ j = 5 ∨ j = 6 ∨ j = 7 ∨ j = 8 by omega) with rfl | rfl | rfl | rfl | rfl | rfl | rfl | rfl | rfl <;> exact cp_in h3
    · rcases (show j = 0 ∨ j = 1 ∨ j = 2 ∨ j = 3 ∨ j = 4 ∨ j = 5 ∨ j = 6 ∨ j = 7 ∨ j = 8 by omega) with rfl | rfl | rfl | rfl | rfl | rfl | rfl | rfl | rfl <;> rfl
  · rcases (show i = 0 ∨ i = 1 ∨ i = 2 by omega) with rfl | rfl | rfl
    · rfl
    · exact cp_in h2
    · rfl
theorem mkU_2 {S : vS} (hm : S.1 0 = nI 2) (hz : isZ (S.1 10) = true) : ∃ U, (X11_mark (S.1 0) (S.1 5) (S.1 6) (S.1 7) (S.1 8) (S.1 9) (S.1 10) (S.1 11) (S.1 12) (S.2.2.1 0) (S.2.2.1 1) (S.2.2.1 2) (S.1 13) (S.2.2.2 0) (S.2.2.1 3) (S.2.2.1 4) (S.1 14) (S.2.2.1 5) (S.1 15) (S.2.2.1 6) (S.1 16) (S.2.2.1 7) (S.1 17) (S.2.2.1 8) (S.1 30) (S.1 31) (S.1 32) (S.1 33) (S.1 34) (S.1 35) (S.1 36) (S.2.2.1 18) (S.2.2.1 19) (S.2.2.1 20) (S.1 37) (S.2.2.2 2) (S.2.2.1 21) (S.2.2.1 22) (S.1 38) (S.2.2.1 23) (S.1 39) (S.2.2.1 24) (S.1 40) (S.2.2.1 25) (S.1 41) (S.2.2.1 26) (S.1 42) (S.1 43) (S.1 44) (S.1 45) (S.1 46) (S.1 47) (S.1 48) (S.2.2.1 27) (S.2.2.1 28) (S.2.2.1 29) (S.1 49) (S.2.2.2 3) (S.2.2.1 30) (S.2.2.1 31) (S.1 50) (S.2.2.1 32) (S.1 51) (S.2.2.1 33) (S.1 52) (S.2.2.1 34) (S.1 53) (S.2.2.1 35) (S.1 54) (S.1 55) (S.1 56) (S.1 57) (S.1 58) (S.1 59) (S.1 60) (S.2.2.1 36) (S.2.2.1 37) (S.2.2.1 38) (S.1 61) (S.2.2.2 4) (S.2.2.1 39) (S.2.2.1 40) (S.1 62) (S.2.2.1 41) (S.1 63) (S.2.2.1 42) (S.1 64) (S.2.2.1 43) (S.1 65) (S.2.2.1 44)) = some U ∧ UP 2 S U := by
  unfold X11_mark
  rw [hm, if_pos (show nI 2 < (3 : Int32) by decide), if_neg (show ¬ nI 2 = (0 : Int32) by decide), if_neg (show ¬ nI 2 = (1 : Int32) by decide), if_pos (show nI 2 = (2 : Int32) from rfl), copy_e _ _ _ _ _ _ _ _ _ _ _ _ _ _ _ _ _ _ _ _ _ _ _ _ _ _ _ _ _ _ _ _ _ _ _ _ _ _ _ _ _ _ _ _ hz, q_bs]
  unfold X11_answer
  rw [q_bs]
  refine ⟨_, rfl, rfl, rfl, rfl, fun i k h1 h2 => ?_, fun i j k h1 h2 h3 => ?_, fun i k h1 h2 => ?_⟩
  · rcases (show i = 0 ∨ i = 1 ∨ i = 2 by omega) with rfl | rfl | rfl
    · rcases (show k = 0 ∨ k = 1 ∨ k = 2 ∨ k = 3 ∨ k = 4 ∨ k = 5 ∨ k = 6 ∨ k = 7 ∨ k = 8 ∨ k = 9 ∨ k = 10 ∨ k = 11 by omega) with rfl | rfl | rfl | rfl | rfl | rfl | rfl | rfl | rfl | rfl | rfl | rfl <;> rfl
    · rcases (show k = 0 ∨ k = 1 ∨ k = 2 ∨ k = 3 ∨ k = 4 ∨ k = 5 ∨ k = 6 ∨ k = 7 ∨ k = 8 ∨ k = 9 ∨ k = 10 ∨ k = 11 by omega) with rfl | rfl | rfl | rfl | rfl | rfl | rfl | rfl | rfl | rfl | rfl | rfl <;> rfl
    · rcases (show k = 0 ∨ k = 1 ∨ k = 2 ∨ k = 3 ∨ k = 4 ∨ k = 5 ∨ k = 6 ∨ k = 7 ∨ k = 8 ∨ k = 9 ∨ k = 10 ∨ k = 11 by omega) with rfl | rfl | rfl | rfl | rfl | rfl | rfl | rfl | rfl | rfl | rfl | rfl <;> rfl
  · rcases (show i = 0 ∨ i = 1 ∨ i = 2 by omega) with rfl | rfl | rfl
    · rcases (show j = 0 ∨ j = 1 ∨ j = 2 ∨ j = 3 ∨ j = 4 ∨ j = 5 ∨ j = 6 ∨ j = 7 ∨ j = 8 by omega) with rfl | rfl | rfl | rfl | rfl | rfl | rfl | rfl | rfl <;> rfl
    · rcases (show j = 0 ∨ j = 1 ∨ j = 2 ∨ j = 3 ∨ j = 4 ∨ j = 5 ∨ j = 6 ∨ j = 7 ∨ j = 8 by omega) with rfl | rfl | rfl | rfl | rfl | rfl | rfl | rfl | rfl <;> rfl
    · rcases (show j = 0 ∨ j = 1 ∨ j = 2 ∨ j = 3 ∨ j = 4 ∨ j = 5 ∨ j = 6 ∨ j = 7 ∨ j = 8 by omega) with rfl | rfl | rfl | rfl | rfl | rfl | rfl | rfl | rfl <;> exact cp_in h3
  · rcases (show i = 0 ∨ i = 1 ∨ i = 2 by omega) with rfl | rfl | rfl
    · rfl
    · rfl
    · exact cp_in h2
theorem mkU_full {S : vS} (hm : S.1 0 = nI 3) : ∃ U, (X11_mark (S.1 0) (S.1 5) (S.1 6) (S.1 7) (S.1 8) (S.1 9) (S.1 10) (S.1 11) (S.1 12) (S.2.2.1 0) (S.2.2.1 1) (S.2.2.1 2) (S.1 13) (S.2.2.2 0) (S.2.2.1 3) (S.2.2.1 4) (S.1 14) (S.2.2.1 5) (S.1 15) (S.2.2.1 6) (S.1 16) (S.2.2.1 7) (S.1 17) (S.2.2.1 8) (S.1 30) (S.1 31) (S.1 32) (S.1 33) (S.1 34) (S.1 35) (S.1 36) (S.2.2.1 18) (S.2.2.1 19) (S.2.2.1 20) (S.1 37) (S.2.2.2 2) (S.2.2.1 21) (S.2.2.1 22) (S.1 38) (S.2.2.1 23) (S.1 39) (S.2.2.1 24) (S.1 40) (S.2.2.1 25) (S.1 41) (S.2.2.1 26) (S.1 42) (S.1 43) (S.1 44) (S.1 45) (S.1 46) (S.1 47) (S.1 48) (S.2.2.1 27) (S.2.2.1 28) (S.2.2.1 29) (S.1 49) (S.2.2.2 3) (S.2.2.1 30) (S.2.2.1 31) (S.1 50) (S.2.2.1 32) (S.1 51) (S.2.2.1 33) (S.1 52) (S.2.2.1 34) (S.1 53) (S.2.2.1 35) (S.1 54) (S.1 55) (S.1 56) (S.1 57) (S.1 58) (S.1 59) (S.1 60) (S.2.2.1 36) (S.2.2.1 37) (S.2.2.1 38) (S.1 61) (S.2.2.2 4) (S.2.2.1 39) (S.2.2.1 40) (S.1 62) (S.2.2.1 41) (S.1 63) (S.2.2.1 42) (S.1 64) (S.2.2.1 43) (S.1 65) (S.2.2.1 44)) = some U ∧ U.1 0 = m1 ∧ U.1 1 = nI 3 ∧ U.1 2 = nI 4 ∧ (∀ i k, i < 3 → k < 12 → U.1 (3 + 12 * i + k) = S.1 (30 + 12 * i + k)) ∧ (∀ i j, i < 3 → j < 9 → U.2.2.1 (9 * i + j) = S.2.2.1 (18 + 9 * i + j)) ∧ (∀ i, i < 3 → U.2.2.2 i = S.2.2.2 (2 + i)) := by
  unfold X11_mark
  rw [hm, if_neg (show ¬ nI 3 < (3 : Int32) by decide)]
  unfold X11_none
  rw [q_bs]
  refine ⟨_, rfl, rfl, rfl, rfl, fun i k h1 h2 => ?_, fun i j h1 h2 => ?_, fun i h1 => ?_⟩
  · rcases (show i = 0 ∨ i = 1 ∨ i = 2 by omega) with rfl | rfl | rfl
    · rcases (show k = 0 ∨ k = 1 ∨ k = 2 ∨ k = 3 ∨ k = 4 ∨ k = 5 ∨ k = 6 ∨ k = 7 ∨ k = 8 ∨ k = 9 ∨ k = 10 ∨ k = 11 by omega) with rfl | rfl | rfl | rfl | rfl | rfl | rfl | rfl | rfl | rfl | rfl | rfl <;> rfl
    · rcases (show k = 0 ∨ k = 1 ∨ k = 2 ∨ k = 3 ∨ k = 4 ∨ k = 5 ∨ k = 6 ∨ k = 7 ∨ k = 8 ∨ k = 9 ∨ k = 10 ∨ k = 11 by omega) with rfl | rfl | rfl | rfl | rfl | rfl | rfl | rfl | rfl | rfl | rfl | rfl <;> rfl
    · rcases (show k = 0 ∨ k = 1 ∨ k = 2 ∨ k = 3 ∨ k = 4 ∨ k = 5 ∨ k = 6 ∨ k = 7 ∨ k = 8 ∨ k = 9 ∨ k = 10 ∨ k = 11 by omega) with rfl | rfl | rfl | rfl | rfl | rfl | rfl | rfl | rfl | rfl | rfl | rfl <;> rfl
  · rcases (show i = 0 ∨ i = 1 ∨ i = 2 by omega) with rfl | rfl | rfl
    · rcases (show j = 0 ∨ j = 1 ∨ j = 2 ∨ j = 3 ∨ j = 4 ∨ j = 5 ∨ j = 6 ∨ j = 7 ∨ j = 8 by omega) with rfl | rfl | rfl | rfl | rfl | rfl | rfl | rfl | rfl <;> rfl
    · rcases (show j = 0 ∨ j = 1 ∨ j = 2 ∨ j = 3 ∨ j = 4 ∨ j = 5 ∨ j = 6 ∨ j = 7 ∨ j = 8 by omega) with rfl | rfl | rfl | rfl | rfl | rfl | rfl | rfl | rfl <;> rfl
    · rcases (show j = 0 ∨ j = 1 ∨ j = 2 ∨ j = 3 ∨ j = 4 ∨ j = 5 ∨ j = 6 ∨ j = 7 ∨ j = 8 by omega) with rfl | rfl | rfl | rfl | rfl | rfl | rfl | rfl | rfl <;> rfl
  · rcases (show i = 0 ∨ i = 1 ∨ i = 2 by omega) with rfl | rfl | rfl <;> rfl
theorem putN_in {α : Type} {f g : Nat → α} {a n k : Nat} (h : k < n) : putN f g a n (a + k) = g k := by
  unfold putN; rw [if_pos (by omega), Nat.add_sub_cancel_left]
theorem putN_out {α : Type} {f g : Nat → α} {a n k : Nat} (h : k < a ∨ a + n ≤ k) : putN f g a n k = f k := by
  unfold putN; rw [if_neg (by omega)]
def mkT (T : vS) (m : Nat) (g : Nat → Int32) (nm : Nat → Int64) : vS := sB (sA (sI (sI T 0 (nI 0)) 19 (nI m)) 0 g) 0 nm
theorem mark_rel {S T U : vS} {m : Nat} (h : Rel S T) (hm3 : m < 3) (hm : S.1 0 = nI m) (hp : UP m S U) : Rel (nestM S U) (mkT T (m + 1) (putN (T.2.2.1 0) (fun k => T.2.2.1 0 (495 * 0 + k)) (495 * (m + 1)) 495) (putN (T.2.2.2 0) (fun k => T.2.2.2 0 (27 * 0 + k)) (27 * (m + 1)) 27)) := by
  obtain ⟨a1, a2, a3, a4, a5, a6, ⟨m', b1, b2, b3, b4⟩, a8⟩ := h
  have e : m' = m := (nI_eq (by omega) (by omega)).mp (b2.symm.trans hm)
  subst e
  obtain ⟨p0, p1, p2, p3, p4, p5⟩ := hp
  obtain ⟨n0, n5⟩ := nm_m S U
  have ni := nm_i S U
  have na := nm_a S U
  have nl := nm_l S U
  obtain ⟨o1, o2, o3, o4⟩ := nm_o S U
  have gs : ∀ (k : Nat), (mkT T (m' + 1) (putN (T.2.2.1 0) (fun k => T.2.2.1 0 (495 * 0 + k)) (495 * (m' + 1)) 495) (putN (T.2.2.2 0) (fun k => T.2.2.2 0 (27 * 0 + k)) (27 * (m' + 1)) 27)).2.2.1 0 k = putN (T.2.2.1 0) (fun k => T.2.2.1 0 (495 * 0 + k)) (495 * (m' + 1)) 495 k := fun _ => rfl
  have ns : ∀ (k : Nat), (mkT T (m' + 1) (putN (T.2.2.1 0) (fun k => T.2.2.1 0 (495 * 0 + k)) (495 * (m' + 1)) 495) (putN (T.2.2.2 0) (fun k => T.2.2.2 0 (27 * 0 + k)) (27 * (m' + 1)) 27)).2.2.2 0 k = putN (T.2.2.2 0) (fun k => T.2.2.2 0 (27 * 0 + k)) (27 * (m' + 1)) 27 k := fun _ => rfl
  generalize hT : mkT T (m' + 1) (putN (T.2.2.1 0) (fun k => T.2.2.1 0 (495 * 0 + k)) (495 * (m' + 1)) 495) (putN (T.2.2.2 0) (fun k => T.2.2.2 0 (27 * 0 + k)) (27 * (m' + 1)) 27) = T2 at gs ns
  have t0 : T2.1 0 = nI 0 := by rw [← hT]; rfl
  have t1 : T2.1 1 = T.1 1 := by rw [← hT]; rfl
  have t7 : T2.1 7 = T.1 7 := by rw [← hT]; rfl
  have t8 : T2.1 8 = T.1 8 := by rw [← hT]; rfl
  have t18 : T2.1 18 = T.1 18 := by rw [← hT]; rfl
  have t19 : T2.1 19 = nI (m' + 1) := by rw [← hT]; rfl
  have tl : T2.2.1 = T.2.1 := by rw [← hT]; rfl
  have ta : ∀ k, k ≠ 0 → T2.2.2.1 k = T.2.2.1 k := fun k hk => by rw [← hT]; exact up_n _ _ hk
  have tb : T2.2.2.2 1 = T.2.2.2 1 := by rw [← hT]; rfl
  clear hT
  generalize nestM S U = S2 at n0 n5 ni na nl o1 o2 o3 o4
  refine ⟨?_, ?_, ?_, ?_, ?_, ?_, ⟨m' + 1, by omega, by rw [n0]; exact p1, t19, fun i hi => ?_⟩, ?_⟩
  · unfold R_st; rw [n5, p2, t0]
  · unfold R_fr; rw [o2, tl]; exact a2
  · unfold R_tr; rw [o4 6 (by omega), o3 57 (by omega), o3 58 (by omega), tb, ta 1 (by omega), ta 2 (by omega)]; exact a3
  · unfold R_tp; rw [o1 66 (by omega) (by omega) (by omega), o3 45 (by omega), t1, ta 3 (by omega)]; exact a4
  · unfold R_ft; rw [o1 2 (by omega) (by omega) (by omega), o1 3 (by omega) (by omega) (by omega), o1 4 (by omega) (by omega) (by omega), t7, t8]; exact a5
  · unfold R_lv; rw [o1 1 (by omega) (by omega) (by omega), o3 65 (by omega), t18, ta 13 (by omega)]; exact a6
  · by_cases q : i = m'
    · subst q
      obtain ⟨C, hC⟩ := a8
      refine ⟨C, CityOK_arr hC (fun k hk => ?_) (fun j k hj hk => ?_) (fun k hk => ?_) (fun k hk => ?_) (fun k hk => ?_)⟩
      · rw [show 6 + 12 * (i + 2) + k = 30 + 12 * i + k by omega, ni i k (by omega) hk, p3 i k (by omega) hk, if_pos rfl, show 6 + 12 * 0 + k = 6 + k by omega]
      · rw [show 9 * (i + 2) + j = 18 + 9 * i + j by omega, na i j (by omega) hj, p4 i j k (by omega) hj hk, if_pos rfl, show 9 * 0 + j = j by omega]
      · rw [show i + 2 = 2 + i by omega, nl i (by omega), p5 i k (by omega) hk, if_pos rfl]
      · rw [gs]; exact putN_in hk
      · rw [ns]; exact putN_in hk
    · obtain ⟨C, hC⟩ := b4 i (by omega)
      refine ⟨C, CityOK_arr hC (fun k hk => ?_) (fun j k hj hk => ?_) (fun k hk => ?_) (fun k hk => ?_) (fun k hk => ?_)⟩
      · rw [show 6 + 12 * (i + 2) + k = 30 + 12 * i + k by omega, ni i k (by omega) hk, p3 i k (by omega) hk, if_neg q]
      · rw [show 9 * (i + 2) + j = 18 + 9 * i + j by omega, na i j (by omega) hj, p4 i j k (by omega) hj hk, if_neg q]
      · rw [show i + 2 = 2 + i by omega, nl i (by omega), p5 i k (by omega) hk, if_neg q]
      · rw [gs]; exact putN_out (by omega)
      · rw [ns]; exact putN_out (by omega)
  · refine R_ci_gen a8 (fun k hk => o1 _ (by omega) (by omega) (by omega)) (fun k hk => o3 _ (by omega)) (o4 _ (by omega)) (fun k hk => by rw [gs]; exact putN_out (by omega)) (fun k hk => by rw [ns]; exact putN_out (by omega))
theorem ok_mark' {F : Nat} (hF : 2000 < F) : ok_mark F Rel := fun S T h => by
  have h' := h
  obtain ⟨C, hC⟩ := Rel_city h
  have hz : isZ (S.1 10) = true := wr_z hC.2.2.2.2.2.2
  obtain ⟨a1, a2, a3, a4, a5, a6, ⟨m, b1, b2, b3, b4⟩, a8⟩ := h'
  by_cases q : m = 3
  · subst q
    obtain ⟨U, u, p0, p1, p2, p3, p4, p5⟩ := mkU_full b2
    obtain ⟨n0, n5⟩ := nm_m S U
    have ni := nm_i S U
    have na := nm_a S U
    have nl := nm_l S U
    obtain ⟨o1, o2, o3, o4⟩ := nm_o S U
    refine ⟨m1, nestM S U, sI T 0 (nI 4), ?_, ?_, Rel_ask h ⟨fun k hk => ?_, ⟨by rw [o2], by rw [o2]⟩, fun k hk => ?_, fun k hk => ?_⟩ (EqT_0 T (nI 4)) ⟨fun k h1 h2 => o1 k (by omega) (by omega) (by omega), fun k hk => o3 k (by omega), o4 0 (by omega)⟩ (SamT_0 T (nI 4)) (by rw [n5, p2]; rfl)⟩
    · unfold xx_mark; rw [u, ← p0]; rfl
    · unfold xm_mark X12_mark X12_refuse
      rw [b3, if_pos (show nI 3 = (3 : Int32) from rfl), q_bs]
      have e3 : sB (sA (sI (sI T 0 (nI 4)) 19 (nI 3)) 0 (T.2.2.1 0)) 0 (T.2.2.2 0) = sI T 0 (nI 4) := by
        show (va_up (va_up T.1 0 (nI 4)) 19 (nI 3), T.2.1, va_up T.2.2.1 0 (T.2.2.1 0), va_up T.2.2.2 0 (T.2.2.2 0)) = (va_up T.1 0 (nI 4), T.2)
        rw [up_id, up_id]
        refine Prod.ext ?_ rfl
        funext k
        show va_up (va_up T.1 0 (nI 4)) 19 (nI 3) k = va_up T.1 0 (nI 4) k
        by_cases e : k = 19
        · subst e; rw [up_s, up_n _ _ (by omega), b3]
        · rw [up_n _ _ e]
      rw [← e3]; rfl
    · rcases hk with hk | hk
      · by_cases e : k = 0
        · rw [e, n0, p1, b2]
        · exact o1 k e (by omega) (by omega)
      · by_cases e : k = 66
        · exact o1 k (by omega) (by omega) (by omega)
        · have := ni ((k - 30) / 12) ((k - 30) % 12) (by omega) (by omega)
          rw [p3 _ _ (by omega) (by omega), show 30 + 12 * ((k - 30) / 12) + (k - 30) % 12 = k by omega] at this; exact this
    · by_cases e : 18 ≤ k ∧ k < 45
      · have := na ((k - 18) / 9) ((k - 18) % 9) (by omega) (by omega)
        rw [p4 _ _ (by omega) (by omega), show 18 + 9 * ((k - 18) / 9) + (k - 18) % 9 = k by omega] at this; exact this
      · exact o3 k (by omega)
    · by_cases e : k = 6
      · exact o4 k (by omega)
      · have := nl (k - 2) (by omega)
        rw [p5 _ (by omega), show 2 + (k - 2) = k by omega] at this; exact this
  · have x : ∃ U, xx_mark F S = some (nI (m + 1), nestM S U) ∧ UP m S U := by
      have aux : ∀ U, UP m S U → ∀ o : Option vS, o = some U → o.map (fun u => (u.1 0, nestM S u)) = some (nI (m + 1), nestM S U) := by
        rintro U hU o rfl; rw [← hU.1]; rfl
      rcases (show m = 0 ∨ m = 1 ∨ m = 2 by omega) with rfl | rfl | rfl
      · obtain ⟨U, u, p⟩ := mkU_0 b2 hz; exact ⟨U, aux U p _ u, p⟩
      · obtain ⟨U, u, p⟩ := mkU_1 b2 hz; exact ⟨U, aux U p _ u, p⟩
      · obtain ⟨U, u, p⟩ := mkU_2 b2 hz; exact ⟨U, aux U p _ u, p⟩
    obtain ⟨U, x1, x2⟩ := x
    refine ⟨nI (m + 1), nestM S U, _, x1, ?_, mark_rel h (by omega) b2 x2⟩
    unfold xm_mark X12_mark X12_gives
    rw [b3]
    have ce := copies_e (F := F) (a := 0) (b := m + 1) (g := T.2.2.1 0) (nm := T.2.2.2 0) (by omega) (by omega) (by omega) (by omega)
    simp (disch := omega) only [l_0, l_1, l_2, l_3, l_4, l_5, l_6, l_7, l_8, l_9, l_10, l_11, l_12, l_13, l_14, l_15, l_16, l_17, l_18, l_19, l_20, l_21, l_22, l_23, l_24, l_25, l_26, l_27, l_30, l_31, l_32, l_40, l_48, l_57, l_59, l_60, l_61, l_62, l_64, l_83, l_90, l_97, l_99, l_100, l_108, l_115, l_122, l_123, l_127, l_128, l_131, l_135, l_200, l_255, l_256, l_300, l_487, l_495, l_900, l_999, l_1000, l_1700, l_1792, l_1980, l_2048, l_2475, l_2970, l_3121, l_9999, l_10000, l_11351, l_65536, l_100000, l_1000000, ↓l_m1, l_neg, nI_add, pk_mul, pk_sub, q_leT, q_leF, q_ltT, q_ltF, q_eqT, q_eqF, q_m1e, q_m1e2, q_m1lt, q_m1le, q_m1nl, q_m1nle, q_m1s, q_ix, q_jat, q_jput, q_min1, q_min2, q_max1, q_max2, q_or0, q_0or, q_bs, if_true, if_false, true_and, and_true, false_and, and_false, not_true_eq_false, not_false_eq_true, eq_self, Bool.false_eq_true, q_z0, q_z1, ce]
    rfl
