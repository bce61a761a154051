/-! ===== PURE 13.h: things come about or fail ===== -/
/-- not by rfl: the kernel would else unfold both heads -/
theorem q_bs {α β : Type} (a : α) (f : α → Option β) : (some a).bind f = f a := by rw [Option.bind_some]
theorem MS_End {C : Cy} {g : Nat → Int32} {x v : Nat} (hM : MS C g) : MS (setC C 3 x 4 v) g := by
  obtain ⟨a0, a1, a2, a3, a4, a5, a6⟩ := hM
  refine ⟨fun k hk => ?_, fun r d hr hd => ?_, fun y hy h => ?_, fun y hy h => ?_, fun y d hy hd hd2 => ?_, fun y d hy hd => ?_, fun y d hy hd => ?_⟩
  · rw [setC_t C (by omega), a0 k hk]
  · rw [setC_t C (by omega)] at hr
    rw [setC_t C (by omega), a1 r d hr hd]
  · rw [setC_t C (by omega)] at hy h
    rw [setC_t C (by omega), a2 y hy h]
  · rw [setC_t C (by omega)] at hy h
    rw [setC_t C (by omega), a3 y hy h]
  · rw [setC_t C (by omega)] at hy
    rw [setC_t C (by omega), a4 y d hy hd hd2]
  · rw [setC_t C (by omega)] at hy
    rw [setC_c C (by omega), a5 y d hy hd]
  · rw [setC_t C (by omega)] at hy
    rw [setC_t C (by omega), a6 y d hy hd]
theorem Ok_Ec {C : Cy} {x c v : Nat} (ok : Ok C) (hc : 3 ≤ c) : Ok (setC C 2 x c v) := by
  obtain ⟨o0, oR, oE, oH, oW⟩ := ok
  refine ⟨?_, fun r hr => ?_, fun y hy => ?_, fun y hy => ?_, fun y hy => ?_⟩
  · simp only [setC_t C (show (0 : Nat) ≠ 2 by omega)]; exact o0
  · simp only [setC_t C (show (0 : Nat) ≠ 2 by omega), setC_t C (show (1 : Nat) ≠ 2 by omega)] at hr ⊢; exact oR r hr
  · simp only [setC_t C (show (0 : Nat) ≠ 2 by omega), setC_c C (show 0 ≠ c by omega), setC_c C (show 1 ≠ c by omega), setC_c C (show 2 ≠ c by omega)] at hy ⊢; exact oE y hy
  · simp only [setC_t C (show (0 : Nat) ≠ 2 by omega), setC_t C (show (3 : Nat) ≠ 2 by omega)] at hy ⊢; exact oH y hy
  · simp only [setC_t C (show (0 : Nat) ≠ 2 by omega), setC_t C (show (4 : Nat) ≠ 2 by omega)] at hy ⊢; exact oW y hy
/-- a column of a happening: it stays what it must be -/
theorem Ok_H {C : Cy} {x c v : Nat} (ok : Ok C) (h : (c = 0 ∧ v < C 0 0 0) ∨ (c = 1 ∧ v ≤ 9999) ∨ (c = 2 ∧ 1 ≤ v ∧ v ≤ 4) ∨ (c = 3 ∧ v ≤ 2) ∨ c = 4) : Ok (setC C 3 x c v) := by
  obtain ⟨o0, oR, oE, oH, oW⟩ := ok
  refine ⟨?_, fun r hr => ?_, fun y hy => ?_, fun y hy => ?_, fun y hy => ?_⟩
  · simp only [setC_t C (show (0 : Nat) ≠ 3 by omega)]; exact o0
  · simp only [setC_t C (show (0 : Nat) ≠ 3 by omega), setC_t C (show (1 : Nat) ≠ 3 by omega)] at hr ⊢; exact oR r hr
  · simp only [setC_t C (show (0 : Nat) ≠ 3 by omega), setC_t C (show (2 : Nat) ≠ 3 by omega)] at hy ⊢; exact oE y hy
  · simp only [setC_t C (show (0 : Nat) ≠ 3 by omega)] at hy ⊢
    have e := oH y hy
    by_cases q : y = x
    · subst q
      unfold setC
      rcases h with ⟨rfl, h⟩ | ⟨rfl, h⟩ | ⟨rfl, h⟩ | ⟨rfl, h⟩ | rfl
      · simp only [true_and, if_true, Nat.reduceEqDiff, if_false]; omega
      · simp only [true_and, if_true, Nat.reduceEqDiff, if_false, Nat.zero_ne_one]; omega
      · simp only [true_and, if_true, Nat.reduceEqDiff, if_false, Nat.reduceEqDiff]
        refine ⟨?_, ?_, ?_, ?_, ?_⟩ <;> first | omega | (rw [if_neg (by omega)]; omega)
      · simp only [true_and, if_true, Nat.reduceEqDiff, if_false, Nat.reduceEqDiff]
        refine ⟨?_, ?_, ?_, ?_, ?_⟩ <;> first | omega | (rw [if_neg (by omega)]; omega)
      · simp only [true_and, if_true, Nat.reduceEqDiff, if_false, Nat.reduceEqDiff]
        refine ⟨?_, ?_, ?_, ?_, ?_⟩ <;> first | omega | (rw [if_neg (by omega)]; omega)
    · simp only [setC_r C q]; exact e
  · simp only [setC_t C (show (0 : Nat) ≠ 3 by omega), setC_t C (show (4 : Nat) ≠ 3 by omega)] at hy ⊢; exact oW y hy
/-- wages -/
def pay1 (C : Cy) (p : Nat → Bool) (v x : Nat) : Cy := if p x then setC (setC C 2 x 3 (C 2 x 3 + v)) 2 x 4 (C 2 x 4 + 1) else C
def payN (C : Cy) (p : Nat → Bool) (v : Nat) : Nat → Cy
  | 0 => C
  | n + 1 => pay1 (payN C p v n) p v n
theorem pay1_t (C : Cy) {p : Nat → Bool} {v x t r c : Nat} (h : t ≠ 2 ∨ c < 3) : pay1 C p v x t r c = C t r c := by
  unfold pay1
  by_cases q : p x = true
  · rw [if_pos q]; unfold setC; rw [if_neg (by omega), if_neg (by omega)]
  · rw [if_neg q]
theorem payN_t (C : Cy) {p : Nat → Bool} {v t r c : Nat} (h : t ≠ 2 ∨ c < 3) : ∀ n, payN C p v n t r c = C t r c
  | 0 => rfl
  | n + 1 => by rw [payN, pay1_t _ h, payN_t C h n]
theorem pay1_ok {C : Cy} {p : Nat → Bool} {v x : Nat} (ok : Ok C) : Ok (pay1 C p v x) := by
  unfold pay1
  by_cases q : p x = true
  · rw [if_pos q]; exact Ok_Ec (Ok_Ec ok (by omega)) (by omega)
  · rw [if_neg q]; exact ok
theorem payN_ok {C : Cy} {p : Nat → Bool} {v : Nat} (ok : Ok C) : ∀ n, Ok (payN C p v n)
  | 0 => ok
  | n + 1 => pay1_ok (payN_ok ok n)
theorem setBit {p : Nat → Bool} {n x : Nat} (hx : x < n) : (setOf p n).testBit x = p x := by rw [setOf_bit, decide_eq_true hx, Bool.true_and]
theorem c_pay {F w k : Nat} {C : Cy} {xf : Nat → Int32} {p : Nat → Bool} (ok : Ok C) (hX : CX C xf) (hF : 100 < F) :
    ∃ xf2, X0_pay F (nI w) (nI (C 0 0 2)) xf (nI (setOf p (C 0 0 2))) (nI k) = some xf2 ∧ CX (payN C p (w * k) (C 0 0 2)) xf2 := by
  have n7 := ok.1
  have hs : setOf p (C 0 0 2) < 2 ^ 31 := setOf31 (by omega)
  obtain ⟨xf2, h1, h2⟩ := it_rel (b := X0_pay_b2 F (nI w) (nI (C 0 0 2)) (nI (setOf p (C 0 0 2))) (nI k)) (C 0 0 2)
    (fun i s => ∃ f, s = (nI i, f) ∧ CX (payN C p (w * k) i) f) (fun f => CX (payN C p (w * k) (C 0 0 2)) f) (fun i s hi hs1 => by
      obtain ⟨f, rfl, hf⟩ := hs1
      have z := payN_t C (p := p) (v := w * k) (t := 0) (r := 0) (c := 2) (by omega) i
      have y3 := hf i 3 (by rw [z]; exact hi) (by omega)
      have y4 := hf i 4 (by rw [z]; exact hi) (by omega)
      rw [payN]
      unfold pay1 X0_pay_b2 X0_pay_j47
      by_cases q : p i = true
      · have hb : (setOf p (C 0 0 2)).testBit i = true := by rw [setBit hi]; exact q
        rw [if_pos q]
        refine Or.inl ⟨_, ?_, upd (upd f (i * 5 + 3) (nI (payN C p (w * k) i 2 i 3 + w * k))) (i * 5 + 4) (nI (payN C p (w * k) i 2 i 4 + 1)), rfl, CX_upd (CX_upd hf (by omega)) (by omega)⟩
        simp (disch := omega) only [l_0, l_1, l_2, l_3, l_4, l_5, l_6, l_7, l_8, l_9, l_10, l_11, l_12, l_13, l_14, l_15, l_16, l_17, l_18, l_19, l_20, l_21, l_22, l_23, l_24, l_25, l_26, l_27, l_30, l_31, l_32, l_40, l_48, l_57, l_59, l_60, l_61, l_62, l_64, l_83, l_90, l_97, l_99, l_100, l_108, l_115, l_122, l_123, l_127, l_128, l_131, l_135, l_200, l_255, l_256, l_300, l_487, l_495, l_900, l_999, l_1000, l_1700, l_1792, l_1980, l_2048, l_2475, l_2970, l_3121, l_9999, l_10000, l_11351, l_65536, l_100000, l_1000000, ↓l_m1, l_neg, nI_add, pk_mul, pk_sub, q_leT, q_leF, q_ltT, q_ltF, q_eqT, q_eqF, q_m1e, q_m1e2, q_m1lt, q_m1le, q_m1nl, q_m1nle, q_m1s, q_ix, q_jat, q_jput, q_min1, q_min2, q_max1, q_max2, q_or0, q_0or, q_bs, if_true, if_false, true_and, and_true, false_and, and_false, not_true_eq_false, not_false_eq_true, eq_self, Bool.false_eq_true, q_z0, q_z1, q_get, q_set, q_raise, q_bitT hb hs, y3, y4, pk_un]
      · have hb : (setOf p (C 0 0 2)).testBit i = false := by rw [setBit hi]; exact ts_nt q
        rw [if_neg q]
        refine Or.inl ⟨_, ?_, f, rfl, hf⟩
        simp (disch := omega) only [l_0, l_1, l_2, l_3, l_4, l_5, l_6, l_7, l_8, l_9, l_10, l_11, l_12, l_13, l_14, l_15, l_16, l_17, l_18, l_19, l_20, l_21, l_22, l_23, l_24, l_25, l_26, l_27, l_30, l_31, l_32, l_40, l_48, l_57, l_59, l_60, l_61, l_62, l_64, l_83, l_90, l_97, l_99, l_100, l_108, l_115, l_122, l_123, l_127, l_128, l_131, l_135, l_200, l_255, l_256, l_300, l_487, l_495, l_900, l_999, l_1000, l_1700, l_1792, l_1980, l_2048, l_2475, l_2970, l_3121, l_9999, l_10000, l_11351, l_65536, l_100000, l_1000000, ↓l_m1, l_neg, nI_add, pk_mul, pk_sub, q_leT, q_leF, q_ltT, q_ltF, q_eqT, q_eqF, q_m1e, q_m1e2, q_m1lt, q_m1le, q_m1nl, q_m1nle, q_m1s, q_ix, q_jat, q_jput, q_min1, q_min2, q_max1, q_max2, q_or0, q_0or, q_bs, if_true, if_false, true_and, and_true, false_and, and_false, not_true_eq_false, not_false_eq_true, eq_self, Bool.false_eq_true, q_z0, q_z1, q_get, q_set, q_raise, q_bitF hb hs]) (fun s hs1 => by
      obtain ⟨f, rfl, hf⟩ := hs1
      refine ⟨f, ?_, hf⟩
      unfold X0_pay_b2
      simp (disch := omega) only [l_0, l_1, l_2, l_3, l_4, l_5, l_6, l_7, l_8, l_9, l_10, l_11, l_12, l_13, l_14, l_15, l_16, l_17, l_18, l_19, l_20, l_21, l_22, l_23, l_24, l_25, l_26, l_27, l_30, l_31, l_32, l_40, l_48, l_57, l_59, l_60, l_61, l_62, l_64, l_83, l_90, l_97, l_99, l_100, l_108, l_115, l_122, l_123, l_127, l_128, l_131, l_135, l_200, l_255, l_256, l_300, l_487, l_495, l_900, l_999, l_1000, l_1700, l_1792, l_1980, l_2048, l_2475, l_2970, l_3121, l_9999, l_10000, l_11351, l_65536, l_100000, l_1000000, ↓l_m1, l_neg, nI_add, pk_mul, pk_sub, q_leT, q_leF, q_ltT, q_ltF, q_eqT, q_eqF, q_m1e, q_m1e2, q_m1lt, q_m1le, q_m1nl, q_m1nle, q_m1s, q_ix, q_jat, q_jput, q_min1, q_min2, q_max1, q_max2, q_or0, q_0or, q_bs, if_true, if_false, true_and, and_true, false_and, and_false, not_true_eq_false, not_false_eq_true, eq_self, Bool.false_eq_true, q_z0, q_z1]) (s0 := (0, xf)) ⟨xf, rfl, hX⟩ (show C 0 0 2 < F by omega)
  refine ⟨xf2, ?_, h2⟩
  unfold X0_pay
  rw [h1]; rfl
theorem MS_pay1 {C : Cy} {g : Nat → Int32} {x a b : Nat} (ok : Ok C) (hM : MS C g) (hx : x < C 0 0 2) : MS (setC (setC C 2 x 3 a) 2 x 4 b) (upd (upd g (48 + 5 * x + 3) (nI a)) (48 + 5 * x + 4) (nI b)) := by
  have h1 := MS_Ec (v := a) ok hM hx (show 2 ≤ 3 by omega) (by omega)
  exact MS_Ec (Ok_Ec ok (by omega)) h1 (by rw [setC_t C (by omega)]; exact hx) (by omega) (by omega)
theorem m_pay {F h : Nat} {C : Cy} {g : Nat → Int32} {p : Nat → Bool} (ok : Ok C) (hM : MS C g) (hh : h < C 0 0 3) (hF : 100 < F) :
    ∃ g2, iter (X12_comesAbout_b53 F (nI h) (nI (setOf p (C 0 0 2))) (nI 1)) F (0, g) = some g2 ∧ MS (payN C p (C 0 0 5 * C 3 h 2) (C 0 0 2)) g2 ∧ Fr g g2 := by
  have n7 := ok.1
  have hs : setOf p (C 0 0 2) < 2 ^ 31 := setOf31 (by omega)
  obtain ⟨g2, h1, h2⟩ := it_rel (b := X12_comesAbout_b53 F (nI h) (nI (setOf p (C 0 0 2))) (nI 1)) (C 0 0 2)
    (fun i s => ∃ f, s = (nI i, f) ∧ MS (payN C p (C 0 0 5 * C 3 h 2) i) f ∧ Fr g f) (fun f => MS (payN C p (C 0 0 5 * C 3 h 2) (C 0 0 2)) f ∧ Fr g f) (fun i s hi hs1 => by
      obtain ⟨f, rfl, hf, hr⟩ := hs1
      have z := fun k => payN_t C (p := p) (v := C 0 0 5 * C 3 h 2) (t := 0) (r := 0) (c := k) (by omega) i
      have z3 := fun k => payN_t C (p := p) (v := C 0 0 5 * C 3 h 2) (t := 3) (r := h) (c := k) (by omega) i
      have okd := payN_ok (p := p) (v := C 0 0 5 * C 3 h 2) ok i
      have y3 := hf.2.2.2.2.1 i 3 (by rw [z]; exact hi) (by omega) (by omega)
      have y4 := hf.2.2.2.2.1 i 4 (by rw [z]; exact hi) (by omega) (by omega)
      have y5 : f 5 = nI (C 0 0 5) := by rw [hf.1 5 (by omega), z]
      have y2 : f 2 = nI (C 0 0 2) := by rw [hf.1 2 (by omega), z]
      have yh : X12_happeningOf f (nI h) (nI 2) = some (nI (C 3 h 2)) := by
        rw [m_H hf (by rw [z]; exact hh) (by rw [z]; omega) (by omega), z3]
      rw [payN]
      unfold pay1 X12_comesAbout_b53 X12_comesAbout_j125 X12_extraRow
      by_cases q : p i = true
      · have hb : (setOf p (C 0 0 2)).testBit i = true := by rw [setBit hi]; exact q
        rw [if_pos q]
        refine Or.inl ⟨_, ?_, upd (upd f (48 + 5 * i + 3) (nI (payN C p (C 0 0 5 * C 3 h 2) i 2 i 3 + C 0 0 5 * C 3 h 2))) (48 + 5 * i + 4) (nI (payN C p (C 0 0 5 * C 3 h 2) i 2 i 4 + 1)), rfl, MS_pay1 okd hf (by rw [z]; exact hi), Fr_upd' (Fr_upd' hr (by omega) (by omega)) (by omega) (by omega)⟩
        simp (disch := omega) only [l_0, l_1, l_2, l_3, l_4, l_5, l_6, l_7, l_8, l_9, l_10, l_11, l_12, l_13, l_14, l_15, l_16, l_17, l_18, l_19, l_20, l_21, l_22, l_23, l_24, l_25, l_26, l_27, l_30, l_31, l_32, l_40, l_48, l_57, l_59, l_60, l_61, l_62, l_64, l_83, l_90, l_97, l_99, l_100, l_108, l_115, l_122, l_123, l_127, l_128, l_131, l_135, l_200, l_255, l_256, l_300, l_487, l_495, l_900, l_999, l_1000, l_1700, l_1792, l_1980, l_2048, l_2475, l_2970, l_3121, l_9999, l_10000, l_11351, l_65536, l_100000, l_1000000, ↓l_m1, l_neg, nI_add, pk_mul, pk_sub, q_leT, q_leF, q_ltT, q_ltF, q_eqT, q_eqF, q_m1e, q_m1e2, q_m1lt, q_m1le, q_m1nl, q_m1nle, q_m1s, q_ix, q_jat, q_jput, q_min1, q_min2, q_max1, q_max2, q_or0, q_0or, q_bs, if_true, if_false, true_and, and_true, false_and, and_false, not_true_eq_false, not_false_eq_true, eq_self, Bool.false_eq_true, q_z0, q_z1, q_isInT hb hs, y2, y3, y4, y5, yh, pk_un]
      · have hb : (setOf p (C 0 0 2)).testBit i = false := by rw [setBit hi]; exact ts_nt q
        rw [if_neg q]
        refine Or.inl ⟨_, ?_, f, rfl, hf, hr⟩
        simp (disch := omega) only [l_0, l_1, l_2, l_3, l_4, l_5, l_6, l_7, l_8, l_9, l_10, l_11, l_12, l_13, l_14, l_15, l_16, l_17, l_18, l_19, l_20, l_21, l_22, l_23, l_24, l_25, l_26, l_27, l_30, l_31, l_32, l_40, l_48, l_57, l_59, l_60, l_61, l_62, l_64, l_83, l_90, l_97, l_99, l_100, l_108, l_115, l_122, l_123, l_127, l_128, l_131, l_135, l_200, l_255, l_256, l_300, l_487, l_495, l_900, l_999, l_1000, l_1700, l_1792, l_1980, l_2048, l_2475, l_2970, l_3121, l_9999, l_10000, l_11351, l_65536, l_100000, l_1000000, ↓l_m1, l_neg, nI_add, pk_mul, pk_sub, q_leT, q_leF, q_ltT, q_ltF, q_eqT, q_eqF, q_m1e, q_m1e2, q_m1lt, q_m1le, q_m1nl, q_m1nle, q_m1s, q_ix, q_jat, q_jput, q_min1, q_min2, q_max1, q_max2, q_or0, q_0or, q_bs, if_true, if_false, true_and, and_true, false_and, and_false, not_true_eq_false, not_false_eq_true, eq_self, Bool.false_eq_true, q_z0, q_z1, q_isInF hb hs, y2]) (fun s hs1 => by
      obtain ⟨f, rfl, hf, hr⟩ := hs1
      have z := fun k => payN_t C (p := p) (v := C 0 0 5 * C 3 h 2) (t := 0) (r := 0) (c := k) (by omega) (C 0 0 2)
      have y2 : f 2 = nI (C 0 0 2) := by rw [hf.1 2 (by omega), z]
      refine ⟨f, ?_, hf, hr⟩
      unfold X12_comesAbout_b53
      simp (disch := omega) only [l_0, l_1, l_2, l_3, l_4, l_5, l_6, l_7, l_8, l_9, l_10, l_11, l_12, l_13, l_14, l_15, l_16, l_17, l_18, l_19, l_20, l_21, l_22, l_23, l_24, l_25, l_26, l_27, l_30, l_31, l_32, l_40, l_48, l_57, l_59, l_60, l_61, l_62, l_64, l_83, l_90, l_97, l_99, l_100, l_108, l_115, l_122, l_123, l_127, l_128, l_131, l_135, l_200, l_255, l_256, l_300, l_487, l_495, l_900, l_999, l_1000, l_1700, l_1792, l_1980, l_2048, l_2475, l_2970, l_3121, l_9999, l_10000, l_11351, l_65536, l_100000, l_1000000, ↓l_m1, l_neg, nI_add, pk_mul, pk_sub, q_leT, q_leF, q_ltT, q_ltF, q_eqT, q_eqF, q_m1e, q_m1e2, q_m1lt, q_m1le, q_m1nl, q_m1nle, q_m1s, q_ix, q_jat, q_jput, q_min1, q_min2, q_max1, q_max2, q_or0, q_0or, q_bs, if_true, if_false, true_and, and_true, false_and, and_false, not_true_eq_false, not_false_eq_true, eq_self, Bool.false_eq_true, q_z0, q_z1, y2]) (s0 := (0, g)) ⟨g, rfl, hM, Fr_r g⟩ (show C 0 0 2 < F by omega)
  exact ⟨g2, h1, h2⟩
def setF (C : Cy) (h f : Nat) : Cy := setC (setC C 3 h 3 f) 3 h 4 (C 0 0 8)
theorem setF_t (C : Cy) {h f t r c : Nat} (q : t ≠ 3 ∨ c < 3) : setF C h f t r c = C t r c := by
  unfold setF setC; rw [if_neg (by omega), if_neg (by omega)]
theorem setF_r (C : Cy) {h f t r c : Nat} (q : r ≠ h) : setF C h f t r c = C t r c := by
  unfold setF; rw [setC_r _ q, setC_r _ q]
theorem setF_3 (C : Cy) {h f : Nat} : setF C h f 3 h 3 = f := by
  unfold setF; rw [setC_c _ (by omega), setC_s]
theorem setF_4 (C : Cy) {h f : Nat} : setF C h f 3 h 4 = C 0 0 8 := by
  unfold setF; rw [setC_s]
theorem setF_ok {C : Cy} {h f : Nat} (ok : Ok C) (hf : f ≤ 2) : Ok (setF C h f) := Ok_H (Ok_H ok (by omega)) (by omega)
def cntS (C : Cy) (c : Nat) : Nat := fb_ct (st C c) (C 0 0 2)
def befc (C : Cy) (h : Nat) : Bool := decide (C 3 h 3 = 0 ∧ C 3 h 1 = C 0 0 8)
def bef1 (C : Cy) (h : Nat) : Cy :=
  if befc C h then (if C 3 h 2 ≤ cntS C (C 3 h 0) then payN (setF C h 1) (st C (C 3 h 0)) (C 0 0 5 * C 3 h 2) (C 0 0 2) else setF C h 2) else C
theorem bef1_hap {C : Cy} {h : Nat} (q : befc C h = true) (q3 : C 3 h 2 ≤ cntS C (C 3 h 0)) : bef1 C h = payN (setF C h 1) (st C (C 3 h 0)) (C 0 0 5 * C 3 h 2) (C 0 0 2) := by unfold bef1; rw [if_pos q, if_pos q3]
theorem bef1_fail {C : Cy} {h : Nat} (q : befc C h = true) (q3 : ¬ C 3 h 2 ≤ cntS C (C 3 h 0)) : bef1 C h = setF C h 2 := by unfold bef1; rw [if_pos q, if_neg q3]
theorem bef1_no {C : Cy} {h : Nat} (q : befc C h = false) : bef1 C h = C := by unfold bef1; rw [q]; rfl
def befN (C : Cy) : Nat → Cy
  | 0 => C
  | n + 1 => bef1 (befN C n) n
def stirB (C : Cy) : Nat → Bool
  | 0 => false
  | n + 1 => stirB C n || befc (befN C n) n
/-- what coming about leaves as it is: all but wages, stood, fates, ends -/
theorem bef1_t (C : Cy) {h t r c : Nat} (q : (t ≠ 2 ∧ t ≠ 3) ∨ c < 3) : bef1 C h t r c = C t r c := by
  unfold bef1
  by_cases q1 : befc C h = true
  · rw [if_pos q1]
    by_cases q2 : C 3 h 2 ≤ cntS C (C 3 h 0)
    · rw [if_pos q2, payN_t _ (by omega), setF_t _ (by omega)]
    · rw [if_neg q2, setF_t _ (by omega)]
  · rw [if_neg q1]
theorem befN_t (C : Cy) {t r c : Nat} (q : (t ≠ 2 ∧ t ≠ 3) ∨ c < 3) : ∀ n, befN C n t r c = C t r c
  | 0 => rfl
  | n + 1 => by rw [befN, bef1_t _ q, befN_t C q n]
theorem bef1_ok {C : Cy} {h : Nat} (ok : Ok C) : Ok (bef1 C h) := by
  unfold bef1
  by_cases q1 : befc C h = true
  · rw [if_pos q1]
    by_cases q2 : C 3 h 2 ≤ cntS C (C 3 h 0)
    · rw [if_pos q2]; exact payN_ok (setF_ok ok (by omega)) _
    · rw [if_neg q2]; exact setF_ok ok (by omega)
  · rw [if_neg q1]; exact ok
theorem befN_ok {C : Cy} (ok : Ok C) : ∀ n, Ok (befN C n)
  | 0 => ok
  | n + 1 => bef1_ok (befN_ok ok n)
theorem befN_same (C : Cy) (n : Nat) : SameS C (befN C n) := ⟨befN_t C (by omega) n, befN_t C (by omega) n, fun r c => befN_t C (by omega) n⟩
theorem popc_st {C : Cy} (ok : Ok C) (c : Nat) : popc (stSet C c) = cntS C c := popc_setOf _ (by have := ok.1; omega)
theorem stSet_lt {C : Cy} (ok : Ok C) (c : Nat) : stSet C c < 128 := by
  have h := setOf_lt (st C c) (C 0 0 2)
  have h2 : 2 ^ C 0 0 2 ≤ 2 ^ 7 := Nat.pow_le_pow_right (by omega) (by have := ok.1; omega)
  unfold stSet; omega
theorem cntS_le {C : Cy} (ok : Ok C) (c : Nat) : cntS C c ≤ 7 := Nat.le_trans (fb_ct_le _ _) (by have := ok.1; omega)
theorem CX_F {C : Cy} {xf : Nat → Int32} {h f : Nat} (hX : CX C xf) : CX (setF C h f) xf := CX_o (CX_o hX (by omega) (by omega)) (by omega) (by omega)
theorem c_bef_no1 {F : Nat} {C : Cy} {xf hf : Nat → Int32} {h : Nat} (v : Int32) (ok : Ok C) (hH : CH C hf) (hh : h < C 0 0 3) (q1 : ¬ C 3 h 3 = 0) : X0_befall_b4 F (nI (C 0 0 5)) (nI (C 0 0 8)) (nI (C 0 0 2)) (nI (C 0 0 3)) (v, nI h, xf, hf) = some (.inl (v, nI (h + 1), xf, hf)) := by
  obtain ⟨o0, oR, oE, oH, oW⟩ := ok
  have e1 := oH h hh
  unfold X0_befall_b4 X0_befall_j129
  rw [c_tcF hH hh (by omega) q1 (by omega)]
  simp (disch := omega) only [l_0, l_1, l_2, l_3, l_4, l_5, l_6, l_7, l_8, l_9, l_10, l_11, l_12, l_13, l_14, l_15, l_16, l_17, l_18, l_19, l_20, l_21, l_22, l_23, l_24, l_25, l_26, l_27, l_30, l_31, l_32, l_40, l_48, l_57, l_59, l_60, l_61, l_62, l_64, l_83, l_90, l_97, l_99, l_100, l_108, l_115, l_122, l_123, l_127, l_128, l_131, l_135, l_200, l_255, l_256, l_300, l_487, l_495, l_900, l_999, l_1000, l_1700, l_1792, l_1980, l_2048, l_2475, l_2970, l_3121, l_9999, l_10000, l_11351, l_65536, l_100000, l_1000000, ↓l_m1, l_neg, nI_add, pk_mul, pk_sub, q_leT, q_leF, q_ltT, q_ltF, q_eqT, q_eqF, q_m1e, q_m1e2, q_m1lt, q_m1le, q_m1nl, q_m1nle, q_m1s, q_ix, q_jat, q_jput, q_min1, q_min2, q_max1, q_max2, q_or0, q_0or, q_bs, if_true, if_false, true_and, and_true, false_and, and_false, not_true_eq_false, not_false_eq_true, eq_self, Bool.false_eq_true, q_z0, q_z1]
theorem c_bef_no2 {F : Nat} {C : Cy} {xf hf : Nat → Int32} {h : Nat} (v : Int32) (ok : Ok C) (hH : CH C hf) (hh : h < C 0 0 3) (q1 : C 3 h 3 = 0) (q2 : ¬ C 3 h 1 = C 0 0 8) : X0_befall_b4 F (nI (C 0 0 5)) (nI (C 0 0 8)) (nI (C 0 0 2)) (nI (C 0 0 3)) (v, nI h, xf, hf) = some (.inl (v, nI (h + 1), xf, hf)) := by
  obtain ⟨o0, oR, oE, oH, oW⟩ := ok
  have e1 := oH h hh
  unfold X0_befall_b4 X0_befall_j129
  rw [c_tcT hH hh (by omega) q1]
  simp only [q_bs]
  rw [if_neg (show ¬ nI 1 = (0 : Int32) by decide)]
  clear q1
  have g1 := hH h 1 hh (by omega)
  have g2 : ¬ nI (C 3 h 1) = nI (C 0 0 8) := fun z => q2 ((nI_eq (by omega) (by omega)).mp z)
  rw [show (5 : Int32) = nI 5 from rfl, show (1 : Int32) = nI 1 from rfl, q_get hh (by omega) (by omega) (by omega)]
  simp only [q_bs]
  rw [g1, if_neg g2, nI_add, if_neg (nI_ge hh (by omega))]
theorem c_bef_yes {F : Nat} {C : Cy} {xf hf : Nat → Int32} {h : Nat} (v : Int32) (ok : Ok C) (hX : CX C xf) (hH : CH C hf) (hh : h < C 0 0 3) (q1 : C 3 h 3 = 0) (q2 : C 3 h 1 = C 0 0 8) (hF : 100 < F) : X0_befall_b4 F (nI (C 0 0 5)) (nI (C 0 0 8)) (nI (C 0 0 2)) (nI (C 0 0 3)) (v, nI h, xf, hf) = X0_befall_j81 F (nI (C 0 0 5)) (nI (C 0 0 8)) (nI (C 0 0 2)) xf (nI (C 0 0 3)) hf (nI h) (nI (stSet C (C 3 h 0))) (nI (C 3 h 2)) (zb (decide (C 3 h 2 ≤ cntS C (C 3 h 0)))) := by
  have c1 := c_behind (c := C 3 h 0) ok hX (by have := ok.1; have := ok.2.2.2.1 h hh; omega) hF
  have b1 := stSet_lt ok (C 3 h 0)
  have b2 := cntS_le ok (C 3 h 0)
  have b3 := popc_st ok (C 3 h 0)
  have b4 := q_popc (n := stSet C (C 3 h 0)) (by omega)
  rw [b3] at b4
  obtain ⟨o0, oR, oE, oH, oW⟩ := ok
  have e1 := oH h hh
  unfold X0_befall_b4
  rw [c_tcT hH hh (by omega) q1]
  simp only [q_bs]
  rw [if_neg (show ¬ nI 1 = (0 : Int32) by decide)]
  clear q1
  by_cases q3 : C 3 h 2 ≤ cntS C (C 3 h 0)
  · rw [decide_eq_true q3, zb_t]
    simp (disch := omega) only [l_0, l_1, l_2, l_3, l_4, l_5, l_6, l_7, l_8, l_9, l_10, l_11, l_12, l_13, l_14, l_15, l_16, l_17, l_18, l_19, l_20, l_21, l_22, l_23, l_24, l_25, l_26, l_27, l_30, l_31, l_32, l_40, l_48, l_57, l_59, l_60, l_61, l_62, l_64, l_83, l_90, l_97, l_99, l_100, l_108, l_115, l_122, l_123, l_127, l_128, l_131, l_135, l_200, l_255, l_256, l_300, l_487, l_495, l_900, l_999, l_1000, l_1700, l_1792, l_1980, l_2048, l_2475, l_2970, l_3121, l_9999, l_10000, l_11351, l_65536, l_100000, l_1000000, ↓l_m1, l_neg, nI_add, pk_mul, pk_sub, q_leT, q_leF, q_ltT, q_ltF, q_eqT, q_eqF, q_m1e, q_m1e2, q_m1lt, q_m1le, q_m1nl, q_m1nle, q_m1s, q_ix, q_jat, q_jput, q_min1, q_min2, q_max1, q_max2, q_or0, q_0or, q_bs, if_true, if_false, true_and, and_true, false_and, and_false, not_true_eq_false, not_false_eq_true, eq_self, Bool.false_eq_true, q_z0, q_z1, q_get, q_set, q_raise, hH h, c1, b4]
  · rw [decide_eq_false q3, zb_f]
    simp (disch := omega) only [l_0, l_1, l_2, l_3, l_4, l_5, l_6, l_7, l_8, l_9, l_10, l_11, l_12, l_13, l_14, l_15, l_16, l_17, l_18, l_19, l_20, l_21, l_22, l_23, l_24, l_25, l_26, l_27, l_30, l_31, l_32, l_40, l_48, l_57, l_59, l_60, l_61, l_62, l_64, l_83, l_90, l_97, l_99, l_100, l_108, l_115, l_122, l_123, l_127, l_128, l_131, l_135, l_200, l_255, l_256, l_300, l_487, l_495, l_900, l_999, l_1000, l_1700, l_1792, l_1980, l_2048, l_2475, l_2970, l_3121, l_9999, l_10000, l_11351, l_65536, l_100000, l_1000000, ↓l_m1, l_neg, nI_add, pk_mul, pk_sub, q_leT, q_leF, q_ltT, q_ltF, q_eqT, q_eqF, q_m1e, q_m1e2, q_m1lt, q_m1le, q_m1nl, q_m1nle, q_m1s, q_ix, q_jat, q_jput, q_min1, q_min2, q_max1, q_max2, q_or0, q_0or, q_bs, if_true, if_false, true_and, and_true, false_and, and_false, not_true_eq_false, not_false_eq_true, eq_self, Bool.false_eq_true, q_z0, q_z1, q_get, q_set, q_raise, hH h, c1, b4]
theorem c_bef_hap {F : Nat} {C : Cy} {xf xf2 hf : Nat → Int32} {h : Nat} (ok : Ok C) (hh : h < C 0 0 3) (p1 : X0_pay F (nI (C 0 0 5)) (nI (C 0 0 2)) xf (nI (stSet C (C 3 h 0))) (nI (C 3 h 2)) = some xf2) : X0_befall_j81 F (nI (C 0 0 5)) (nI (C 0 0 8)) (nI (C 0 0 2)) xf (nI (C 0 0 3)) hf (nI h) (nI (stSet C (C 3 h 0))) (nI (C 3 h 2)) (nI 1) = some (.inl (nI 1, nI (h + 1), xf2, upd (upd hf (h * 5 + 3) (nI 1)) (h * 5 + 4) (nI (C 0 0 8)))) := by
  obtain ⟨o0, oR, oE, oH, oW⟩ := ok
  unfold X0_befall_j81 X0_befall_j99 X0_befall_j127 X0_befall_j129
  simp (disch := omega) only [l_0, l_1, l_2, l_3, l_4, l_5, l_6, l_7, l_8, l_9, l_10, l_11, l_12, l_13, l_14, l_15, l_16, l_17, l_18, l_19, l_20, l_21, l_22, l_23, l_24, l_25, l_26, l_27, l_30, l_31, l_32, l_40, l_48, l_57, l_59, l_60, l_61, l_62, l_64, l_83, l_90, l_97, l_99, l_100, l_108, l_115, l_122, l_123, l_127, l_128, l_131, l_135, l_200, l_255, l_256, l_300, l_487, l_495, l_900, l_999, l_1000, l_1700, l_1792, l_1980, l_2048, l_2475, l_2970, l_3121, l_9999, l_10000, l_11351, l_65536, l_100000, l_1000000, ↓l_m1, l_neg, nI_add, pk_mul, pk_sub, q_leT, q_leF, q_ltT, q_ltF, q_eqT, q_eqF, q_m1e, q_m1e2, q_m1lt, q_m1le, q_m1nl, q_m1nle, q_m1s, q_ix, q_jat, q_jput, q_min1, q_min2, q_max1, q_max2, q_or0, q_0or, q_bs, if_true, if_false, true_and, and_true, false_and, and_false, not_true_eq_false, not_false_eq_true, eq_self, Bool.false_eq_true, q_z0, q_z1, q_get, q_set, q_raise, p1]
theorem c_bef_fail {F : Nat} {C : Cy} {xf hf : Nat → Int32} {h : Nat} (ok : Ok C) (hh : h < C 0 0 3) : X0_befall_j81 F (nI (C 0 0 5)) (nI (C 0 0 8)) (nI (C 0 0 2)) xf (nI (C 0 0 3)) hf (nI h) (nI (stSet C (C 3 h 0))) (nI (C 3 h 2)) (nI 0) = some (.inl (nI 1, nI (h + 1), xf, upd (upd hf (h * 5 + 3) (nI 2)) (h * 5 + 4) (nI (C 0 0 8)))) := by
  obtain ⟨o0, oR, oE, oH, oW⟩ := ok
  unfold X0_befall_j81 X0_befall_j99 X0_befall_j127 X0_befall_j129
  simp (disch := omega) only [l_0, l_1, l_2, l_3, l_4, l_5, l_6, l_7, l_8, l_9, l_10, l_11, l_12, l_13, l_14, l_15, l_16, l_17, l_18, l_19, l_20, l_21, l_22, l_23, l_24, l_25, l_26, l_27, l_30, l_31, l_32, l_40, l_48, l_57, l_59, l_60, l_61, l_62, l_64, l_83, l_90, l_97, l_99, l_100, l_108, l_115, l_122, l_123, l_127, l_128, l_131, l_135, l_200, l_255, l_256, l_300, l_487, l_495, l_900, l_999, l_1000, l_1700, l_1792, l_1980, l_2048, l_2475, l_2970, l_3121, l_9999, l_10000, l_11351, l_65536, l_100000, l_1000000, ↓l_m1, l_neg, nI_add, pk_mul, pk_sub, q_leT, q_leF, q_ltT, q_ltF, q_eqT, q_eqF, q_m1e, q_m1e2, q_m1lt, q_m1le, q_m1nl, q_m1nle, q_m1s, q_ix, q_jat, q_jput, q_min1, q_min2, q_max1, q_max2, q_or0, q_0or, q_bs, if_true, if_false, true_and, and_true, false_and, and_false, not_true_eq_false, not_false_eq_true, eq_self, Bool.false_eq_true, q_z0, q_z1, q_get, q_set, q_raise]
theorem c_bef1 {F : Nat} {C : Cy} {xf hf : Nat → Int32} {h : Nat} (v : Int32) (ok : Ok C) (hX : CX C xf) (hH : CH C hf) (hh : h < C 0 0 3) (hF : 100 < F) :
    ∃ xf2 hf2, X0_befall_b4 F (nI (C 0 0 5)) (nI (C 0 0 8)) (nI (C 0 0 2)) (nI (C 0 0 3)) (v, nI h, xf, hf) = some (.inl (if befc C h then nI 1 else v, nI (h + 1), xf2, hf2)) ∧ CX (bef1 C h) xf2 ∧ CH (bef1 C h) hf2 := by
  by_cases q1 : C 3 h 3 = 0
  case neg =>
    have q : befc C h = false := decide_eq_false (fun z => q1 z.1)
    exact ⟨xf, hf, by rw [c_bef_no1 v ok hH hh q1, q]; rfl, by rw [bef1_no q]; exact hX, by rw [bef1_no q]; exact hH⟩
  by_cases q2 : C 3 h 1 = C 0 0 8
  case neg =>
    have q : befc C h = false := decide_eq_false (fun z => q2 z.2)
    exact ⟨xf, hf, by rw [c_bef_no2 v ok hH hh q1 q2, q]; rfl, by rw [bef1_no q]; exact hX, by rw [bef1_no q]; exact hH⟩
  have q : befc C h = true := decide_eq_true ⟨q1, q2⟩
  rw [c_bef_yes v ok hX hH hh q1 q2 hF, q]
  by_cases q3 : C 3 h 2 ≤ cntS C (C 3 h 0)
  · rw [bef1_hap q q3, decide_eq_true q3, zb_t]
    obtain ⟨xf2, p1, p2⟩ := c_pay (F := F) (w := C 0 0 5) (k := C 3 h 2) (p := st C (C 3 h 0)) (setF_ok (h := h) (f := 1) ok (by omega)) (CX_F hX) hF
    rw [setF_t C (by omega)] at p1 p2
    refine ⟨xf2, upd (upd hf (h * 5 + 3) (nI 1)) (h * 5 + 4) (nI (C 0 0 8)), c_bef_hap ok hh p1, p2, ?_⟩
    intro y d hy hd
    rw [payN_t _ (by omega)] at hy ⊢
    exact CH_upd (CH_upd hH (by omega)) (by omega) y d hy hd
  · rw [bef1_fail q q3, decide_eq_false q3, zb_f]
    exact ⟨xf, upd (upd hf (h * 5 + 3) (nI 2)) (h * 5 + 4) (nI (C 0 0 8)), c_bef_fail ok hh, CX_F hX, CH_upd (CH_upd hH (by omega)) (by omega)⟩
theorem c_befall {F : Nat} {C : Cy} {xf hf : Nat → Int32} (ok : Ok C) (hX : CX C xf) (hH : CH C hf) (hF : 100 < F) :
    ∃ xf2 hf2, X0_befall F (nI (C 0 0 5)) (nI (C 0 0 8)) (nI (C 0 0 2)) xf (nI (C 0 0 3)) hf = some (zb (stirB C (C 0 0 3)), xf2, hf2) ∧ CX (befN C (C 0 0 3)) xf2 ∧ CH (befN C (C 0 0 3)) hf2 := by
  have n7 := ok.1
  obtain ⟨e, h1, xf2, hf2, rfl, h2⟩ := it_rel (b := X0_befall_b4 F (nI (C 0 0 5)) (nI (C 0 0 8)) (nI (C 0 0 2)) (nI (C 0 0 3))) (C 0 0 3)
    (fun i s => ∃ f f', s = (zb (stirB C i), nI i, f, f') ∧ CX (befN C i) f ∧ CH (befN C i) f') (fun e => ∃ f f', e = (zb (stirB C (C 0 0 3)), f, f') ∧ CX (befN C (C 0 0 3)) f ∧ CH (befN C (C 0 0 3)) f') (fun i s hi hs => by
      obtain ⟨f, f', rfl, hf1, hf2⟩ := hs
      have okd := befN_ok ok i
      have z0 := fun k => befN_t C (t := 0) (r := 0) (c := k) (by omega) i
      obtain ⟨f2, f3, a1, a2, a3⟩ := c_bef1 (F := F) (h := i) (zb (stirB C i)) okd hf1 hf2 (by rw [z0]; exact hi) hF
      rw [z0, z0, z0, z0] at a1
      refine Or.inl ⟨_, a1, f2, f3, ?_, a2, a3⟩
      rw [stirB]
      cases befc (befN C i) i <;> cases stirB C i <;> rfl) (fun s hs => by
      obtain ⟨f, f', rfl, hf1⟩ := hs
      refine ⟨_, ?_, f, f', rfl, hf1⟩
      unfold X0_befall_b4
      simp (disch := omega) only [l_0, l_1, l_2, l_3, l_4, l_5, l_6, l_7, l_8, l_9, l_10, l_11, l_12, l_13, l_14, l_15, l_16, l_17, l_18, l_19, l_20, l_21, l_22, l_23, l_24, l_25, l_26, l_27, l_30, l_31, l_32, l_40, l_48, l_57, l_59, l_60, l_61, l_62, l_64, l_83, l_90, l_97, l_99, l_100, l_108, l_115, l_122, l_123, l_127, l_128, l_131, l_135, l_200, l_255, l_256, l_300, l_487, l_495, l_900, l_999, l_1000, l_1700, l_1792, l_1980, l_2048, l_2475, l_2970, l_3121, l_9999, l_10000, l_11351, l_65536, l_100000, l_1000000, ↓l_m1, l_neg, nI_add, pk_mul, pk_sub, q_leT, q_leF, q_ltT, q_ltF, q_eqT, q_eqF, q_m1e, q_m1e2, q_m1lt, q_m1le, q_m1nl, q_m1nle, q_m1s, q_ix, q_jat, q_jput, q_min1, q_min2, q_max1, q_max2, q_or0, q_0or, q_bs, if_true, if_false, true_and, and_true, false_and, and_false, not_true_eq_false, not_false_eq_true, eq_self, Bool.false_eq_true, q_z0, q_z1]) (s0 := (0, 0, xf, hf)) ⟨xf, hf, rfl, hX, hH⟩ (show C 0 0 3 < F by omega)
  refine ⟨xf2, hf2, ?_, h2⟩
  unfold X0_befall
  rw [h1]
  simp only [q_bs, isZ_zb, if_true]
def hapc (C : Cy) (h : Nat) : Bool := befc C h && decide (C 3 h 2 ≤ cntS C (C 3 h 0))
theorem MS_F {C : Cy} {g : Nat → Int32} {h f : Nat} (ok : Ok C) (hM : MS C g) (hh : h < C 0 0 3) : MS (setF C h f) (upd g (83 + 4 * h + 3) (nI f)) := MS_End (MS_H ok hM hh (by omega))
theorem m_comes {F : Nat} {C : Cy} {g : Nat → Int32} {h : Nat} (ok : Ok C) (hM : MS C g) (hh : h < C 0 0 3) (hb : befc C h = true) (hF : 100 < F) :
    ∃ g2, X12_comesAbout F g (nI h) = some (zb (decide (C 3 h 2 ≤ cntS C (C 3 h 0))), g2) ∧ MS (bef1 C h) g2 ∧ Fr g g2 := by
  have ok' := ok
  obtain ⟨o0, oR, oE, oH, oW⟩ := ok
  have e1 := oH h hh
  have b1 := stSet_lt ok' (C 3 h 0)
  have b2 := cntS_le ok' (C 3 h 0)
  have b3 := popc_st ok' (C 3 h 0)
  unfold X12_comesAbout X12_comesAbout_j29 X12_comesAbout_j49 X12_happeningRow
  by_cases q3 : C 3 h 2 ≤ cntS C (C 3 h 0)
  · rw [bef1_hap hb q3]
    have okF := setF_ok (h := h) (f := 1) ok' (by omega)
    have hMF := MS_F (f := 1) ok' hM hh
    obtain ⟨g2, p1, p2, p3⟩ := m_pay (F := F) (h := h) (p := st C (C 3 h 0)) okF hMF (by rw [setF_t C (by omega)]; exact hh) hF
    rw [setF_t C (by omega)] at p1
    rw [setF_t C (by omega), setF_t C (by omega), setF_t C (by omega)] at p2
    refine ⟨g2, ?_, p2, Fr_t (Fr_upd (by omega) (by omega)) p3⟩
    have c1 := m_standing (c := C 3 h 0) ok' hM (by omega) hF
    have p1' : iter (X12_comesAbout_b53 F (nI h) (nI (stSet C (C 3 h 0))) (nI 1)) F (nI 0, upd g (83 + 4 * h + 3) (nI 1)) = some g2 := p1
    rw [decide_eq_true q3, zb_t]
    simp (disch := omega) only [l_0, l_1, l_2, l_3, l_4, l_5, l_6, l_7, l_8, l_9, l_10, l_11, l_12, l_13, l_14, l_15, l_16, l_17, l_18, l_19, l_20, l_21, l_22, l_23, l_24, l_25, l_26, l_27, l_30, l_31, l_32, l_40, l_48, l_57, l_59, l_60, l_61, l_62, l_64, l_83, l_90, l_97, l_99, l_100, l_108, l_115, l_122, l_123, l_127, l_128, l_131, l_135, l_200, l_255, l_256, l_300, l_487, l_495, l_900, l_999, l_1000, l_1700, l_1792, l_1980, l_2048, l_2475, l_2970, l_3121, l_9999, l_10000, l_11351, l_65536, l_100000, l_1000000, ↓l_m1, l_neg, nI_add, pk_mul, pk_sub, q_leT, q_leF, q_ltT, q_ltF, q_eqT, q_eqF, q_m1e, q_m1e2, q_m1lt, q_m1le, q_m1nl, q_m1nle, q_m1s, q_ix, q_jat, q_jput, q_min1, q_min2, q_max1, q_max2, q_or0, q_0or, q_bs, if_true, if_false, true_and, and_true, false_and, and_false, not_true_eq_false, not_false_eq_true, eq_self, Bool.false_eq_true, q_z0, q_z1, m_0 hM, m_E hM, m_Es hM, m_Er hM, m_H hM, m_W hM, m_R0 hM, m_R1 hM, m_R2 hM, c1, q_bits, b3, p1']
  · rw [bef1_fail hb q3]
    refine ⟨upd g (83 + 4 * h + 3) (nI 2), ?_, MS_F ok' hM hh, Fr_upd (by omega) (by omega)⟩
    have c1 := m_standing (c := C 3 h 0) ok' hM (by omega) hF
    have it : iter (X12_comesAbout_b53 F (nI h) (nI (stSet C (C 3 h 0))) (nI 0)) F (nI 0, upd g (83 + 4 * h + 3) (nI 2)) = some (upd g (83 + 4 * h + 3) (nI 2)) := by
      obtain ⟨G, rfl⟩ : ∃ G, F = G + 1 := ⟨F - 1, by omega⟩
      have y2 : upd g (83 + 4 * h + 3) (nI 2) 2 = nI (C 0 0 2) := by rw [pk_un (by omega), hM.1 2 (by omega)]
      rw [iter]
      unfold X12_comesAbout_b53
      by_cases n0 : C 0 0 2 = 0
      · simp (disch := omega) only [l_0, l_1, l_2, l_3, l_4, l_5, l_6, l_7, l_8, l_9, l_10, l_11, l_12, l_13, l_14, l_15, l_16, l_17, l_18, l_19, l_20, l_21, l_22, l_23, l_24, l_25, l_26, l_27, l_30, l_31, l_32, l_40, l_48, l_57, l_59, l_60, l_61, l_62, l_64, l_83, l_90, l_97, l_99, l_100, l_108, l_115, l_122, l_123, l_127, l_128, l_131, l_135, l_200, l_255, l_256, l_300, l_487, l_495, l_900, l_999, l_1000, l_1700, l_1792, l_1980, l_2048, l_2475, l_2970, l_3121, l_9999, l_10000, l_11351, l_65536, l_100000, l_1000000, ↓l_m1, l_neg, nI_add, pk_mul, pk_sub, q_leT, q_leF, q_ltT, q_ltF, q_eqT, q_eqF, q_m1e, q_m1e2, q_m1lt, q_m1le, q_m1nl, q_m1nle, q_m1s, q_ix, q_jat, q_jput, q_min1, q_min2, q_max1, q_max2, q_or0, q_0or, q_bs, if_true, if_false, true_and, and_true, false_and, and_false, not_true_eq_false, not_false_eq_true, eq_self, Bool.false_eq_true, q_z0, q_z1, y2]
      · simp (disch := omega) only [l_0, l_1, l_2, l_3, l_4, l_5, l_6, l_7, l_8, l_9, l_10, l_11, l_12, l_13, l_14, l_15, l_16, l_17, l_18, l_19, l_20, l_21, l_22, l_23, l_24, l_25, l_26, l_27, l_30, l_31, l_32, l_40, l_48, l_57, l_59, l_60, l_61, l_62, l_64, l_83, l_90, l_97, l_99, l_100, l_108, l_115, l_122, l_123, l_127, l_128, l_131, l_135, l_200, l_255, l_256, l_300, l_487, l_495, l_900, l_999, l_1000, l_1700, l_1792, l_1980, l_2048, l_2475, l_2970, l_3121, l_9999, l_10000, l_11351, l_65536, l_100000, l_1000000, ↓l_m1, l_neg, nI_add, pk_mul, pk_sub, q_leT, q_leF, q_ltT, q_ltF, q_eqT, q_eqF, q_m1e, q_m1e2, q_m1lt, q_m1le, q_m1nl, q_m1nle, q_m1s, q_ix, q_jat, q_jput, q_min1, q_min2, q_max1, q_max2, q_or0, q_0or, q_bs, if_true, if_false, true_and, and_true, false_and, and_false, not_true_eq_false, not_false_eq_true, eq_self, Bool.false_eq_true, q_z0, q_z1, y2]
    rw [decide_eq_false q3, zb_f]
    simp (disch := omega) only [l_0, l_1, l_2, l_3, l_4, l_5, l_6, l_7, l_8, l_9, l_10, l_11, l_12, l_13, l_14, l_15, l_16, l_17, l_18, l_19, l_20, l_21, l_22, l_23, l_24, l_25, l_26, l_27, l_30, l_31, l_32, l_40, l_48, l_57, l_59, l_60, l_61, l_62, l_64, l_83, l_90, l_97, l_99, l_100, l_108, l_115, l_122, l_123, l_127, l_128, l_131, l_135, l_200, l_255, l_256, l_300, l_487, l_495, l_900, l_999, l_1000, l_1700, l_1792, l_1980, l_2048, l_2475, l_2970, l_3121, l_9999, l_10000, l_11351, l_65536, l_100000, l_1000000, ↓l_m1, l_neg, nI_add, pk_mul, pk_sub, q_leT, q_leF, q_ltT, q_ltF, q_eqT, q_eqF, q_m1e, q_m1e2, q_m1lt, q_m1le, q_m1nl, q_m1nle, q_m1s, q_ix, q_jat, q_jput, q_min1, q_min2, q_max1, q_max2, q_or0, q_0or, q_bs, if_true, if_false, true_and, and_true, false_and, and_false, not_true_eq_false, not_false_eq_true, eq_self, Bool.false_eq_true, q_z0, q_z1, m_0 hM, m_E hM, m_Es hM, m_Er hM, m_H hM, m_W hM, m_R0 hM, m_R1 hM, m_R2 hM, c1, q_bits, b3, it]
def hapN (C : Cy) : Nat → Nat
  | 0 => 0
  | n + 1 => hapN C n + if hapc (befN C n) n then 1 else 0
theorem m_befN {F : Nat} {C : Cy} {g f : Nat → Int32} (ok : Ok C) (hM : MS C g) (hF : 100 < F) :
    ∃ g2, iter (X12_hourGoes_b27 F f) F (0, 0, g) = some (nI (hapN C (C 0 0 3)), g2) ∧ MS (befN C (C 0 0 3)) g2 ∧ Fr g g2 := by
  have n7 := ok.1
  obtain ⟨e, h1, g2, rfl, h2, h3⟩ := it_rel (b := X12_hourGoes_b27 F f) (C 0 0 3)
    (fun i s => ∃ g2, s = (nI (hapN C i), nI i, g2) ∧ MS (befN C i) g2 ∧ Fr g g2) (fun e => ∃ g2, e = (nI (hapN C (C 0 0 3)), g2) ∧ MS (befN C (C 0 0 3)) g2 ∧ Fr g g2) (fun i s hi hs => by
      obtain ⟨g1, rfl, hM1, hF1⟩ := hs
      have okd := befN_ok ok i
      have z0 := fun k => befN_t C (t := 0) (r := 0) (c := k) (by omega) i
      have hi' : i < befN C i 0 0 3 := by rw [z0]; exact hi
      have e1 := okd.2.2.2.1 i hi'
      have o1 := okd.1
      have m3 : g1 3 = nI (C 0 0 3) := by rw [hM1.1 3 (by omega), z0]
      have m8 : g1 8 = nI (befN C i 0 0 8) := hM1.1 8 (by omega)
      unfold X12_hourGoes_b27 X12_hourGoes_j72
      by_cases q1 : befN C i 3 i 3 = 0
      case neg =>
        have q : befc (befN C i) i = false := decide_eq_false (fun z => q1 z.1)
        refine Or.inl ⟨(nI (hapN C (i + 1)), nI (i + 1), g1), ?_, g1, rfl, ?_, hF1⟩
        · have e4 : hapN C (i + 1) = hapN C i := by rw [hapN]; unfold hapc; rw [q]; rfl
          rw [e4]
          simp (disch := omega) only [l_0, l_1, l_2, l_3, l_4, l_5, l_6, l_7, l_8, l_9, l_10, l_11, l_12, l_13, l_14, l_15, l_16, l_17, l_18, l_19, l_20, l_21, l_22, l_23, l_24, l_25, l_26, l_27, l_30, l_31, l_32, l_40, l_48, l_57, l_59, l_60, l_61, l_62, l_64, l_83, l_90, l_97, l_99, l_100, l_108, l_115, l_122, l_123, l_127, l_128, l_131, l_135, l_200, l_255, l_256, l_300, l_487, l_495, l_900, l_999, l_1000, l_1700, l_1792, l_1980, l_2048, l_2475, l_2970, l_3121, l_9999, l_10000, l_11351, l_65536, l_100000, l_1000000, ↓l_m1, l_neg, nI_add, pk_mul, pk_sub, q_leT, q_leF, q_ltT, q_ltF, q_eqT, q_eqF, q_m1e, q_m1e2, q_m1lt, q_m1le, q_m1nl, q_m1nle, q_m1s, q_ix, q_jat, q_jput, q_min1, q_min2, q_max1, q_max2, q_or0, q_0or, q_bs, if_true, if_false, true_and, and_true, false_and, and_false, not_true_eq_false, not_false_eq_true, eq_self, Bool.false_eq_true, q_z0, q_z1, m3, m_tcF hM1]
        · rw [befN, bef1_no q]; exact hM1
      by_cases q2 : befN C i 3 i 1 = befN C i 0 0 8
      case neg =>
        have q : befc (befN C i) i = false := decide_eq_false (fun z => q2 z.2)
        refine Or.inl ⟨(nI (hapN C (i + 1)), nI (i + 1), g1), ?_, g1, rfl, ?_, hF1⟩
        · have e4 : hapN C (i + 1) = hapN C i := by rw [hapN]; unfold hapc; rw [q]; rfl
          rw [e4]
          simp (disch := omega) only [l_0, l_1, l_2, l_3, l_4, l_5, l_6, l_7, l_8, l_9, l_10, l_11, l_12, l_13, l_14, l_15, l_16, l_17, l_18, l_19, l_20, l_21, l_22, l_23, l_24, l_25, l_26, l_27, l_30, l_31, l_32, l_40, l_48, l_57, l_59, l_60, l_61, l_62, l_64, l_83, l_90, l_97, l_99, l_100, l_108, l_115, l_122, l_123, l_127, l_128, l_131, l_135, l_200, l_255, l_256, l_300, l_487, l_495, l_900, l_999, l_1000, l_1700, l_1792, l_1980, l_2048, l_2475, l_2970, l_3121, l_9999, l_10000, l_11351, l_65536, l_100000, l_1000000, ↓l_m1, l_neg, nI_add, pk_mul, pk_sub, q_leT, q_leF, q_ltT, q_ltF, q_eqT, q_eqF, q_m1e, q_m1e2, q_m1lt, q_m1le, q_m1nl, q_m1nle, q_m1s, q_ix, q_jat, q_jput, q_min1, q_min2, q_max1, q_max2, q_or0, q_0or, q_bs, if_true, if_false, true_and, and_true, false_and, and_false, not_true_eq_false, not_false_eq_true, eq_self, Bool.false_eq_true, q_z0, q_z1, m3, m8, m_H hM1, m_tcT hM1]
        · rw [befN, bef1_no q]; exact hM1
      have q : befc (befN C i) i = true := decide_eq_true ⟨q1, q2⟩
      obtain ⟨g2, p1, p2, p3⟩ := m_comes (F := F) okd hM1 hi' q hF
      refine Or.inl ⟨(nI (hapN C (i + 1)), nI (i + 1), g2), ?_, g2, rfl, p2, Fr_t hF1 p3⟩
      have e4 : hapN C (i + 1) = hapN C i + if decide (befN C i 3 i 2 ≤ cntS (befN C i) (befN C i 3 i 0)) then 1 else 0 := by rw [hapN]; unfold hapc; rw [q, Bool.true_and]
      rw [e4]
      by_cases q3 : befN C i 3 i 2 ≤ cntS (befN C i) (befN C i 3 i 0)
      · rw [decide_eq_true q3] at p1 ⊢
        simp (disch := omega) only [l_0, l_1, l_2, l_3, l_4, l_5, l_6, l_7, l_8, l_9, l_10, l_11, l_12, l_13, l_14, l_15, l_16, l_17, l_18, l_19, l_20, l_21, l_22, l_23, l_24, l_25, l_26, l_27, l_30, l_31, l_32, l_40, l_48, l_57, l_59, l_60, l_61, l_62, l_64, l_83, l_90, l_97, l_99, l_100, l_108, l_115, l_122, l_123, l_127, l_128, l_131, l_135, l_200, l_255, l_256, l_300, l_487, l_495, l_900, l_999, l_1000, l_1700, l_1792, l_1980, l_2048, l_2475, l_2970, l_3121, l_9999, l_10000, l_11351, l_65536, l_100000, l_1000000, ↓l_m1, l_neg, nI_add, pk_mul, pk_sub, q_leT, q_leF, q_ltT, q_ltF, q_eqT, q_eqF, q_m1e, q_m1e2, q_m1lt, q_m1le, q_m1nl, q_m1nle, q_m1s, q_ix, q_jat, q_jput, q_min1, q_min2, q_max1, q_max2, q_or0, q_0or, q_bs, if_true, if_false, true_and, and_true, false_and, and_false, not_true_eq_false, not_false_eq_true, eq_self, Bool.false_eq_true, q_z0, q_z1, m3, m8, m_H hM1, m_tcT hM1, p1, zb_t]
      · rw [decide_eq_false q3] at p1 ⊢
        simp (disch := omega) only [l_0, l_1, l_2, l_3, l_4, l_5, l_6, l_7, l_8, l_9, l_10, l_11, l_12, l_13, l_14, l_15, l_16, l_17, l_18, l_19, l_20, l_21, l_22, l_23, l_24, l_25, l_26, l_27, l_30, l_31, l_32, l_40, l_48, l_57, l_59, l_60, l_61, l_62, l_64, l_83, l_90, l_97, l_99, l_100, l_108, l_115, l_122, l_123, l_127, l_128, l_131, l_135, l_200, l_255, l_256, l_300, l_487, l_495, l_900, l_999, l_1000, l_1700, l_1792, l_1980, l_2048, l_2475, l_2970, l_3121, l_9999, l_10000, l_11351, l_65536, l_100000, l_1000000, ↓l_m1, l_neg, nI_add, pk_mul, pk_sub, q_leT, q_leF, q_ltT, q_ltF, q_eqT, q_eqF, q_m1e, q_m1e2, q_m1lt, q_m1le, q_m1nl, q_m1nle, q_m1s, q_ix, q_jat, q_jput, q_min1, q_min2, q_max1, q_max2, q_or0, q_0or, q_bs, if_true, if_false, true_and, and_true, false_and, and_false, not_true_eq_false, not_false_eq_true, eq_self, Bool.false_eq_true, q_z0, q_z1, m3, m8, m_H hM1, m_tcT hM1, p1, zb_f, Nat.add_zero]) (fun s hs => by
      obtain ⟨g1, rfl, hM1, hF1⟩ := hs
      have z0 := fun k => befN_t C (t := 0) (r := 0) (c := k) (by omega) (C 0 0 3)
      have m3 : g1 3 = nI (C 0 0 3) := by rw [hM1.1 3 (by omega), z0]
      refine ⟨_, ?_, g1, rfl, hM1, hF1⟩
      unfold X12_hourGoes_b27
      simp (disch := omega) only [l_0, l_1, l_2, l_3, l_4, l_5, l_6, l_7, l_8, l_9, l_10, l_11, l_12, l_13, l_14, l_15, l_16, l_17, l_18, l_19, l_20, l_21, l_22, l_23, l_24, l_25, l_26, l_27, l_30, l_31, l_32, l_40, l_48, l_57, l_59, l_60, l_61, l_62, l_64, l_83, l_90, l_97, l_99, l_100, l_108, l_115, l_122, l_123, l_127, l_128, l_131, l_135, l_200, l_255, l_256, l_300, l_487, l_495, l_900, l_999, l_1000, l_1700, l_1792, l_1980, l_2048, l_2475, l_2970, l_3121, l_9999, l_10000, l_11351, l_65536, l_100000, l_1000000, ↓l_m1, l_neg, nI_add, pk_mul, pk_sub, q_leT, q_leF, q_ltT, q_ltF, q_eqT, q_eqF, q_m1e, q_m1e2, q_m1lt, q_m1le, q_m1nl, q_m1nle, q_m1s, q_ix, q_jat, q_jput, q_min1, q_min2, q_max1, q_max2, q_or0, q_0or, q_bs, if_true, if_false, true_and, and_true, false_and, and_false, not_true_eq_false, not_false_eq_true, eq_self, Bool.false_eq_true, q_z0, q_z1, m3]) (s0 := (0, 0, g)) ⟨g, rfl, hM, Fr_r g⟩ (show C 0 0 3 < F by omega)
  exact ⟨g2, h1, h2, h3⟩
