/-! ===== PURE 14.d: wages; hour, rule ===== -/
theorem payN_3 (C : Cy) (p : Nat → Bool) (v x : Nat) : ∀ n, payN C p v n 2 x 3 = if x < n ∧ p x = true then C 2 x 3 + v else C 2 x 3
  | 0 => by rw [if_neg (by omega)]; rfl
  | n + 1 => by
    have ih := payN_3 C p v x n
    rw [payN]
    unfold pay1
    by_cases q : p n = true
    · rw [if_pos q]
      by_cases e : x = n
      · subst e
        rw [setC_c _ (by omega), setC_s, if_pos ⟨by omega, q⟩, ih, if_neg (by omega)]
      · rw [setC_r _ e, setC_r _ e, ih]
        by_cases z : x < n ∧ p x = true
        · rw [if_pos z, if_pos ⟨by omega, z.2⟩]
        · rw [if_neg z, if_neg (fun w => z ⟨by omega, w.2⟩)]
    · rw [if_neg q, ih]
      by_cases z : x < n ∧ p x = true
      · rw [if_pos z, if_pos ⟨by omega, z.2⟩]
      · rw [if_neg z]
        by_cases e : x = n
        · rw [if_neg (fun w => q (e ▸ w.2))]
        · rw [if_neg (fun w => z ⟨by omega, w.2⟩)]
theorem WB_bef1 {C : Cy} {h : Nat} (ok : Ok C) (wb : WB C) (hh : h < C 0 0 3) : WB (bef1 C h) := by
  have o0 := ok.1
  have e1 := ok.2.2.2.1 h hh
  intro x hx
  rw [bef1_t C (by omega)] at hx
  have w := wb x hx
  have f := fct_bef1 (C := C) hh
  rw [bef1_t C (by omega : (0 ≠ 2 ∧ 0 ≠ 3) ∨ 3 < 3), f]
  cases q : befc C h with
  | false => rw [bef1_no q]; omega
  | true =>
    by_cases q3 : C 3 h 2 ≤ cntS C (C 3 h 0)
    · have hc : hapc C h = true := by unfold hapc; rw [q, decide_eq_true q3]; rfl
      rw [hc, bef1_hap q q3, payN_3, setF_t C (by omega)]
      have m : C 0 0 5 * C 3 h 2 ≤ 99 * 4 := Nat.mul_le_mul (by omega) (by omega)
      by_cases z : x < C 0 0 2 ∧ st C (C 3 h 0) x = true
      · rw [if_pos z, if_pos rfl]; omega
      · rw [if_neg z, if_pos rfl]; omega
    · rw [bef1_fail q q3, setF_t C (by omega)]; omega
theorem WB_befN {C : Cy} (ok : Ok C) (wb : WB C) : ∀ n, n ≤ C 0 0 3 → WB (befN C n)
  | 0, _ => wb
  | n + 1, h => WB_bef1 (befN_ok ok n) (WB_befN ok wb n (by omega)) (by rw [befN_t C (by omega)]; omega)
theorem WB_hour {C : Cy} (ok : Ok C) (wb : WB C) : WB (hour1 C) := by
  have w1 : WB (walkN C (C 0 0 2)) := by
    refine WB_o wb (walkN_t C (by omega) _) (walkN_t C (by omega) _) (fun x => ?_) (fun k => walkN_t C (by omega) _)
    have : ∀ n, walkN C n 2 x 3 = C 2 x 3 := by
      intro n
      induction n with
      | zero => rfl
      | succ n ih => rw [walkN]; unfold walk1; rw [setE_c _ (by omega), ih]
    exact this _
  have w2 := WB_befN (walkN_ok ok _ (Nat.le_refl _)) w1 (C 0 0 3) (by rw [walkN_t C (by omega)]; exact Nat.le_refl _)
  unfold hour1 hourC hourB
  exact WB_o w2 (by rw [setC_c _ (by omega), watN_t _ (by omega)]) (by rw [setC_c _ (by omega), watN_t _ (by omega)]) (fun x => by rw [setC_t _ (by omega), watN_t _ (by omega)]) (fun x => by rw [setC_t _ (by omega), watN_t _ (by omega)])
theorem WB_pass {C : Cy} (ok : Ok C) (wb : WB C) : ∀ n, C 0 0 8 + n ≤ 20000 → WB (pass C n)
  | 0, _ => wb
  | n + 1, h => WB_hour (pass_ok ok n (by omega)) (WB_pass ok wb n (by omega))
theorem fateSet_lt {C : Cy} (ok : Ok C) (f : Nat) : setOf (fate C f) (C 0 0 3) < 256 := by
  have h := setOf_lt (fate C f) (C 0 0 3)
  have h2 : 2 ^ C 0 0 3 ≤ 2 ^ 8 := Nat.pow_le_pow_right (by omega) (by have := ok.1; omega)
  omega
/-- the city after the clock has gone on, too -/
theorem City_pass {C : Cy} {ci ci' : Nat → Int32} {ca ca' : Nat → Nat → Int32} {cl : Nat → Int64} {g g' : Nat → Int32} {nm : Nat → Int64} {n : Nat} (h : CityOK C ci ca cl g nm) (hn : C 0 0 8 + n ≤ 9999)
    (h3 : ci' 3 = nI (C 0 0 8 + n)) (h1 : ∀ k, k ≠ 3 → k < 12 → ci' k = ci k) (h2 : ∀ k, k < 9 → k ≠ 5 → k ≠ 6 → k ≠ 7 → ca' k = ca k)
    (hX : CX (pass C n) (ca' 5)) (hH : CH (pass C n) (ca' 6)) (hW : CW (pass C n) (ca' 7)) (hM : MS (pass C n) g') (hF : Fr g g') : CityOK (pass C n) ci' ca' cl g' nm := by
  obtain ⟨a1, a2, a3, ⟨⟨c0, c1, c2, c3, c5, c6, c8, c9, c10⟩, cR, cT, cF, cX, cH, cW⟩, a5, a6, a7⟩ := h
  have ss := pass_same C n
  have z := fun {k : Nat} (h : k ≠ 8) => pass_0 C h n
  refine ⟨pass_ok a1 n (by omega), by rw [pass_8]; exact hn, WB_pass a1 a3 n (by omega), ⟨⟨?_, ?_, ?_, ?_, ?_, ?_, ?_, ?_, ?_⟩, ?_, ?_, ?_, hX, hH, hW⟩, hM, ?_, ?_⟩
  · rw [h1 0 (by omega) (by omega), z (by omega)]; exact c0
  · rw [h1 1 (by omega) (by omega), z (by omega)]; exact c1
  · rw [h1 2 (by omega) (by omega), z (by omega)]; exact c2
  · rw [h3, pass_8]
  · rw [h1 5 (by omega) (by omega), z (by omega)]; exact c5
  · rw [h1 6 (by omega) (by omega), z (by omega)]; exact c6
  · rw [h1 8 (by omega) (by omega), z (by omega)]; exact c8
  · rw [h1 9 (by omega) (by omega), z (by omega)]; exact c9
  · rw [h1 10 (by omega) (by omega), z (by omega)]; exact c10
  · intro r c hr hc
    rw [z (by omega)] at hr
    rw [h2 0 (by omega) (by omega) (by omega) (by omega), ss.2.2]; exact cR r c hr hc
  · rw [h2 1 (by omega) (by omega) (by omega) (by omega)]; exact CT_s cT ss
  · rw [h2 2 (by omega) (by omega) (by omega) (by omega)]; exact CF_s cF ss
  · rw [h1 7 (by omega) (by omega), h2 3 (by omega) (by omega) (by omega) (by omega), h2 4 (by omega) (by omega) (by omega) (by omega)]
    exact NR_same a6 (fun k hk => z (by omega))
  · rw [h1 4 (by omega) (by omega), h1 11 (by omega) (by omega), h2 8 (by omega) (by omega) (by omega) (by omega)]
    exact WR_le (WR_cong a7 (fun k hk => hF k (by omega))) (by rw [z (by omega)]; exact Nat.le_refl _) (by rw [z (by omega)]; exact Nat.le_refl _) (by rw [z (by omega)]; exact Nat.le_refl _) (by rw [z (by omega)]; exact Nat.le_refl _)
theorem ok_hour' {F : Nat} (hF : 2000 < F) : ok_hour F Rel := fun S T v h => by
  obtain ⟨C, hC⟩ := Rel_city h
  have hC' := hC
  obtain ⟨ok, h8, wb, ⟨⟨c0, c1, c2, c3, c5, c6, c8, c9, c10⟩, cR, cT, cF, cX, cH, cW⟩, hM, nr, wr⟩ := hC'
  have c0 : S.1 6 = nI (C 0 0 5) := c0; have c1 : S.1 7 = nI (C 0 0 6) := c1; have c2 : S.1 8 = nI (C 0 0 7) := c2; have c3 : S.1 9 = nI (C 0 0 8) := c3; have c5 : S.1 11 = nI (C 0 0 0) := c5; have c6 : S.1 12 = nI (C 0 0 1) := c6; have c8 : S.1 14 = nI (C 0 0 2) := c8; have c9 : S.1 15 = nI (C 0 0 3) := c9; have c10 : S.1 16 = nI (C 0 0 4) := c10; have cT : CT C (S.2.2.1 1) := cT; have cF : CF C (S.2.2.1 2) := cF; have cX : CX C (S.2.2.1 5) := cX; have cH : CH C (S.2.2.1 6) := cH; have cW : CW C (S.2.2.1 7) := cW
  have o0 := ok.1
  have same : ∀ (st : Int32) (f : Nat → Int32), Rel (sA (sA (sA (sI (sI S 5 st) 9 (nI (C 0 0 8))) 5 (S.2.2.1 5)) 6 (S.2.2.1 6)) 7 (S.2.2.1 7)) (sA (sA (sI T 0 st) 0 (T.2.2.1 0)) 6 f) := by
    intro st f
    refine Rel_ask h ⟨fun k hk => ?_, ⟨rfl, rfl⟩, fun k hk => ?_, fun _ _ => rfl⟩ ⟨fun k hk => up_n _ _ (by omega), ⟨rfl, rfl⟩, fun k h1 h2 => ?_, fun k hk => ?_, fun _ _ _ => rfl, rfl⟩ ⟨fun k h1 h2 => ?_, fun k hk => ?_, rfl⟩ ⟨fun k hk => ?_, fun _ _ => rfl⟩ ?_
    · show va_up (va_up S.1 5 st) 9 _ k = _; rw [up_n _ _ (by omega), up_n _ _ (by omega)]
    · show va_up (va_up (va_up S.2.2.1 5 _) 6 _) 7 _ k = _; rw [up_n _ _ (by omega), up_n _ _ (by omega), up_n _ _ (by omega)]
    · show va_up (va_up T.2.2.1 0 (T.2.2.1 0)) 6 f 0 k = T.2.2.1 0 k; rw [up_n _ _ (by omega), up_s]
    · show va_up (va_up T.2.2.1 0 _) 6 f k = _; rw [up_n _ _ (by omega), up_n _ _ (by omega)]
    · show va_up (va_up S.1 5 st) 9 _ k = _
      by_cases e : k = 9
      · rw [e, up_s, c3]
      · rw [up_n _ _ e, up_n _ _ (by omega)]
    · show va_up (va_up (va_up S.2.2.1 5 _) 6 _) 7 _ k = _; rw [up_id, up_id, up_id]
    · show va_up (va_up T.2.2.1 0 (T.2.2.1 0)) 6 f 0 k = T.2.2.1 0 k; rw [up_n _ _ (by omega), up_s]
    · rfl
  unfold xx_hour xm_hour
  rw [c0, c1, c3, c5, c8, c9, c10]
  rcases rngw v (a := 1) (b := 99) (by omega) (by omega) with ⟨k, h1, h2, rfl⟩ | hv
  case inr =>
    have f := q_fF (show (1 : Int64) = (nI 1).toInt64 by decide) (show (99 : Int64) = (nI 99).toInt64 by decide) hv
    refine ⟨m1, _, _, ?_, ?_, same (nI 1) (T.2.2.1 6)⟩
    · unfold X11_hour X11_none; simp (disch := omega) only [l_0, l_1, l_2, l_3, l_4, l_5, l_6, l_7, l_8, l_9, l_10, l_11, l_12, l_13, l_14, l_15, l_16, l_17, l_18, l_19, l_20, l_21, l_22, l_23, l_24, l_25, l_26, l_27, l_30, l_31, l_32, l_40, l_48, l_57, l_59, l_60, l_61, l_62, l_64, l_83, l_90, l_97, l_99, l_100, l_108, l_115, l_122, l_123, l_127, l_128, l_131, l_135, l_200, l_255, l_256, l_300, l_487, l_495, l_900, l_999, l_1000, l_1700, l_1792, l_1980, l_2048, l_2475, l_2970, l_3121, l_9999, l_10000, l_11351, l_65536, l_100000, l_1000000, ↓l_m1, l_neg, nI_add, pk_mul, pk_sub, q_leT, q_leF, q_ltT, q_ltF, q_eqT, q_eqF, q_m1e, q_m1e2, q_m1lt, q_m1le, q_m1nl, q_m1nle, q_m1s, q_ix, q_jat, q_jput, q_min1, q_min2, q_max1, q_max2, q_or0, q_0or, q_bs, if_true, if_false, true_and, and_true, false_and, and_false, not_true_eq_false, not_false_eq_true, eq_self, Bool.false_eq_true, q_z0, q_z1, q_wF hv]; rfl
    · unfold X12_hour X12_refuse; simp (disch := omega) only [l_0, l_1, l_2, l_3, l_4, l_5, l_6, l_7, l_8, l_9, l_10, l_11, l_12, l_13, l_14, l_15, l_16, l_17, l_18, l_19, l_20, l_21, l_22, l_23, l_24, l_25, l_26, l_27, l_30, l_31, l_32, l_40, l_48, l_57, l_59, l_60, l_61, l_62, l_64, l_83, l_90, l_97, l_99, l_100, l_108, l_115, l_122, l_123, l_127, l_128, l_131, l_135, l_200, l_255, l_256, l_300, l_487, l_495, l_900, l_999, l_1000, l_1700, l_1792, l_1980, l_2048, l_2475, l_2970, l_3121, l_9999, l_10000, l_11351, l_65536, l_100000, l_1000000, ↓l_m1, l_neg, nI_add, pk_mul, pk_sub, q_leT, q_leF, q_ltT, q_ltF, q_eqT, q_eqF, q_m1e, q_m1e2, q_m1lt, q_m1le, q_m1nl, q_m1nle, q_m1s, q_ix, q_jat, q_jput, q_min1, q_min2, q_max1, q_max2, q_or0, q_0or, q_bs, if_true, if_false, true_and, and_true, false_and, and_false, not_true_eq_false, not_false_eq_true, eq_self, Bool.false_eq_true, q_z0, q_z1, f]; rfl
  have f := q_fT (k := k) (show (1 : Int64) = (nI 1).toInt64 by decide) (show (99 : Int64) = (nI 99).toInt64 by decide) h1 h2 (by omega)
  have k8 : T.2.2.1 0 8 = nI (C 0 0 8) := hM.1 8 (by omega)
  by_cases q : C 0 0 8 + k ≤ 9999
  case neg =>
    refine ⟨m1, _, _, ?_, ?_, same (nI 4) (T.2.2.1 6)⟩
    · unfold X11_hour X11_none X0_canPass; simp (disch := omega) only [l_0, l_1, l_2, l_3, l_4, l_5, l_6, l_7, l_8, l_9, l_10, l_11, l_12, l_13, l_14, l_15, l_16, l_17, l_18, l_19, l_20, l_21, l_22, l_23, l_24, l_25, l_26, l_27, l_30, l_31, l_32, l_40, l_48, l_57, l_59, l_60, l_61, l_62, l_64, l_83, l_90, l_97, l_99, l_100, l_108, l_115, l_122, l_123, l_127, l_128, l_131, l_135, l_200, l_255, l_256, l_300, l_487, l_495, l_900, l_999, l_1000, l_1700, l_1792, l_1980, l_2048, l_2475, l_2970, l_3121, l_9999, l_10000, l_11351, l_65536, l_100000, l_1000000, ↓l_m1, l_neg, nI_add, pk_mul, pk_sub, q_leT, q_leF, q_ltT, q_ltF, q_eqT, q_eqF, q_m1e, q_m1e2, q_m1lt, q_m1le, q_m1nl, q_m1nle, q_m1s, q_ix, q_jat, q_jput, q_min1, q_min2, q_max1, q_max2, q_or0, q_0or, q_bs, if_true, if_false, true_and, and_true, false_and, and_false, not_true_eq_false, not_false_eq_true, eq_self, Bool.false_eq_true, q_z0, q_z1, q_wT]; rfl
    · unfold X12_hour X12_refuse; simp (disch := omega) only [l_0, l_1, l_2, l_3, l_4, l_5, l_6, l_7, l_8, l_9, l_10, l_11, l_12, l_13, l_14, l_15, l_16, l_17, l_18, l_19, l_20, l_21, l_22, l_23, l_24, l_25, l_26, l_27, l_30, l_31, l_32, l_40, l_48, l_57, l_59, l_60, l_61, l_62, l_64, l_83, l_90, l_97, l_99, l_100, l_108, l_115, l_122, l_123, l_127, l_128, l_131, l_135, l_200, l_255, l_256, l_300, l_487, l_495, l_900, l_999, l_1000, l_1700, l_1792, l_1980, l_2048, l_2475, l_2970, l_3121, l_9999, l_10000, l_11351, l_65536, l_100000, l_1000000, ↓l_m1, l_neg, nI_add, pk_mul, pk_sub, q_leT, q_leF, q_ltT, q_ltF, q_eqT, q_eqF, q_m1e, q_m1e2, q_m1lt, q_m1le, q_m1nl, q_m1nle, q_m1s, q_ix, q_jat, q_jput, q_min1, q_min2, q_max1, q_max2, q_or0, q_0or, q_bs, if_true, if_false, true_and, and_true, false_and, and_false, not_true_eq_false, not_false_eq_true, eq_self, Bool.false_eq_true, q_z0, q_z1, f, k8]; rfl
  obtain ⟨xf2, hf2, wf2, p1, p2, p3, p4⟩ := c_pass (F := F) (n := k) ok cT cF cX cH cW (by omega) (by omega) hF
  obtain ⟨g2, f2, m1', m2, m3, m4⟩ := m_hours (F := F) (f := T.2.2.1 6) (n := k) ok hM (by omega) (by omega) hF
  have okp := pass_ok ok k (by omega)
  have z3 : pass C k 0 0 3 = C 0 0 3 := pass_0 C (by omega) k
  have fp := fct_pass C k
  have w1 := c_withFate (f := 1) ok cH (by omega) (show 100 < F by omega)
  have w2 := c_withFate (f := 1) okp p3 (by omega) (show 100 < F by omega)
  have l1 := fateSet_lt ok 1
  have l2 := fateSet_lt okp 1
  have q1 := q_popc (n := setOf (fate C 1) (C 0 0 3)) (by omega)
  have q2 := q_popc (n := setOf (fate (pass C k) 1) (pass C k 0 0 3)) (by omega)
  rw [popc_setOf _ (by omega)] at q1
  rw [popc_setOf _ (by omega)] at q2
  rw [z3] at w2 q2
  rw [fp] at q2
  have e9 : fb_ct (fate C 1) (C 0 0 3) + hapS C k - fb_ct (fate C 1) (C 0 0 3) = hapS C k := by omega
  have x1 : X11_hour F (S.1 5) (nI (C 0 0 5)) (nI (C 0 0 6)) (nI (C 0 0 8)) (nI (C 0 0 0)) (S.2.2.1 1) (S.2.2.1 2) (nI (C 0 0 2)) (S.2.2.1 5) (nI (C 0 0 3)) (S.2.2.1 6) (nI (C 0 0 4)) (S.2.2.1 7) (nI k) = some (nI (hapS C k), nI 0, nI (C 0 0 8 + k), xf2, hf2, wf2) := by
    unfold X11_hour X0_canPass X11_answer
    simp (disch := omega) only [l_0, l_1, l_2, l_3, l_4, l_5, l_6, l_7, l_8, l_9, l_10, l_11, l_12, l_13, l_14, l_15, l_16, l_17, l_18, l_19, l_20, l_21, l_22, l_23, l_24, l_25, l_26, l_27, l_30, l_31, l_32, l_40, l_48, l_57, l_59, l_60, l_61, l_62, l_64, l_83, l_90, l_97, l_99, l_100, l_108, l_115, l_122, l_123, l_127, l_128, l_131, l_135, l_200, l_255, l_256, l_300, l_487, l_495, l_900, l_999, l_1000, l_1700, l_1792, l_1980, l_2048, l_2475, l_2970, l_3121, l_9999, l_10000, l_11351, l_65536, l_100000, l_1000000, ↓l_m1, l_neg, nI_add, pk_mul, pk_sub, q_leT, q_leF, q_ltT, q_ltF, q_eqT, q_eqF, q_m1e, q_m1e2, q_m1lt, q_m1le, q_m1nl, q_m1nle, q_m1s, q_ix, q_jat, q_jput, q_min1, q_min2, q_max1, q_max2, q_or0, q_0or, q_bs, if_true, if_false, true_and, and_true, false_and, and_false, not_true_eq_false, not_false_eq_true, eq_self, Bool.false_eq_true, q_z0, q_z1, q_wT, w1, q1, p1, w2, q2, e9]
  have y1 : X12_hour F (T.1 0) (T.2.2.1 0) (T.2.2.1 6) (nI k) = some (nI (hapS C k), nI 0, g2, f2) := by
    unfold X12_hour X12_gives
    simp (disch := omega) only [l_0, l_1, l_2, l_3, l_4, l_5, l_6, l_7, l_8, l_9, l_10, l_11, l_12, l_13, l_14, l_15, l_16, l_17, l_18, l_19, l_20, l_21, l_22, l_23, l_24, l_25, l_26, l_27, l_30, l_31, l_32, l_40, l_48, l_57, l_59, l_60, l_61, l_62, l_64, l_83, l_90, l_97, l_99, l_100, l_108, l_115, l_122, l_123, l_127, l_128, l_131, l_135, l_200, l_255, l_256, l_300, l_487, l_495, l_900, l_999, l_1000, l_1700, l_1792, l_1980, l_2048, l_2475, l_2970, l_3121, l_9999, l_10000, l_11351, l_65536, l_100000, l_1000000, ↓l_m1, l_neg, nI_add, pk_mul, pk_sub, q_leT, q_leF, q_ltT, q_ltF, q_eqT, q_eqF, q_m1e, q_m1e2, q_m1lt, q_m1le, q_m1nl, q_m1nle, q_m1s, q_ix, q_jat, q_jput, q_min1, q_min2, q_max1, q_max2, q_or0, q_0or, q_bs, if_true, if_false, true_and, and_true, false_and, and_false, not_true_eq_false, not_false_eq_true, eq_self, Bool.false_eq_true, q_z0, q_z1, f, k8, m1']
  rw [x1, y1]
  refine ⟨nI (hapS C k), _, _, rfl, rfl, ?_⟩
  · refine Rel_of (RelR_eq (Rel_R h) ⟨fun k hk => ?_, ⟨rfl, rfl⟩, fun k hk => ?_, fun _ _ => rfl⟩ ⟨fun k hk => up_n _ _ (by omega), ⟨rfl, rfl⟩, fun k h1 h2 => ?_, fun k hk => ?_, fun _ _ _ => rfl, rfl⟩) ?_ (R_ci_of (C := pass C k) (City_pass hC q ?_ (fun j h1 h2 => ?_) (fun j h1 h2 h3 h4 => ?_) ?_ ?_ ?_ ?_ ?_))
    · show va_up (va_up S.1 5 _) 9 _ k = _; rw [up_n _ _ (by omega), up_n _ _ (by omega)]
    · show va_up (va_up (va_up S.2.2.1 5 _) 6 _) 7 _ k = _; rw [up_n _ _ (by omega), up_n _ _ (by omega), up_n _ _ (by omega)]
    · show va_up (va_up T.2.2.1 0 g2) 6 f2 0 k = T.2.2.1 0 k; rw [up_n _ _ (by omega), up_s]; exact m3 k (by omega)
    · show va_up (va_up T.2.2.1 0 _) 6 _ k = _; rw [up_n _ _ (by omega), up_n _ _ (by omega)]
    · rfl
    · rfl
    · show va_up (va_up S.1 5 _) 9 _ (6 + j) = S.1 (6 + j); rw [up_n _ _ (by omega), up_n _ _ (by omega)]
    · show va_up (va_up (va_up S.2.2.1 5 _) 6 _) 7 _ j = _; rw [up_n _ _ (by omega), up_n _ _ (by omega), up_n _ _ (by omega)]
    · exact p2
    · exact p3
    · exact p4
    · exact m2
    · exact m3
theorem ok_rule' {F : Nat} (hF : 2000 < F) : ok_rule F Rel := fun S T v w h => by
  obtain ⟨C, hC⟩ := Rel_city h
  have hC' := hC
  obtain ⟨ok, h8, wb, ⟨⟨c0, c1, c2, c3, c5, c6, c8, c9, c10⟩, cR, cT, cF, cX, cH, cW⟩, hM, nr, wr⟩ := hC'
  have c0 : S.1 6 = nI (C 0 0 5) := c0; have c1 : S.1 7 = nI (C 0 0 6) := c1; have c2 : S.1 8 = nI (C 0 0 7) := c2; have c3 : S.1 9 = nI (C 0 0 8) := c3; have c5 : S.1 11 = nI (C 0 0 0) := c5; have c6 : S.1 12 = nI (C 0 0 1) := c6; have c8 : S.1 14 = nI (C 0 0 2) := c8; have c9 : S.1 15 = nI (C 0 0 3) := c9; have c10 : S.1 16 = nI (C 0 0 4) := c10; have cT : CT C (S.2.2.1 1) := cT; have cF : CF C (S.2.2.1 2) := cF; have cX : CX C (S.2.2.1 5) := cX; have cH : CH C (S.2.2.1 6) := cH; have cW : CW C (S.2.2.1 7) := cW
  have o0 := ok.1
  unfold xx_rule xm_rule
  rw [c0, c1, c2]
  have no : ∀ x : Option (Int32 × Int32 × Int32 × Int32 × Int32), ∀ y : Option (Int32 × Int32 × (Nat → Int32)), x = some (nI 0, nI 1, nI (C 0 0 5), nI (C 0 0 6), nI (C 0 0 7)) → y = some (nI 0, nI 1, T.2.2.1 0) → ∃ (r : Int32) (S2 T2 : vS), x.map (fun u => (u.1, (sI (sI (sI (sI S 5 u.2.1) 6 u.2.2.1) 7 u.2.2.2.1) 8 u.2.2.2.2))) = some (r, S2) ∧ y.map (fun u => (u.1, (sA (sI T 0 u.2.1) 0 u.2.2))) = some (r, T2) ∧ Rel S2 T2 := by
    rintro x y rfl rfl
    refine ⟨nI 0, _, _, rfl, rfl, Rel_ask h ⟨fun k hk => ?_, ⟨rfl, rfl⟩, fun _ _ => rfl, fun _ _ => rfl⟩ ⟨fun k hk => up_n _ _ (by omega), ⟨rfl, rfl⟩, fun k h1 h2 => ?_, fun k hk => up_n _ _ (by omega), fun _ _ _ => rfl, rfl⟩ ⟨fun k h1 h2 => ?_, fun _ _ => rfl, rfl⟩ ⟨fun k hk => ?_, fun _ _ => rfl⟩ ?_⟩
    · show va_up (va_up (va_up (va_up S.1 5 _) 6 _) 7 _) 8 _ k = _; rw [up_n _ _ (by omega), up_n _ _ (by omega), up_n _ _ (by omega), up_n _ _ (by omega)]
    · show va_up T.2.2.1 0 (T.2.2.1 0) 0 k = T.2.2.1 0 k; rw [up_s]
    · show va_up (va_up (va_up (va_up S.1 5 _) 6 _) 7 _) 8 _ k = _
      by_cases e8 : k = 8
      · rw [e8, up_s, c2]
      rw [up_n _ _ e8]
      by_cases e7 : k = 7
      · rw [e7, up_s, c1]
      rw [up_n _ _ e7]
      by_cases e6 : k = 6
      · rw [e6, up_s, c0]
      rw [up_n _ _ e6, up_n _ _ (by omega)]
    · show va_up T.2.2.1 0 (T.2.2.1 0) 0 k = T.2.2.1 0 k; rw [up_s]
    · rfl
  have yes : ∀ c m, ((c = 5 ∧ m ≤ 99) ∨ (c = 6 ∧ 1 ≤ m ∧ m ≤ 24) ∨ (c = 7 ∧ m ≤ 16)) → ∀ x : Option (Int32 × Int32 × Int32 × Int32 × Int32), ∀ y : Option (Int32 × Int32 × (Nat → Int32)), x = some (nI 1, nI 0, nI (setC C 0 0 c m 0 0 5), nI (setC C 0 0 c m 0 0 6), nI (setC C 0 0 c m 0 0 7)) → y = some (nI 1, nI 0, upd (T.2.2.1 0) c (nI m)) → ∃ (r : Int32) (S2 T2 : vS), x.map (fun u => (u.1, (sI (sI (sI (sI S 5 u.2.1) 6 u.2.2.1) 7 u.2.2.2.1) 8 u.2.2.2.2))) = some (r, S2) ∧ y.map (fun u => (u.1, (sA (sI T 0 u.2.1) 0 u.2.2))) = some (r, T2) ∧ Rel S2 T2 := by
    rintro c m hcm x y rfl rfl
    have hc5 : 5 ≤ c ∧ c ≤ 7 := by omega
    have okD := Ok_rule ok hcm
    refine ⟨nI 1, _, _, rfl, rfl, Rel_of (RelR_eq (Rel_R h) ⟨fun k hk => ?_, ⟨rfl, rfl⟩, fun _ _ => rfl, fun _ _ => rfl⟩ ⟨fun k hk => up_n _ _ (by omega), ⟨rfl, rfl⟩, fun k h1 h2 => ?_, fun k hk => up_n _ _ (by omega), fun _ _ _ => rfl, rfl⟩) ?_ (R_ci_of (C := setC C 0 0 c m) (City_new hC (Chg_set okD wb (by omega)) ⟨?_, ?_, ?_⟩ (fun k h1 h2 => ?_) (fun _ _ _ _ _ => rfl) (CX_o cX (by omega) (by omega)) (CH_o cH (by omega) (by omega)) (CW_o cW (by omega) (by omega)) (MS_0 ok hM hc5.1 (by omega)) (Fr_upd (by omega) (by omega))))⟩
    · show va_up (va_up (va_up (va_up S.1 5 _) 6 _) 7 _) 8 _ k = _; rw [up_n _ _ (by omega), up_n _ _ (by omega), up_n _ _ (by omega), up_n _ _ (by omega)]
    · show va_up T.2.2.1 0 (upd (T.2.2.1 0) c (nI m)) 0 k = T.2.2.1 0 k; rw [up_s]; exact pk_un (by omega)
    · rfl
    · rfl
    · rfl
    · rfl
    · show va_up (va_up (va_up (va_up S.1 5 _) 6 _) 7 _) 8 _ (6 + k) = S.1 (6 + k); rw [up_n _ _ (by omega), up_n _ _ (by omega), up_n _ _ (by omega), up_n _ _ (by omega)]
  unfold X11_rule X11_rule_j28 X11_rule_j57 X11_rule_j86 X11_refused X11_accepted X12_rule X12_rule_j24 X12_rule_j50 X12_rule_j56
  rcases rngw v (a := 5) (b := 7) (by omega) (by omega) with ⟨k, h1, h2, rfl⟩ | hv
  case inr =>
    refine no _ _ ?_ ?_
    · simp (disch := omega) only [l_0, l_1, l_2, l_3, l_4, l_5, l_6, l_7, l_8, l_9, l_10, l_11, l_12, l_13, l_14, l_15, l_16, l_17, l_18, l_19, l_20, l_21, l_22, l_23, l_24, l_25, l_26, l_27, l_30, l_31, l_32, l_40, l_48, l_57, l_59, l_60, l_61, l_62, l_64, l_83, l_90, l_97, l_99, l_100, l_108, l_115, l_122, l_123, l_127, l_128, l_131, l_135, l_200, l_255, l_256, l_300, l_487, l_495, l_900, l_999, l_1000, l_1700, l_1792, l_1980, l_2048, l_2475, l_2970, l_3121, l_9999, l_10000, l_11351, l_65536, l_100000, l_1000000, ↓l_m1, l_neg, nI_add, pk_mul, pk_sub, q_leT, q_leF, q_ltT, q_ltF, q_eqT, q_eqF, q_m1e, q_m1e2, q_m1lt, q_m1le, q_m1nl, q_m1nle, q_m1s, q_ix, q_jat, q_jput, q_min1, q_min2, q_max1, q_max2, q_or0, q_0or, q_bs, if_true, if_false, true_and, and_true, false_and, and_false, not_true_eq_false, not_false_eq_true, eq_self, Bool.false_eq_true, q_z0, q_z1, nrng hv]
    · rcases cut2 hv with q | ⟨q1, q2⟩
      · have q := eq_true q
        simp (disch := omega) only [l_0, l_1, l_2, l_3, l_4, l_5, l_6, l_7, l_8, l_9, l_10, l_11, l_12, l_13, l_14, l_15, l_16, l_17, l_18, l_19, l_20, l_21, l_22, l_23, l_24, l_25, l_26, l_27, l_30, l_31, l_32, l_40, l_48, l_57, l_59, l_60, l_61, l_62, l_64, l_83, l_90, l_97, l_99, l_100, l_108, l_115, l_122, l_123, l_127, l_128, l_131, l_135, l_200, l_255, l_256, l_300, l_487, l_495, l_900, l_999, l_1000, l_1700, l_1792, l_1980, l_2048, l_2475, l_2970, l_3121, l_9999, l_10000, l_11351, l_65536, l_100000, l_1000000, ↓l_m1, l_neg, nI_add, pk_mul, pk_sub, q_leT, q_leF, q_ltT, q_ltF, q_eqT, q_eqF, q_m1e, q_m1e2, q_m1lt, q_m1le, q_m1nl, q_m1nle, q_m1s, q_ix, q_jat, q_jput, q_min1, q_min2, q_max1, q_max2, q_or0, q_0or, q_bs, if_true, if_false, true_and, and_true, false_and, and_false, not_true_eq_false, not_false_eq_true, eq_self, Bool.false_eq_true, q_z0, q_z1, q, q_isn]
      · have q1 := eq_false q1
        have q2 := eq_true (Int32.not_le.mp q2)
        simp (disch := omega) only [l_0, l_1, l_2, l_3, l_4, l_5, l_6, l_7, l_8, l_9, l_10, l_11, l_12, l_13, l_14, l_15, l_16, l_17, l_18, l_19, l_20, l_21, l_22, l_23, l_24, l_25, l_26, l_27, l_30, l_31, l_32, l_40, l_48, l_57, l_59, l_60, l_61, l_62, l_64, l_83, l_90, l_97, l_99, l_100, l_108, l_115, l_122, l_123, l_127, l_128, l_131, l_135, l_200, l_255, l_256, l_300, l_487, l_495, l_900, l_999, l_1000, l_1700, l_1792, l_1980, l_2048, l_2475, l_2970, l_3121, l_9999, l_10000, l_11351, l_65536, l_100000, l_1000000, ↓l_m1, l_neg, nI_add, pk_mul, pk_sub, q_leT, q_leF, q_ltT, q_ltF, q_eqT, q_eqF, q_m1e, q_m1e2, q_m1lt, q_m1le, q_m1nl, q_m1nle, q_m1s, q_ix, q_jat, q_jput, q_min1, q_min2, q_max1, q_max2, q_or0, q_0or, q_bs, if_true, if_false, true_and, and_true, false_and, and_false, not_true_eq_false, not_false_eq_true, eq_self, Bool.false_eq_true, q_z0, q_z1, q1, q2, q_isn]
  rcases (show k = 5 ∨ k = 6 ∨ k = 7 by omega) with rfl | rfl | rfl
  · rcases rngw w (a := 0) (b := 99) (by omega) (by omega) with ⟨m, m1', m2, rfl⟩ | hw
    · have f := q_fT (k := m) (show (0 : Int64) = (nI 0).toInt64 by decide) (show (99 : Int64) = (nI 99).toInt64 by decide) m1' m2 (by omega)
      refine yes 5 m (by omega) _ _ ?_ ?_
      · rw [setC_s, setC_c C (by omega), setC_c C (by omega)]
        simp (disch := omega) only [l_0, l_1, l_2, l_3, l_4, l_5, l_6, l_7, l_8, l_9, l_10, l_11, l_12, l_13, l_14, l_15, l_16, l_17, l_18, l_19, l_20, l_21, l_22, l_23, l_24, l_25, l_26, l_27, l_30, l_31, l_32, l_40, l_48, l_57, l_59, l_60, l_61, l_62, l_64, l_83, l_90, l_97, l_99, l_100, l_108, l_115, l_122, l_123, l_127, l_128, l_131, l_135, l_200, l_255, l_256, l_300, l_487, l_495, l_900, l_999, l_1000, l_1700, l_1792, l_1980, l_2048, l_2475, l_2970, l_3121, l_9999, l_10000, l_11351, l_65536, l_100000, l_1000000, ↓l_m1, l_neg, nI_add, pk_mul, pk_sub, q_leT, q_leF, q_ltT, q_ltF, q_eqT, q_eqF, q_m1e, q_m1e2, q_m1lt, q_m1le, q_m1nl, q_m1nle, q_m1s, q_ix, q_jat, q_jput, q_min1, q_min2, q_max1, q_max2, q_or0, q_0or, q_bs, if_true, if_false, true_and, and_true, false_and, and_false, not_true_eq_false, not_false_eq_true, eq_self, Bool.false_eq_true, q_z0, q_z1, q_wT]
      · simp (disch := omega) only [l_0, l_1, l_2, l_3, l_4, l_5, l_6, l_7, l_8, l_9, l_10, l_11, l_12, l_13, l_14, l_15, l_16, l_17, l_18, l_19, l_20, l_21, l_22, l_23, l_24, l_25, l_26, l_27, l_30, l_31, l_32, l_40, l_48, l_57, l_59, l_60, l_61, l_62, l_64, l_83, l_90, l_97, l_99, l_100, l_108, l_115, l_122, l_123, l_127, l_128, l_131, l_135, l_200, l_255, l_256, l_300, l_487, l_495, l_900, l_999, l_1000, l_1700, l_1792, l_1980, l_2048, l_2475, l_2970, l_3121, l_9999, l_10000, l_11351, l_65536, l_100000, l_1000000, ↓l_m1, l_neg, nI_add, pk_mul, pk_sub, q_leT, q_leF, q_ltT, q_ltF, q_eqT, q_eqF, q_m1e, q_m1e2, q_m1lt, q_m1le, q_m1nl, q_m1nle, q_m1s, q_ix, q_jat, q_jput, q_min1, q_min2, q_max1, q_max2, q_or0, q_0or, q_bs, if_true, if_false, true_and, and_true, false_and, and_false, not_true_eq_false, not_false_eq_true, eq_self, Bool.false_eq_true, q_z0, q_z1, f, q_is0]
    · have f := q_fF (show (0 : Int64) = (nI 0).toInt64 by decide) (show (99 : Int64) = (nI 99).toInt64 by decide) hw
      refine no _ _ ?_ ?_
      · simp (disch := omega) only [l_0, l_1, l_2, l_3, l_4, l_5, l_6, l_7, l_8, l_9, l_10, l_11, l_12, l_13, l_14, l_15, l_16, l_17, l_18, l_19, l_20, l_21, l_22, l_23, l_24, l_25, l_26, l_27, l_30, l_31, l_32, l_40, l_48, l_57, l_59, l_60, l_61, l_62, l_64, l_83, l_90, l_97, l_99, l_100, l_108, l_115, l_122, l_123, l_127, l_128, l_131, l_135, l_200, l_255, l_256, l_300, l_487, l_495, l_900, l_999, l_1000, l_1700, l_1792, l_1980, l_2048, l_2475, l_2970, l_3121, l_9999, l_10000, l_11351, l_65536, l_100000, l_1000000, ↓l_m1, l_neg, nI_add, pk_mul, pk_sub, q_leT, q_leF, q_ltT, q_ltF, q_eqT, q_eqF, q_m1e, q_m1e2, q_m1lt, q_m1le, q_m1nl, q_m1nle, q_m1s, q_ix, q_jat, q_jput, q_min1, q_min2, q_max1, q_max2, q_or0, q_0or, q_bs, if_true, if_false, true_and, and_true, false_and, and_false, not_true_eq_false, not_false_eq_true, eq_self, Bool.false_eq_true, q_z0, q_z1, q_wF hw]
      · simp (disch := omega) only [l_0, l_1, l_2, l_3, l_4, l_5, l_6, l_7, l_8, l_9, l_10, l_11, l_12, l_13, l_14, l_15, l_16, l_17, l_18, l_19, l_20, l_21, l_22, l_23, l_24, l_25, l_26, l_27, l_30, l_31, l_32, l_40, l_48, l_57, l_59, l_60, l_61, l_62, l_64, l_83, l_90, l_97, l_99, l_100, l_108, l_115, l_122, l_123, l_127, l_128, l_131, l_135, l_200, l_255, l_256, l_300, l_487, l_495, l_900, l_999, l_1000, l_1700, l_1792, l_1980, l_2048, l_2475, l_2970, l_3121, l_9999, l_10000, l_11351, l_65536, l_100000, l_1000000, ↓l_m1, l_neg, nI_add, pk_mul, pk_sub, q_leT, q_leF, q_ltT, q_ltF, q_eqT, q_eqF, q_m1e, q_m1e2, q_m1lt, q_m1le, q_m1nl, q_m1nle, q_m1s, q_ix, q_jat, q_jput, q_min1, q_min2, q_max1, q_max2, q_or0, q_0or, q_bs, if_true, if_false, true_and, and_true, false_and, and_false, not_true_eq_false, not_false_eq_true, eq_self, Bool.false_eq_true, q_z0, q_z1, f, q_isn]
  · rcases rngw w (a := 1) (b := 24) (by omega) (by omega) with ⟨m, m1', m2, rfl⟩ | hw
    · have f := q_fT (k := m) (show (1 : Int64) = (nI 1).toInt64 by decide) (show (24 : Int64) = (nI 24).toInt64 by decide) m1' m2 (by omega)
      refine yes 6 m (by omega) _ _ ?_ ?_
      · rw [setC_s, setC_c C (by omega), setC_c C (by omega)]
        simp (disch := omega) only [l_0, l_1, l_2, l_3, l_4, l_5, l_6, l_7, l_8, l_9, l_10, l_11, l_12, l_13, l_14, l_15, l_16, l_17, l_18, l_19, l_20, l_21, l_22, l_23, l_24, l_25, l_26, l_27, l_30, l_31, l_32, l_40, l_48, l_57, l_59, l_60, l_61, l_62, l_64, l_83, l_90, l_97, l_99, l_100, l_108, l_115, l_122, l_123, l_127, l_128, l_131, l_135, l_200, l_255, l_256, l_300, l_487, l_495, l_900, l_999, l_1000, l_1700, l_1792, l_1980, l_2048, l_2475, l_2970, l_3121, l_9999, l_10000, l_11351, l_65536, l_100000, l_1000000, ↓l_m1, l_neg, nI_add, pk_mul, pk_sub, q_leT, q_leF, q_ltT, q_ltF, q_eqT, q_eqF, q_m1e, q_m1e2, q_m1lt, q_m1le, q_m1nl, q_m1nle, q_m1s, q_ix, q_jat, q_jput, q_min1, q_min2, q_max1, q_max2, q_or0, q_0or, q_bs, if_true, if_false, true_and, and_true, false_and, and_false, not_true_eq_false, not_false_eq_true, eq_self, Bool.false_eq_true, q_z0, q_z1, q_wT]
      · simp (disch := omega) only [l_0, l_1, l_2, l_3, l_4, l_5, l_6, l_7, l_8, l_9, l_10, l_11, l_12, l_13, l_14, l_15, l_16, l_17, l_18, l_19, l_20, l_21, l_22, l_23, l_24, l_25, l_26, l_27, l_30, l_31, l_32, l_40, l_48, l_57, l_59, l_60, l_61, l_62, l_64, l_83, l_90, l_97, l_99, l_100, l_108, l_115, l_122, l_123, l_127, l_128, l_131, l_135, l_200, l_255, l_256, l_300, l_487, l_495, l_900, l_999, l_1000, l_1700, l_1792, l_1980, l_2048, l_2475, l_2970, l_3121, l_9999, l_10000, l_11351, l_65536, l_100000, l_1000000, ↓l_m1, l_neg, nI_add, pk_mul, pk_sub, q_leT, q_leF, q_ltT, q_ltF, q_eqT, q_eqF, q_m1e, q_m1e2, q_m1lt, q_m1le, q_m1nl, q_m1nle, q_m1s, q_ix, q_jat, q_jput, q_min1, q_min2, q_max1, q_max2, q_or0, q_0or, q_bs, if_true, if_false, true_and, and_true, false_and, and_false, not_true_eq_false, not_false_eq_true, eq_self, Bool.false_eq_true, q_z0, q_z1, f, q_is0]
    · have f := q_fF (show (1 : Int64) = (nI 1).toInt64 by decide) (show (24 : Int64) = (nI 24).toInt64 by decide) hw
      refine no _ _ ?_ ?_
      · simp (disch := omega) only [l_0, l_1, l_2, l_3, l_4, l_5, l_6, l_7, l_8, l_9, l_10, l_11, l_12, l_13, l_14, l_15, l_16, l_17, l_18, l_19, l_20, l_21, l_22, l_23, l_24, l_25, l_26, l_27, l_30, l_31, l_32, l_40, l_48, l_57, l_59, l_60, l_61, l_62, l_64, l_83, l_90, l_97, l_99, l_100, l_108, l_115, l_122, l_123, l_127, l_128, l_131, l_135, l_200, l_255, l_256, l_300, l_487, l_495, l_900, l_999, l_1000, l_1700, l_1792, l_1980, l_2048, l_2475, l_2970, l_3121, l_9999, l_10000, l_11351, l_65536, l_100000, l_1000000, ↓l_m1, l_neg, nI_add, pk_mul, pk_sub, q_leT, q_leF, q_ltT, q_ltF, q_eqT, q_eqF, q_m1e, q_m1e2, q_m1lt, q_m1le, q_m1nl, q_m1nle, q_m1s, q_ix, q_jat, q_jput, q_min1, q_min2, q_max1, q_max2, q_or0, q_0or, q_bs, if_true, if_false, true_and, and_true, false_and, and_false, not_true_eq_false, not_false_eq_true, eq_self, Bool.false_eq_true, q_z0, q_z1, q_wF hw]
      · simp (disch := omega) only [l_0, l_1, l_2, l_3, l_4, l_5, l_6, l_7, l_8, l_9, l_10, l_11, l_12, l_13, l_14, l_15, l_16, l_17, l_18, l_19, l_20, l_21, l_22, l_23, l_24, l_25, l_26, l_27, l_30, l_31, l_32, l_40, l_48, l_57, l_59, l_60, l_61, l_62, l_64, l_83, l_90, l_97, l_99, l_100, l_108, l_115, l_122, l_123, l_127, l_128, l_131, l_135, l_200, l_255, l_256, l_300, l_487, l_495, l_900, l_999, l_1000, l_1700, l_1792, l_1980, l_2048, l_2475, l_2970, l_3121, l_9999, l_10000, l_11351, l_65536, l_100000, l_1000000, ↓l_m1, l_neg, nI_add, pk_mul, pk_sub, q_leT, q_leF, q_ltT, q_ltF, q_eqT, q_eqF, q_m1e, q_m1e2, q_m1lt, q_m1le, q_m1nl, q_m1nle, q_m1s, q_ix, q_jat, q_jput, q_min1, q_min2, q_max1, q_max2, q_or0, q_0or, q_bs, if_true, if_false, true_and, and_true, false_and, and_false, not_true_eq_false, not_false_eq_true, eq_self, Bool.false_eq_true, q_z0, q_z1, f, q_isn]
  · rcases rngw w (a := 0) (b := 16) (by omega) (by omega) with ⟨m, m1', m2, rfl⟩ | hw
    · have f := q_fT (k := m) (show (0 : Int64) = (nI 0).toInt64 by decide) (show (16 : Int64) = (nI 16).toInt64 by decide) m1' m2 (by omega)
      refine yes 7 m (by omega) _ _ ?_ ?_
      · rw [setC_s, setC_c C (by omega), setC_c C (by omega)]
        simp (disch := omega) only [l_0, l_1, l_2, l_3, l_4, l_5, l_6, l_7, l_8, l_9, l_10, l_11, l_12, l_13, l_14, l_15, l_16, l_17, l_18, l_19, l_20, l_21, l_22, l_23, l_24, l_25, l_26, l_27, l_30, l_31, l_32, l_40, l_48, l_57, l_59, l_60, l_61, l_62, l_64, l_83, l_90, l_97, l_99, l_100, l_108, l_115, l_122, l_123, l_127, l_128, l_131, l_135, l_200, l_255, l_256, l_300, l_487, l_495, l_900, l_999, l_1000, l_1700, l_1792, l_1980, l_2048, l_2475, l_2970, l_3121, l_9999, l_10000, l_11351, l_65536, l_100000, l_1000000, ↓l_m1, l_neg, nI_add, pk_mul, pk_sub, q_leT, q_leF, q_ltT, q_ltF, q_eqT, q_eqF, q_m1e, q_m1e2, q_m1lt, q_m1le, q_m1nl, q_m1nle, q_m1s, q_ix, q_jat, q_jput, q_min1, q_min2, q_max1, q_max2, q_or0, q_0or, q_bs, if_true, if_false, true_and, and_true, false_and, and_false, not_true_eq_false, not_false_eq_true, eq_self, Bool.false_eq_true, q_z0, q_z1, q_wT]
      · simp (disch := omega) only [l_0, l_1, l_2, l_3, l_4, l_5, l_6, l_7, l_8, l_9, l_10, l_11, l_12, l_13, l_14, l_15, l_16, l_17, l_18, l_19, l_20, l_21, l_22, l_23, l_24, l_25, l_26, l_27, l_30, l_31, l_32, l_40, l_48, l_57, l_59, l_60, l_61, l_62, l_64, l_83, l_90, l_97, l_99, l_100, l_108, l_115, l_122, l_123, l_127, l_128, l_131, l_135, l_200, l_255, l_256, l_300, l_487, l_495, l_900, l_999, l_1000, l_1700, l_1792, l_1980, l_2048, l_2475, l_2970, l_3121, l_9999, l_10000, l_11351, l_65536, l_100000, l_1000000, ↓l_m1, l_neg, nI_add, pk_mul, pk_sub, q_leT, q_leF, q_ltT, q_ltF, q_eqT, q_eqF, q_m1e, q_m1e2, q_m1lt, q_m1le, q_m1nl, q_m1nle, q_m1s, q_ix, q_jat, q_jput, q_min1, q_min2, q_max1, q_max2, q_or0, q_0or, q_bs, if_true, if_false, true_and, and_true, false_and, and_false, not_true_eq_false, not_false_eq_true, eq_self, Bool.false_eq_true, q_z0, q_z1, f, q_is0]
    · have f := q_fF (show (0 : Int64) = (nI 0).toInt64 by decide) (show (16 : Int64) = (nI 16).toInt64 by decide) hw
      refine no _ _ ?_ ?_
      · simp (disch := omega) only [l_0, l_1, l_2, l_3, l_4, l_5, l_6, l_7, l_8, l_9, l_10, l_11, l_12, l_13, l_14, l_15, l_16, l_17, l_18, l_19, l_20, l_21, l_22, l_23, l_24, l_25, l_26, l_27, l_30, l_31, l_32, l_40, l_48, l_57, l_59, l_60, l_61, l_62, l_64, l_83, l_90, l_97, l_99, l_100, l_108, l_115, l_122, l_123, l_127, l_128, l_131, l_135, l_200, l_255, l_256, l_300, l_487, l_495, l_900, l_999, l_1000, l_1700, l_1792, l_1980, l_2048, l_2475, l_2970, l_3121, l_9999, l_10000, l_11351, l_65536, l_100000, l_1000000, ↓l_m1, l_neg, nI_add, pk_mul, pk_sub, q_leT, q_leF, q_ltT, q_ltF, q_eqT, q_eqF, q_m1e, q_m1e2, q_m1lt, q_m1le, q_m1nl, q_m1nle, q_m1s, q_ix, q_jat, q_jput, q_min1, q_min2, q_max1, q_max2, q_or0, q_0or, q_bs, if_true, if_false, true_and, and_true, false_and, and_false, not_true_eq_false, not_false_eq_true, eq_self, Bool.false_eq_true, q_z0, q_z1, q_wF hw]
      · simp (disch := omega) only [l_0, l_1, l_2, l_3, l_4, l_5, l_6, l_7, l_8, l_9, l_10, l_11, l_12, l_13, l_14, l_15, l_16, l_17, l_18, l_19, l_20, l_21, l_22, l_23, l_24, l_25, l_26, l_27, l_30, l_31, l_32, l_40, l_48, l_57, l_59, l_60, l_61, l_62, l_64, l_83, l_90, l_97, l_99, l_100, l_108, l_115, l_122, l_123, l_127, l_128, l_131, l_135, l_200, l_255, l_256, l_300, l_487, l_495, l_900, l_999, l_1000, l_1700, l_1792, l_1980, l_2048, l_2475, l_2970, l_3121, l_9999, l_10000, l_11351, l_65536, l_100000, l_1000000, ↓l_m1, l_neg, nI_add, pk_mul, pk_sub, q_leT, q_leF, q_ltT, q_ltF, q_eqT, q_eqF, q_m1e, q_m1e2, q_m1lt, q_m1le, q_m1nl, q_m1nle, q_m1s, q_ix, q_jat, q_jput, q_min1, q_min2, q_max1, q_max2, q_or0, q_0or, q_bs, if_true, if_false, true_and, and_true, false_and, and_false, not_true_eq_false, not_false_eq_true, eq_self, Bool.false_eq_true, q_z0, q_z1, f, q_isn]
