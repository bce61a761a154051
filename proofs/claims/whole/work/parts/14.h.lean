/-! ===== PURE 14.h: plan, bear ===== -/
theorem addH_ok {C : Cy} {a d k : Nat} (ok : Ok C) (hn : C 0 0 3 < 8) (ha : a < C 0 0 0) (hd : d ≤ 9999) (hk : 1 ≤ k ∧ k ≤ 4) : Ok (addH C a d k) := by
  obtain ⟨o0, oR, oE, oH, oW⟩ := ok
  have z : ∀ j, j ≠ 3 → addH C a d k 0 0 j = C 0 0 j := fun j hj => addH_t C (by omega) (fun _ => hj)
  refine ⟨?_, fun r hr => ?_, fun y hy => ?_, fun y hy => ?_, fun y hy => ?_⟩
  · rw [z 0 (by omega), z 1 (by omega), z 2 (by omega), addH_n, z 4 (by omega), z 5 (by omega), z 6 (by omega), z 7 (by omega), z 8 (by omega)]; omega
  · rw [z 1 (by omega)] at hr
    rw [z 0 (by omega), addH_t C (by omega) (by omega), addH_t C (by omega) (by omega), addH_t C (by omega) (by omega)]; exact oR r hr
  · rw [z 2 (by omega)] at hy
    rw [z 0 (by omega), addH_t C (by omega) (by omega), addH_t C (by omega) (by omega), addH_t C (by omega) (by omega)]; exact oE y hy
  · rw [addH_n] at hy
    rw [z 0 (by omega)]
    by_cases e : y = C 0 0 3
    · rw [e, addH_r, addH_r, addH_r, addH_r]
      simp only [if_true, Nat.reduceEqDiff, if_false, Nat.one_ne_zero]
      omega
    · rw [addH_o C e, addH_o C e, addH_o C e, addH_o C e]; exact oH y (by omega)
  · rw [z 4 (by omega)] at hy
    rw [z 0 (by omega), addH_t C (by omega) (by omega), addH_t C (by omega) (by omega)]; exact oW y hy
theorem addE_ok {C : Cy} {a : Nat} (ok : Ok C) (hn : C 0 0 2 < 7) (ha : a < C 0 0 0) : Ok (addE C a) := by
  obtain ⟨o0, oR, oE, oH, oW⟩ := ok
  have z : ∀ j, j ≠ 2 → addE C a 0 0 j = C 0 0 j := fun j hj => addE_t C (by omega) (fun _ => hj)
  refine ⟨?_, fun r hr => ?_, fun y hy => ?_, fun y hy => ?_, fun y hy => ?_⟩
  · rw [z 0 (by omega), z 1 (by omega), addE_n, z 3 (by omega), z 4 (by omega), z 5 (by omega), z 6 (by omega), z 7 (by omega), z 8 (by omega)]; omega
  · rw [z 1 (by omega)] at hr
    rw [z 0 (by omega), addE_t C (by omega) (by omega), addE_t C (by omega) (by omega), addE_t C (by omega) (by omega)]; exact oR r hr
  · rw [addE_n] at hy
    rw [z 0 (by omega)]
    by_cases e : y = C 0 0 2
    · rw [e, addE_r, addE_r, addE_r]
      simp only [if_true, Nat.reduceEqDiff, if_false, Nat.one_ne_zero]
      omega
    · rw [addE_o C e, addE_o C e, addE_o C e]; exact oE y (by omega)
  · rw [z 3 (by omega)] at hy
    rw [z 0 (by omega), addE_t C (by omega) (by omega), addE_t C (by omega) (by omega), addE_t C (by omega) (by omega), addE_t C (by omega) (by omega)]; exact oH y hy
  · rw [z 4 (by omega)] at hy
    rw [z 0 (by omega), addE_t C (by omega) (by omega), addE_t C (by omega) (by omega)]; exact oW y hy
theorem addH_CH {C : Cy} {a d k : Nat} {f : Nat → Int32} (h : CH C f) : CH (addH C a d k) (upd (upd (upd (putN f (fun _ => nI 0) (C 0 0 3 * 5) 5) (C 0 0 3 * 5 + 0) (nI a)) (C 0 0 3 * 5 + 1) (nI d)) (C 0 0 3 * 5 + 2) (nI k)) := by
  intro y c hy hc
  rw [addH_n] at hy
  by_cases e : y = C 0 0 3
  · rw [e, addH_r]
    rcases (show c = 0 ∨ c = 1 ∨ c = 2 ∨ c = 3 ∨ c = 4 by omega) with rfl | rfl | rfl | rfl | rfl
    · rw [pk_un (by omega), pk_un (by omega), pk_us]; rfl
    · rw [pk_un (by omega), pk_us]; rfl
    · rw [pk_us]; rfl
    · rw [pk_un (by omega), pk_un (by omega), pk_un (by omega)]; unfold putN; rw [if_pos (by omega)]; rfl
    · rw [pk_un (by omega), pk_un (by omega), pk_un (by omega)]; unfold putN; rw [if_pos (by omega)]; rfl
  · rw [addH_o C e, pk_un (by omega), pk_un (by omega), pk_un (by omega)]
    unfold putN; rw [if_neg (by omega)]; exact h y c (by omega) hc
theorem addE_CX {C : Cy} {a : Nat} {f : Nat → Int32} (h : CX C f) : CX (addE C a) (upd (putN f (fun _ => nI 0) (C 0 0 2 * 5) 5) (C 0 0 2 * 5 + 0) (nI a)) := by
  intro y c hy hc
  rw [addE_n] at hy
  by_cases e : y = C 0 0 2
  · rw [e, addE_r]
    by_cases q : c = 0
    · rw [q, pk_us]; rfl
    · rw [pk_un (by omega), if_neg q]; unfold putN; rw [if_pos (by omega)]
  · rw [addE_o C e, pk_un (by omega)]
    unfold putN; rw [if_neg (by omega)]; exact h y c (by omega) hc
theorem addH_MS {C : Cy} {a d k : Nat} {g : Nat → Int32} (ok : Ok C) (hn : C 0 0 3 < 8) (h : MS C g) : MS (addH C a d k) (upd (upd (upd (upd (upd g 3 (nI (C 0 0 3 + 1))) (83 + 4 * C 0 0 3) (nI a)) (83 + 4 * C 0 0 3 + 1) (nI d)) (83 + 4 * C 0 0 3 + 2) (nI k)) (83 + 4 * C 0 0 3 + 3) (nI 0)) := by
  obtain ⟨o0, oR, oE, oH, oW⟩ := ok
  obtain ⟨a0, a1, a2, a3, a4, a5, a6⟩ := h
  have z : ∀ j, j ≠ 3 → addH C a d k 0 0 j = C 0 0 j := fun j hj => addH_t C (by omega) (fun _ => hj)
  refine ⟨fun j hj => ?_, fun r c hr hc => ?_, fun x hx q => ?_, fun x hx q => ?_, fun x c hx h1 hc => ?_, fun x c hx hc => ?_, fun x c hx hc => ?_⟩
  · rw [pk_un (by omega), pk_un (by omega), pk_un (by omega), pk_un (by omega)]
    by_cases e : j = 3
    · rw [e, pk_us, addH_n]
    · rw [pk_un e, z j e, a0 j hj]
  · rw [z 1 (by omega)] at hr
    rw [pk_un (by omega), pk_un (by omega), pk_un (by omega), pk_un (by omega), pk_un (by omega), addH_t C (by omega) (by omega)]; exact a1 r c hr hc
  · rw [z 2 (by omega)] at hx
    rw [addH_t C (by omega) (by omega)] at q
    rw [pk_un (by omega), pk_un (by omega), pk_un (by omega), pk_un (by omega), pk_un (by omega), addH_t C (by omega) (by omega)]; exact a2 x hx q
  · rw [z 2 (by omega)] at hx
    rw [addH_t C (by omega) (by omega)] at q
    rw [pk_un (by omega), pk_un (by omega), pk_un (by omega), pk_un (by omega), pk_un (by omega), addH_t C (by omega) (by omega)]; exact a3 x hx q
  · rw [z 2 (by omega)] at hx
    rw [pk_un (by omega), pk_un (by omega), pk_un (by omega), pk_un (by omega), pk_un (by omega), addH_t C (by omega) (by omega)]; exact a4 x c hx h1 hc
  · rw [addH_n] at hx
    by_cases e : x = C 0 0 3
    · rw [e, addH_r]
      rcases (show c = 0 ∨ c = 1 ∨ c = 2 ∨ c = 3 by omega) with rfl | rfl | rfl | rfl
      · rw [pk_un (by omega), pk_un (by omega), pk_un (by omega), show 83 + 4 * C 0 0 3 + 0 = 83 + 4 * C 0 0 3 from rfl, pk_us]; rfl
      · rw [pk_un (by omega), pk_un (by omega), pk_us]; rfl
      · rw [pk_un (by omega), pk_us]; rfl
      · rw [pk_us]; rfl
    · rw [addH_o C e, pk_un (by omega), pk_un (by omega), pk_un (by omega), pk_un (by omega), pk_un (by omega)]; exact a5 x c (by omega) hc
  · rw [z 4 (by omega)] at hx
    rw [pk_un (by omega), pk_un (by omega), pk_un (by omega), pk_un (by omega), pk_un (by omega), addH_t C (by omega) (by omega)]; exact a6 x c hx hc
theorem addE_MS {C : Cy} {a : Nat} {g : Nat → Int32} (ok : Ok C) (hn : C 0 0 2 < 7) (h : MS C g) : MS (addE C a) (putN (upd g 2 (nI (C 0 0 2 + 1))) (fun j => if j = 0 then nI a else nI 0) (48 + 5 * C 0 0 2) 5) := by
  obtain ⟨o0, oR, oE, oH, oW⟩ := ok
  obtain ⟨a0, a1, a2, a3, a4, a5, a6⟩ := h
  have z : ∀ j, j ≠ 2 → addE C a 0 0 j = C 0 0 j := fun j hj => addE_t C (by omega) (fun _ => hj)
  have pn : ∀ j, (j < 48 + 5 * C 0 0 2 ∨ 48 + 5 * C 0 0 2 + 5 ≤ j) → putN (upd g 2 (nI (C 0 0 2 + 1))) (fun j => if j = 0 then nI a else nI 0) (48 + 5 * C 0 0 2) 5 j = upd g 2 (nI (C 0 0 2 + 1)) j := fun j hj => by unfold putN; rw [if_neg (by omega)]
  have py : ∀ c, c < 5 → putN (upd g 2 (nI (C 0 0 2 + 1))) (fun j => if j = 0 then nI a else nI 0) (48 + 5 * C 0 0 2) 5 (48 + 5 * C 0 0 2 + c) = if c = 0 then nI a else nI 0 := fun c hc => by
    unfold putN; rw [if_pos (by omega)]; dsimp only; rw [show 48 + 5 * C 0 0 2 + c - (48 + 5 * C 0 0 2) = c by omega]
  refine ⟨fun j hj => ?_, fun r c hr hc => ?_, fun x hx q => ?_, fun x hx q => ?_, fun x c hx h1 hc => ?_, fun x c hx hc => ?_, fun x c hx hc => ?_⟩
  · rw [pn j (by omega)]
    by_cases e : j = 2
    · rw [e, pk_us, addE_n]
    · rw [pk_un e, z j e, a0 j hj]
  · rw [z 1 (by omega)] at hr
    rw [pn _ (by omega), pk_un (by omega), addE_t C (by omega) (by omega)]; exact a1 r c hr hc
  · rw [addE_n] at hx
    by_cases e : x = C 0 0 2
    · rw [e, py 0 (by omega), addE_r]; rfl
    · rw [addE_o C e] at q
      rw [pn _ (by omega), pk_un (by omega), addE_o C e]; exact a2 x (by omega) q
  · rw [addE_n] at hx
    by_cases e : x = C 0 0 2
    · rw [e, addE_r] at q; exact absurd rfl q
    · rw [addE_o C e] at q
      rw [pn _ (by omega), pk_un (by omega), addE_o C e]; exact a3 x (by omega) q
  · rw [addE_n] at hx
    by_cases e : x = C 0 0 2
    · rw [e, py c hc, addE_r, if_neg (by omega), if_neg (by omega)]
    · rw [pn _ (by omega), pk_un (by omega), addE_o C e]; exact a4 x c (by omega) h1 hc
  · rw [z 3 (by omega)] at hx
    rw [pn _ (by omega), pk_un (by omega), addE_t C (by omega) (by omega)]; exact a5 x c hx hc
  · rw [z 4 (by omega)] at hx
    rw [pn _ (by omega), pk_un (by omega), addE_t C (by omega) (by omega)]; exact a6 x c hx hc
theorem ok_plan' {F : Nat} (hF : 2000 < F) : ok_plan F Rel := fun S T v1 v2 v3 h => by
  obtain ⟨C, hC⟩ := Rel_city h
  have hC' := hC
  obtain ⟨ok, h8, wb, ⟨⟨c0, c1, c2, c3, c5, c6, c8, c9, c10⟩, cR, cT, cF, cX, cH, cW⟩, hM, nr, wr⟩ := hC'
  have c0 : S.1 6 = nI (C 0 0 5) := c0; have c1 : S.1 7 = nI (C 0 0 6) := c1; have c2 : S.1 8 = nI (C 0 0 7) := c2; have c3 : S.1 9 = nI (C 0 0 8) := c3; have c5 : S.1 11 = nI (C 0 0 0) := c5; have c6 : S.1 12 = nI (C 0 0 1) := c6; have c8 : S.1 14 = nI (C 0 0 2) := c8; have c9 : S.1 15 = nI (C 0 0 3) := c9; have c10 : S.1 16 = nI (C 0 0 4) := c10; have cT : CT C (S.2.2.1 1) := cT; have cF : CF C (S.2.2.1 2) := cF; have cX : CX C (S.2.2.1 5) := cX; have cH : CH C (S.2.2.1 6) := cH; have cW : CW C (S.2.2.1 7) := cW
  have o0 := ok.1
  have same : ∀ st : Int32, Rel (sA (sI (sI S 5 st) 15 (nI (C 0 0 3))) 6 (S.2.2.1 6)) (sB (sA (sI T 0 st) 0 (T.2.2.1 0)) 0 (T.2.2.2 0)) := by
    intro st
    have e1 : va_up (va_up S.1 5 st) 15 (nI (C 0 0 3)) = va_up S.1 5 st := by rw [← c9]; funext j; unfold va_up; by_cases e : j = 15 <;> simp [e]
    have e2 : sA (sI (sI S 5 st) 15 (nI (C 0 0 3))) 6 (S.2.2.1 6) = sI S 5 st := by
      show (va_up (va_up S.1 5 st) 15 (nI (C 0 0 3)), S.2.1, va_up S.2.2.1 6 (S.2.2.1 6), S.2.2.2) = (va_up S.1 5 st, S.2)
      rw [e1, up_id]
    have e3 : sB (sA (sI T 0 st) 0 (T.2.2.1 0)) 0 (T.2.2.2 0) = sI T 0 st := by
      show (va_up T.1 0 st, T.2.1, va_up T.2.2.1 0 (T.2.2.1 0), va_up T.2.2.2 0 (T.2.2.2 0)) = (va_up T.1 0 st, T.2)
      rw [up_id, up_id]
    rw [e2, e3]; exact Rel_st st h
  unfold xx_plan xm_plan
  rw [c5, c9]
  have no : ∀ (st : Int32) (x : Option (Int32 × Int32 × Int32 × (Nat → Int32))) (y : Option (Int32 × Int32 × (Nat → Int32) × (Nat → Int64))), x = some (m1, st, nI (C 0 0 3), S.2.2.1 6) → y = some (m1, st, T.2.2.1 0, T.2.2.2 0) → ∃ (r : Int32) (S2 T2 : vS), x.map (fun u => (u.1, (sA (sI (sI S 5 u.2.1) 15 u.2.2.1) 6 u.2.2.2))) = some (r, S2) ∧ y.map (fun u => (u.1, (sB (sA (sI T 0 u.2.1) 0 u.2.2.1) 0 u.2.2.2))) = some (r, T2) ∧ Rel S2 T2 := by
    rintro st x y rfl rfl; exact ⟨m1, _, _, rfl, rfl, same st⟩
  unfold X11_plan X12_plan X11_plan_j28 X12_plan_j32 X11_none X11_answer X12_refuse X12_gives
  rcases rng v1 (n := C 0 0 0) (by omega) with ⟨a, ha, rfl⟩ | hv
  case inr => exact no (nI 1) _ _ (by simp (disch := omega) only [l_0, l_1, l_2, l_3, l_4, l_5, l_6, l_7, l_8, l_9, l_10, l_11, l_12, l_13, l_14, l_15, l_16, l_17, l_18, l_19, l_20, l_21, l_22, l_23, l_24, l_25, l_26, l_27, l_30, l_31, l_32, l_40, l_48, l_57, l_59, l_60, l_61, l_62, l_64, l_83, l_90, l_97, l_99, l_100, l_108, l_115, l_122, l_123, l_127, l_128, l_131, l_135, l_200, l_255, l_256, l_300, l_487, l_495, l_900, l_999, l_1000, l_1700, l_1792, l_1980, l_2048, l_2475, l_2970, l_3121, l_9999, l_10000, l_11351, l_65536, l_100000, l_1000000, ↓l_m1, l_neg, nI_add, pk_mul, pk_sub, q_leT, q_leF, q_ltT, q_ltF, q_eqT, q_eqF, q_m1e, q_m1e2, q_m1lt, q_m1le, q_m1nl, q_m1nle, q_m1s, q_ix, q_jat, q_jput, q_min1, q_min2, q_max1, q_max2, q_or0, q_0or, q_bs, if_true, if_false, true_and, and_true, false_and, and_false, not_true_eq_false, not_false_eq_true, eq_self, Bool.false_eq_true, q_z0, q_z1, q_iCF hv]) (by rw [m_iCF hM hv, q_bs, if_pos (show nI 0 = (0 : Int32) from rfl)]; rfl)
  rcases rngw v2 (a := 0) (b := 999) (by omega) (by omega) with ⟨d, d1, d2, rfl⟩ | hv
  case inr =>
    have f := q_fF (show (0 : Int64) = (nI 0).toInt64 by decide) (show (999 : Int64) = (nI 999).toInt64 by decide) hv
    exact no (nI 1) _ _ (by simp (disch := omega) only [l_0, l_1, l_2, l_3, l_4, l_5, l_6, l_7, l_8, l_9, l_10, l_11, l_12, l_13, l_14, l_15, l_16, l_17, l_18, l_19, l_20, l_21, l_22, l_23, l_24, l_25, l_26, l_27, l_30, l_31, l_32, l_40, l_48, l_57, l_59, l_60, l_61, l_62, l_64, l_83, l_90, l_97, l_99, l_100, l_108, l_115, l_122, l_123, l_127, l_128, l_131, l_135, l_200, l_255, l_256, l_300, l_487, l_495, l_900, l_999, l_1000, l_1700, l_1792, l_1980, l_2048, l_2475, l_2970, l_3121, l_9999, l_10000, l_11351, l_65536, l_100000, l_1000000, ↓l_m1, l_neg, nI_add, pk_mul, pk_sub, q_leT, q_leF, q_ltT, q_ltF, q_eqT, q_eqF, q_m1e, q_m1e2, q_m1lt, q_m1le, q_m1nl, q_m1nle, q_m1s, q_ix, q_jat, q_jput, q_min1, q_min2, q_max1, q_max2, q_or0, q_0or, q_bs, if_true, if_false, true_and, and_true, false_and, and_false, not_true_eq_false, not_false_eq_true, eq_self, Bool.false_eq_true, q_z0, q_z1, q_iCT, q_wF hv]) (by simp (disch := omega) only [l_0, l_1, l_2, l_3, l_4, l_5, l_6, l_7, l_8, l_9, l_10, l_11, l_12, l_13, l_14, l_15, l_16, l_17, l_18, l_19, l_20, l_21, l_22, l_23, l_24, l_25, l_26, l_27, l_30, l_31, l_32, l_40, l_48, l_57, l_59, l_60, l_61, l_62, l_64, l_83, l_90, l_97, l_99, l_100, l_108, l_115, l_122, l_123, l_127, l_128, l_131, l_135, l_200, l_255, l_256, l_300, l_487, l_495, l_900, l_999, l_1000, l_1700, l_1792, l_1980, l_2048, l_2475, l_2970, l_3121, l_9999, l_10000, l_11351, l_65536, l_100000, l_1000000, ↓l_m1, l_neg, nI_add, pk_mul, pk_sub, q_leT, q_leF, q_ltT, q_ltF, q_eqT, q_eqF, q_m1e, q_m1e2, q_m1lt, q_m1le, q_m1nl, q_m1nle, q_m1s, q_ix, q_jat, q_jput, q_min1, q_min2, q_max1, q_max2, q_or0, q_0or, q_bs, if_true, if_false, true_and, and_true, false_and, and_false, not_true_eq_false, not_false_eq_true, eq_self, Bool.false_eq_true, q_z0, q_z1, m_iCT hM, f])
  have f1 := q_fT (k := d) (show (0 : Int64) = (nI 0).toInt64 by decide) (show (999 : Int64) = (nI 999).toInt64 by decide) d1 d2 (by omega)
  rcases rngw v3 (a := 1) (b := 4) (by omega) (by omega) with ⟨k, k1, k2, rfl⟩ | hv
  case inr =>
    have f := q_fF (show (1 : Int64) = (nI 1).toInt64 by decide) (show (4 : Int64) = (nI 4).toInt64 by decide) hv
    exact no (nI 1) _ _ (by simp (disch := omega) only [l_0, l_1, l_2, l_3, l_4, l_5, l_6, l_7, l_8, l_9, l_10, l_11, l_12, l_13, l_14, l_15, l_16, l_17, l_18, l_19, l_20, l_21, l_22, l_23, l_24, l_25, l_26, l_27, l_30, l_31, l_32, l_40, l_48, l_57, l_59, l_60, l_61, l_62, l_64, l_83, l_90, l_97, l_99, l_100, l_108, l_115, l_122, l_123, l_127, l_128, l_131, l_135, l_200, l_255, l_256, l_300, l_487, l_495, l_900, l_999, l_1000, l_1700, l_1792, l_1980, l_2048, l_2475, l_2970, l_3121, l_9999, l_10000, l_11351, l_65536, l_100000, l_1000000, ↓l_m1, l_neg, nI_add, pk_mul, pk_sub, q_leT, q_leF, q_ltT, q_ltF, q_eqT, q_eqF, q_m1e, q_m1e2, q_m1lt, q_m1le, q_m1nl, q_m1nle, q_m1s, q_ix, q_jat, q_jput, q_min1, q_min2, q_max1, q_max2, q_or0, q_0or, q_bs, if_true, if_false, true_and, and_true, false_and, and_false, not_true_eq_false, not_false_eq_true, eq_self, Bool.false_eq_true, q_z0, q_z1, q_iCT, q_wT, q_wF hv]) (by simp (disch := omega) only [l_0, l_1, l_2, l_3, l_4, l_5, l_6, l_7, l_8, l_9, l_10, l_11, l_12, l_13, l_14, l_15, l_16, l_17, l_18, l_19, l_20, l_21, l_22, l_23, l_24, l_25, l_26, l_27, l_30, l_31, l_32, l_40, l_48, l_57, l_59, l_60, l_61, l_62, l_64, l_83, l_90, l_97, l_99, l_100, l_108, l_115, l_122, l_123, l_127, l_128, l_131, l_135, l_200, l_255, l_256, l_300, l_487, l_495, l_900, l_999, l_1000, l_1700, l_1792, l_1980, l_2048, l_2475, l_2970, l_3121, l_9999, l_10000, l_11351, l_65536, l_100000, l_1000000, ↓l_m1, l_neg, nI_add, pk_mul, pk_sub, q_leT, q_leF, q_ltT, q_ltF, q_eqT, q_eqF, q_m1e, q_m1e2, q_m1lt, q_m1le, q_m1nl, q_m1nle, q_m1s, q_ix, q_jat, q_jput, q_min1, q_min2, q_max1, q_max2, q_or0, q_0or, q_bs, if_true, if_false, true_and, and_true, false_and, and_false, not_true_eq_false, not_false_eq_true, eq_self, Bool.false_eq_true, q_z0, q_z1, m_iCT hM, f1, f])
  have f2 := q_fT (k := k) (show (1 : Int64) = (nI 1).toInt64 by decide) (show (4 : Int64) = (nI 4).toInt64 by decide) k1 k2 (by omega)
  have y3 : T.2.2.1 0 3 = nI (C 0 0 3) := hM.1 3 (by omega)
  by_cases full : C 0 0 3 = 8
  · refine no (nI 4) _ _ ?_ ?_
    · unfold X7_isFull
      rw [show (Int32.ofNat 40 : Int32) = nI 40 from rfl]
      simp (disch := omega) only [l_0, l_1, l_2, l_3, l_4, l_5, l_6, l_7, l_8, l_9, l_10, l_11, l_12, l_13, l_14, l_15, l_16, l_17, l_18, l_19, l_20, l_21, l_22, l_23, l_24, l_25, l_26, l_27, l_30, l_31, l_32, l_40, l_48, l_57, l_59, l_60, l_61, l_62, l_64, l_83, l_90, l_97, l_99, l_100, l_108, l_115, l_122, l_123, l_127, l_128, l_131, l_135, l_200, l_255, l_256, l_300, l_487, l_495, l_900, l_999, l_1000, l_1700, l_1792, l_1980, l_2048, l_2475, l_2970, l_3121, l_9999, l_10000, l_11351, l_65536, l_100000, l_1000000, ↓l_m1, l_neg, nI_add, pk_mul, pk_sub, q_leT, q_leF, q_ltT, q_ltF, q_eqT, q_eqF, q_m1e, q_m1e2, q_m1lt, q_m1le, q_m1nl, q_m1nle, q_m1s, q_ix, q_jat, q_jput, q_min1, q_min2, q_max1, q_max2, q_or0, q_0or, q_bs, if_true, if_false, true_and, and_true, false_and, and_false, not_true_eq_false, not_false_eq_true, eq_self, Bool.false_eq_true, q_z0, q_z1, q_iCT, q_wT]
    · simp (disch := omega) only [l_0, l_1, l_2, l_3, l_4, l_5, l_6, l_7, l_8, l_9, l_10, l_11, l_12, l_13, l_14, l_15, l_16, l_17, l_18, l_19, l_20, l_21, l_22, l_23, l_24, l_25, l_26, l_27, l_30, l_31, l_32, l_40, l_48, l_57, l_59, l_60, l_61, l_62, l_64, l_83, l_90, l_97, l_99, l_100, l_108, l_115, l_122, l_123, l_127, l_128, l_131, l_135, l_200, l_255, l_256, l_300, l_487, l_495, l_900, l_999, l_1000, l_1700, l_1792, l_1980, l_2048, l_2475, l_2970, l_3121, l_9999, l_10000, l_11351, l_65536, l_100000, l_1000000, ↓l_m1, l_neg, nI_add, pk_mul, pk_sub, q_leT, q_leF, q_ltT, q_ltF, q_eqT, q_eqF, q_m1e, q_m1e2, q_m1lt, q_m1le, q_m1nl, q_m1nle, q_m1s, q_ix, q_jat, q_jput, q_min1, q_min2, q_max1, q_max2, q_or0, q_0or, q_bs, if_true, if_false, true_and, and_true, false_and, and_false, not_true_eq_false, not_false_eq_true, eq_self, Bool.false_eq_true, q_z0, q_z1, m_iCT hM, f1, f2, y3]
  have fu : X7_isFull 40 (nI 5) (nI (C 0 0 3)) = some (nI 0) := by
    unfold X7_isFull
    rw [show (Int32.ofNat 40 : Int32) = nI 40 from rfl]
    simp (disch := omega) only [l_0, l_1, l_2, l_3, l_4, l_5, l_6, l_7, l_8, l_9, l_10, l_11, l_12, l_13, l_14, l_15, l_16, l_17, l_18, l_19, l_20, l_21, l_22, l_23, l_24, l_25, l_26, l_27, l_30, l_31, l_32, l_40, l_48, l_57, l_59, l_60, l_61, l_62, l_64, l_83, l_90, l_97, l_99, l_100, l_108, l_115, l_122, l_123, l_127, l_128, l_131, l_135, l_200, l_255, l_256, l_300, l_487, l_495, l_900, l_999, l_1000, l_1700, l_1792, l_1980, l_2048, l_2475, l_2970, l_3121, l_9999, l_10000, l_11351, l_65536, l_100000, l_1000000, ↓l_m1, l_neg, nI_add, pk_mul, pk_sub, q_leT, q_leF, q_ltT, q_ltF, q_eqT, q_eqF, q_m1e, q_m1e2, q_m1lt, q_m1le, q_m1nl, q_m1nle, q_m1s, q_ix, q_jat, q_jput, q_min1, q_min2, q_max1, q_max2, q_or0, q_0or, q_bs, if_true, if_false, true_and, and_true, false_and, and_false, not_true_eq_false, not_false_eq_true, eq_self, Bool.false_eq_true, q_z0, q_z1]
  have ad := add_e (F := F) (n := 40) (w := 5) (m := C 0 0 3) (f := S.2.2.1 6) (by omega) (by omega) (by omega) (by omega)
  have x1 : X0_addHappening F (nI (C 0 0 3)) (S.2.2.1 6) (nI a) (nI d) (nI k) = some (nI (C 0 0 3), nI (C 0 0 3 + 1), upd (upd (upd (putN (S.2.2.1 6) (fun _ => nI 0) (C 0 0 3 * 5) 5) (C 0 0 3 * 5 + 0) (nI a)) (C 0 0 3 * 5 + 1) (nI d)) (C 0 0 3 * 5 + 2) (nI k)) := by
    unfold X0_addHappening
    simp (disch := omega) only [l_0, l_1, l_2, l_3, l_4, l_5, l_6, l_7, l_8, l_9, l_10, l_11, l_12, l_13, l_14, l_15, l_16, l_17, l_18, l_19, l_20, l_21, l_22, l_23, l_24, l_25, l_26, l_27, l_30, l_31, l_32, l_40, l_48, l_57, l_59, l_60, l_61, l_62, l_64, l_83, l_90, l_97, l_99, l_100, l_108, l_115, l_122, l_123, l_127, l_128, l_131, l_135, l_200, l_255, l_256, l_300, l_487, l_495, l_900, l_999, l_1000, l_1700, l_1792, l_1980, l_2048, l_2475, l_2970, l_3121, l_9999, l_10000, l_11351, l_65536, l_100000, l_1000000, ↓l_m1, l_neg, nI_add, pk_mul, pk_sub, q_leT, q_leF, q_ltT, q_ltF, q_eqT, q_eqF, q_m1e, q_m1e2, q_m1lt, q_m1le, q_m1nl, q_m1nle, q_m1s, q_ix, q_jat, q_jput, q_min1, q_min2, q_max1, q_max2, q_or0, q_0or, q_bs, if_true, if_false, true_and, and_true, false_and, and_false, not_true_eq_false, not_false_eq_true, eq_self, Bool.false_eq_true, q_z0, q_z1, ad, q_set]
  unfold X12_happeningRow
  have jl : ∀ (f : Nat → Int64) (k : Nat) (x : Int64), k < 2 ^ 31 → jputL f (nI k) x = vp_updL f k x := fun f k x hk => jputL_nI f x hk
  have okD := addH_ok (a := a) (d := d) (k := k) ok (by omega) ha (by omega) ⟨k1, k2⟩
  refine ⟨nI (C 0 0 3), _, _, by simp (disch := omega) only [l_0, l_1, l_2, l_3, l_4, l_5, l_6, l_7, l_8, l_9, l_10, l_11, l_12, l_13, l_14, l_15, l_16, l_17, l_18, l_19, l_20, l_21, l_22, l_23, l_24, l_25, l_26, l_27, l_30, l_31, l_32, l_40, l_48, l_57, l_59, l_60, l_61, l_62, l_64, l_83, l_90, l_97, l_99, l_100, l_108, l_115, l_122, l_123, l_127, l_128, l_131, l_135, l_200, l_255, l_256, l_300, l_487, l_495, l_900, l_999, l_1000, l_1700, l_1792, l_1980, l_2048, l_2475, l_2970, l_3121, l_9999, l_10000, l_11351, l_65536, l_100000, l_1000000, ↓l_m1, l_neg, nI_add, pk_mul, pk_sub, q_leT, q_leF, q_ltT, q_ltF, q_eqT, q_eqF, q_m1e, q_m1e2, q_m1lt, q_m1le, q_m1nl, q_m1nle, q_m1s, q_ix, q_jat, q_jput, q_min1, q_min2, q_max1, q_max2, q_or0, q_0or, q_bs, if_true, if_false, true_and, and_true, false_and, and_false, not_true_eq_false, not_false_eq_true, eq_self, Bool.false_eq_true, q_z0, q_z1, q_iCT, q_wT, fu, x1]; rfl, by simp (disch := omega) only [l_0, l_1, l_2, l_3, l_4, l_5, l_6, l_7, l_8, l_9, l_10, l_11, l_12, l_13, l_14, l_15, l_16, l_17, l_18, l_19, l_20, l_21, l_22, l_23, l_24, l_25, l_26, l_27, l_30, l_31, l_32, l_40, l_48, l_57, l_59, l_60, l_61, l_62, l_64, l_83, l_90, l_97, l_99, l_100, l_108, l_115, l_122, l_123, l_127, l_128, l_131, l_135, l_200, l_255, l_256, l_300, l_487, l_495, l_900, l_999, l_1000, l_1700, l_1792, l_1980, l_2048, l_2475, l_2970, l_3121, l_9999, l_10000, l_11351, l_65536, l_100000, l_1000000, ↓l_m1, l_neg, nI_add, pk_mul, pk_sub, q_leT, q_leF, q_ltT, q_ltF, q_eqT, q_eqF, q_m1e, q_m1e2, q_m1lt, q_m1le, q_m1nl, q_m1nle, q_m1s, q_ix, q_jat, q_jput, q_min1, q_min2, q_max1, q_max2, q_or0, q_0or, q_bs, if_true, if_false, true_and, and_true, false_and, and_false, not_true_eq_false, not_false_eq_true, eq_self, Bool.false_eq_true, q_z0, q_z1, m_iCT hM, f1, f2, y3, jl]; rfl, ?_⟩
  refine Rel_of (RelR_eq (Rel_R h) ⟨fun j hj => ?_, ⟨rfl, rfl⟩, fun j hj => ?_, fun _ _ => rfl⟩ ⟨fun j hj => ?_, ⟨rfl, rfl⟩, fun j h1 h2 => ?_, fun j hj => ?_, fun j h1 h2 => ?_, rfl⟩) rfl (R_ci_of (C := addH C a d k) ⟨okD, ?_, ?_, ⟨⟨?_, ?_, ?_, ?_, ?_, ?_, ?_, ?_, ?_⟩, ?_, ?_, ?_, ?_, ?_, ?_⟩, ?_, ?_, ?_⟩)
  · simp (disch := omega) only [sI, sA, sB, up_n]
  · simp (disch := omega) only [sI, sA, sB, up_n]
  · simp (disch := omega) only [sI, sA, sB, up_n]
  · simp (disch := omega) only [sI, sA, sB, up_s, pk_un]
  · simp (disch := omega) only [sI, sA, sB, up_n]
  · simp (disch := omega) only [sI, sA, sB, up_s]
    exact pk_uLn (by omega)
  · rw [addH_t C (by omega) (by omega)]; exact h8
  · intro x hx
    rw [addH_t C (by omega) (by omega)] at hx
    rw [addH_t C (by omega) (by omega), addH_n, fb_ct_succ]
    have e : fb_ct (fate (addH C a d k) 1) (C 0 0 3) = fb_ct (fate C 1) (C 0 0 3) := fb_ct_cong (fun j hj => by unfold fate; rw [addH_o C (by omega)])
    rw [e]
    have := wb x hx
    omega
  · rw [addH_t C (by omega) (by omega)]; exact c0
  · rw [addH_t C (by omega) (by omega)]; exact c1
  · rw [addH_t C (by omega) (by omega)]; exact c2
  · rw [addH_t C (by omega) (by omega)]; exact c3
  · rw [addH_t C (by omega) (by omega)]; exact c5
  · rw [addH_t C (by omega) (by omega)]; exact c6
  · rw [addH_t C (by omega) (by omega)]; exact c8
  · rw [addH_n]; rfl
  · rw [addH_t C (by omega) (by omega)]; exact c10
  · intro r c hr hc
    rw [addH_t C (by omega) (by omega)] at hr
    rw [addH_t C (by omega) (by omega)]; exact cR r c hr hc
  · exact CT_s cT ⟨addH_t C (by omega) (by omega), addH_t C (by omega) (by omega), fun r c => addH_t C (by omega) (by omega)⟩
  · exact CF_s cF ⟨addH_t C (by omega) (by omega), addH_t C (by omega) (by omega), fun r c => addH_t C (by omega) (by omega)⟩
  · exact CX_t cX (addH_t C (by omega) (by omega)) (fun r c => addH_t C (by omega) (by omega))
  · exact addH_CH cH
  · exact CW_t cW (addH_t C (by omega) (by omega)) (fun r c => addH_t C (by omega) (by omega))
  · exact addH_MS ok (by omega) hM
  · refine NR_add (s0 := 3) nr okD (Or.inr rfl) (addH_n C a d k) (fun s h1 h4 hs => ?_) ?_ (fun j h1 h2 => ?_)
    · rcases (show s = 1 ∨ s = 2 ∨ s = 4 by omega) with rfl | rfl | rfl
      · show addH C a d k 0 0 0 = C 0 0 0; exact addH_t C (by omega) (by omega)
      · show addH C a d k 0 0 2 = C 0 0 2; exact addH_t C (by omega) (by omega)
      · show addH C a d k 0 0 4 = C 0 0 4; exact addH_t C (by omega) (by omega)
    · exact pk_uLs
    · exact pk_uLn h2
  · exact WR_le (WR_cong wr (fun j hj => by simp (disch := omega) only [sI, sA, sB, up_s, pk_un])) (by rw [addH_t C (by omega) (by omega)]; exact Nat.le_refl _) (by rw [addH_t C (by omega) (by omega)]; exact Nat.le_refl _) (by rw [addH_n]; omega) (by rw [addH_t C (by omega) (by omega)]; exact Nat.le_refl _)
theorem ok_bear' {F : Nat} (hF : 2000 < F) : ok_bear F Rel := fun S T v1 h => by
  obtain ⟨C, hC⟩ := Rel_city h
  have hC' := hC
  obtain ⟨ok, h8, wb, ⟨⟨c0, c1, c2, c3, c5, c6, c8, c9, c10⟩, cR, cT, cF, cX, cH, cW⟩, hM, nr, wr⟩ := hC'
  have c0 : S.1 6 = nI (C 0 0 5) := c0; have c1 : S.1 7 = nI (C 0 0 6) := c1; have c2 : S.1 8 = nI (C 0 0 7) := c2; have c3 : S.1 9 = nI (C 0 0 8) := c3; have c5 : S.1 11 = nI (C 0 0 0) := c5; have c6 : S.1 12 = nI (C 0 0 1) := c6; have c8 : S.1 14 = nI (C 0 0 2) := c8; have c9 : S.1 15 = nI (C 0 0 3) := c9; have c10 : S.1 16 = nI (C 0 0 4) := c10; have cT : CT C (S.2.2.1 1) := cT; have cF : CF C (S.2.2.1 2) := cF; have cX : CX C (S.2.2.1 5) := cX; have cH : CH C (S.2.2.1 6) := cH; have cW : CW C (S.2.2.1 7) := cW
  have o0 := ok.1
  have same : ∀ st : Int32, Rel (sA (sI (sI S 5 st) 14 (nI (C 0 0 2))) 5 (S.2.2.1 5)) (sB (sA (sI T 0 st) 0 (T.2.2.1 0)) 0 (T.2.2.2 0)) := by
    intro st
    have e1 : va_up (va_up S.1 5 st) 14 (nI (C 0 0 2)) = va_up S.1 5 st := by rw [← c8]; funext j; unfold va_up; by_cases e : j = 14 <;> simp [e]
    have e2 : sA (sI (sI S 5 st) 14 (nI (C 0 0 2))) 5 (S.2.2.1 5) = sI S 5 st := by
      show (va_up (va_up S.1 5 st) 14 (nI (C 0 0 2)), S.2.1, va_up S.2.2.1 5 (S.2.2.1 5), S.2.2.2) = (va_up S.1 5 st, S.2)
      rw [e1, up_id]
    have e3 : sB (sA (sI T 0 st) 0 (T.2.2.1 0)) 0 (T.2.2.2 0) = sI T 0 st := by
      show (va_up T.1 0 st, T.2.1, va_up T.2.2.1 0 (T.2.2.1 0), va_up T.2.2.2 0 (T.2.2.2 0)) = (va_up T.1 0 st, T.2)
      rw [up_id, up_id]
    rw [e2, e3]; exact Rel_st st h
  unfold xx_bear xm_bear
  rw [c5, c8]
  have no : ∀ (st : Int32) (x : Option (Int32 × Int32 × Int32 × (Nat → Int32))) (y : Option (Int32 × Int32 × (Nat → Int32) × (Nat → Int64))), x = some (m1, st, nI (C 0 0 2), S.2.2.1 5) → y = some (m1, st, T.2.2.1 0, T.2.2.2 0) → ∃ (r : Int32) (S2 T2 : vS), x.map (fun u => (u.1, (sA (sI (sI S 5 u.2.1) 14 u.2.2.1) 5 u.2.2.2))) = some (r, S2) ∧ y.map (fun u => (u.1, (sB (sA (sI T 0 u.2.1) 0 u.2.2.1) 0 u.2.2.2))) = some (r, T2) ∧ Rel S2 T2 := by
    rintro st x y rfl rfl; exact ⟨m1, _, _, rfl, rfl, same st⟩
  unfold X11_bear X12_bear X11_none X11_answer X12_refuse X12_gives
  rcases rng v1 (n := C 0 0 0) (by omega) with ⟨a, ha, rfl⟩ | hv
  case inr => exact no (nI 1) _ _ (by simp (disch := omega) only [l_0, l_1, l_2, l_3, l_4, l_5, l_6, l_7, l_8, l_9, l_10, l_11, l_12, l_13, l_14, l_15, l_16, l_17, l_18, l_19, l_20, l_21, l_22, l_23, l_24, l_25, l_26, l_27, l_30, l_31, l_32, l_40, l_48, l_57, l_59, l_60, l_61, l_62, l_64, l_83, l_90, l_97, l_99, l_100, l_108, l_115, l_122, l_123, l_127, l_128, l_131, l_135, l_200, l_255, l_256, l_300, l_487, l_495, l_900, l_999, l_1000, l_1700, l_1792, l_1980, l_2048, l_2475, l_2970, l_3121, l_9999, l_10000, l_11351, l_65536, l_100000, l_1000000, ↓l_m1, l_neg, nI_add, pk_mul, pk_sub, q_leT, q_leF, q_ltT, q_ltF, q_eqT, q_eqF, q_m1e, q_m1e2, q_m1lt, q_m1le, q_m1nl, q_m1nle, q_m1s, q_ix, q_jat, q_jput, q_min1, q_min2, q_max1, q_max2, q_or0, q_0or, q_bs, if_true, if_false, true_and, and_true, false_and, and_false, not_true_eq_false, not_false_eq_true, eq_self, Bool.false_eq_true, q_z0, q_z1, q_iCF hv]) (by simp (disch := omega) only [l_0, l_1, l_2, l_3, l_4, l_5, l_6, l_7, l_8, l_9, l_10, l_11, l_12, l_13, l_14, l_15, l_16, l_17, l_18, l_19, l_20, l_21, l_22, l_23, l_24, l_25, l_26, l_27, l_30, l_31, l_32, l_40, l_48, l_57, l_59, l_60, l_61, l_62, l_64, l_83, l_90, l_97, l_99, l_100, l_108, l_115, l_122, l_123, l_127, l_128, l_131, l_135, l_200, l_255, l_256, l_300, l_487, l_495, l_900, l_999, l_1000, l_1700, l_1792, l_1980, l_2048, l_2475, l_2970, l_3121, l_9999, l_10000, l_11351, l_65536, l_100000, l_1000000, ↓l_m1, l_neg, nI_add, pk_mul, pk_sub, q_leT, q_leF, q_ltT, q_ltF, q_eqT, q_eqF, q_m1e, q_m1e2, q_m1lt, q_m1le, q_m1nl, q_m1nle, q_m1s, q_ix, q_jat, q_jput, q_min1, q_min2, q_max1, q_max2, q_or0, q_0or, q_bs, if_true, if_false, true_and, and_true, false_and, and_false, not_true_eq_false, not_false_eq_true, eq_self, Bool.false_eq_true, q_z0, q_z1, m_iCF hM hv])
  have y2 : T.2.2.1 0 2 = nI (C 0 0 2) := hM.1 2 (by omega)
  by_cases full : C 0 0 2 = 7
  · refine no (nI 4) _ _ ?_ ?_
    · unfold X7_isFull
      rw [show (Int32.ofNat 35 : Int32) = nI 35 from rfl]
      simp (disch := omega) only [l_0, l_1, l_2, l_3, l_4, l_5, l_6, l_7, l_8, l_9, l_10, l_11, l_12, l_13, l_14, l_15, l_16, l_17, l_18, l_19, l_20, l_21, l_22, l_23, l_24, l_25, l_26, l_27, l_30, l_31, l_32, l_40, l_48, l_57, l_59, l_60, l_61, l_62, l_64, l_83, l_90, l_97, l_99, l_100, l_108, l_115, l_122, l_123, l_127, l_128, l_131, l_135, l_200, l_255, l_256, l_300, l_487, l_495, l_900, l_999, l_1000, l_1700, l_1792, l_1980, l_2048, l_2475, l_2970, l_3121, l_9999, l_10000, l_11351, l_65536, l_100000, l_1000000, ↓l_m1, l_neg, nI_add, pk_mul, pk_sub, q_leT, q_leF, q_ltT, q_ltF, q_eqT, q_eqF, q_m1e, q_m1e2, q_m1lt, q_m1le, q_m1nl, q_m1nle, q_m1s, q_ix, q_jat, q_jput, q_min1, q_min2, q_max1, q_max2, q_or0, q_0or, q_bs, if_true, if_false, true_and, and_true, false_and, and_false, not_true_eq_false, not_false_eq_true, eq_self, Bool.false_eq_true, q_z0, q_z1, q_iCT]
    · simp (disch := omega) only [l_0, l_1, l_2, l_3, l_4, l_5, l_6, l_7, l_8, l_9, l_10, l_11, l_12, l_13, l_14, l_15, l_16, l_17, l_18, l_19, l_20, l_21, l_22, l_23, l_24, l_25, l_26, l_27, l_30, l_31, l_32, l_40, l_48, l_57, l_59, l_60, l_61, l_62, l_64, l_83, l_90, l_97, l_99, l_100, l_108, l_115, l_122, l_123, l_127, l_128, l_131, l_135, l_200, l_255, l_256, l_300, l_487, l_495, l_900, l_999, l_1000, l_1700, l_1792, l_1980, l_2048, l_2475, l_2970, l_3121, l_9999, l_10000, l_11351, l_65536, l_100000, l_1000000, ↓l_m1, l_neg, nI_add, pk_mul, pk_sub, q_leT, q_leF, q_ltT, q_ltF, q_eqT, q_eqF, q_m1e, q_m1e2, q_m1lt, q_m1le, q_m1nl, q_m1nle, q_m1s, q_ix, q_jat, q_jput, q_min1, q_min2, q_max1, q_max2, q_or0, q_0or, q_bs, if_true, if_false, true_and, and_true, false_and, and_false, not_true_eq_false, not_false_eq_true, eq_self, Bool.false_eq_true, q_z0, q_z1, m_iCT hM, y2]
  have fu : X7_isFull 35 (nI 5) (nI (C 0 0 2)) = some (nI 0) := by
    unfold X7_isFull
    rw [show (Int32.ofNat 35 : Int32) = nI 35 from rfl]
    simp (disch := omega) only [l_0, l_1, l_2, l_3, l_4, l_5, l_6, l_7, l_8, l_9, l_10, l_11, l_12, l_13, l_14, l_15, l_16, l_17, l_18, l_19, l_20, l_21, l_22, l_23, l_24, l_25, l_26, l_27, l_30, l_31, l_32, l_40, l_48, l_57, l_59, l_60, l_61, l_62, l_64, l_83, l_90, l_97, l_99, l_100, l_108, l_115, l_122, l_123, l_127, l_128, l_131, l_135, l_200, l_255, l_256, l_300, l_487, l_495, l_900, l_999, l_1000, l_1700, l_1792, l_1980, l_2048, l_2475, l_2970, l_3121, l_9999, l_10000, l_11351, l_65536, l_100000, l_1000000, ↓l_m1, l_neg, nI_add, pk_mul, pk_sub, q_leT, q_leF, q_ltT, q_ltF, q_eqT, q_eqF, q_m1e, q_m1e2, q_m1lt, q_m1le, q_m1nl, q_m1nle, q_m1s, q_ix, q_jat, q_jput, q_min1, q_min2, q_max1, q_max2, q_or0, q_0or, q_bs, if_true, if_false, true_and, and_true, false_and, and_false, not_true_eq_false, not_false_eq_true, eq_self, Bool.false_eq_true, q_z0, q_z1]
  have ad := add_e (F := F) (n := 35) (w := 5) (m := C 0 0 2) (f := S.2.2.1 5) (by omega) (by omega) (by omega) (by omega)
  have x1 : X0_addExtra F (nI (C 0 0 2)) (S.2.2.1 5) (nI a) = some (nI (C 0 0 2), nI (C 0 0 2 + 1), upd (putN (S.2.2.1 5) (fun _ => nI 0) (C 0 0 2 * 5) 5) (C 0 0 2 * 5 + 0) (nI a)) := by
    unfold X0_addExtra
    simp (disch := omega) only [l_0, l_1, l_2, l_3, l_4, l_5, l_6, l_7, l_8, l_9, l_10, l_11, l_12, l_13, l_14, l_15, l_16, l_17, l_18, l_19, l_20, l_21, l_22, l_23, l_24, l_25, l_26, l_27, l_30, l_31, l_32, l_40, l_48, l_57, l_59, l_60, l_61, l_62, l_64, l_83, l_90, l_97, l_99, l_100, l_108, l_115, l_122, l_123, l_127, l_128, l_131, l_135, l_200, l_255, l_256, l_300, l_487, l_495, l_900, l_999, l_1000, l_1700, l_1792, l_1980, l_2048, l_2475, l_2970, l_3121, l_9999, l_10000, l_11351, l_65536, l_100000, l_1000000, ↓l_m1, l_neg, nI_add, pk_mul, pk_sub, q_leT, q_leF, q_ltT, q_ltF, q_eqT, q_eqF, q_m1e, q_m1e2, q_m1lt, q_m1le, q_m1nl, q_m1nle, q_m1s, q_ix, q_jat, q_jput, q_min1, q_min2, q_max1, q_max2, q_or0, q_0or, q_bs, if_true, if_false, true_and, and_true, false_and, and_false, not_true_eq_false, not_false_eq_true, eq_self, Bool.false_eq_true, q_z0, q_z1, ad, q_set]
  have it : iter (X12_bear_b45 F (T.1 0) (T.2.2.2 0) (nI a) (nI (C 0 0 2))) F (nI 0, upd (T.2.2.1 0) 2 (nI (C 0 0 2 + 1))) = some (putN (upd (T.2.2.1 0) 2 (nI (C 0 0 2 + 1))) (fun j => if j = 0 then nI a else nI 0) (48 + 5 * C 0 0 2) 5) := by
    have := iter_count (b := X12_bear_b45 F (T.1 0) (T.2.2.2 0) (nI a) (nI (C 0 0 2))) (fun i => (nI i, putN (upd (T.2.2.1 0) 2 (nI (C 0 0 2 + 1))) (fun j => if j = 0 then nI a else nI 0) (48 + 5 * C 0 0 2) i)) 5 (e := putN (upd (T.2.2.1 0) 2 (nI (C 0 0 2 + 1))) (fun j => if j = 0 then nI a else nI 0) (48 + 5 * C 0 0 2) 5) (fun i hi => ?_) ?_ F (by omega)
    · rw [← this, putN_0]
    · have e2 := putN_s (upd (T.2.2.1 0) 2 (nI (C 0 0 2 + 1))) (fun j => if j = 0 then nI a else nI 0) (48 + 5 * C 0 0 2) i
      unfold X12_bear_b45 X12_bear_j69 X12_extraRow
      by_cases e : i = 0
      · rw [if_pos e] at e2
        simp (disch := omega) only [l_0, l_1, l_2, l_3, l_4, l_5, l_6, l_7, l_8, l_9, l_10, l_11, l_12, l_13, l_14, l_15, l_16, l_17, l_18, l_19, l_20, l_21, l_22, l_23, l_24, l_25, l_26, l_27, l_30, l_31, l_32, l_40, l_48, l_57, l_59, l_60, l_61, l_62, l_64, l_83, l_90, l_97, l_99, l_100, l_108, l_115, l_122, l_123, l_127, l_128, l_131, l_135, l_200, l_255, l_256, l_300, l_487, l_495, l_900, l_999, l_1000, l_1700, l_1792, l_1980, l_2048, l_2475, l_2970, l_3121, l_9999, l_10000, l_11351, l_65536, l_100000, l_1000000, ↓l_m1, l_neg, nI_add, pk_mul, pk_sub, q_leT, q_leF, q_ltT, q_ltF, q_eqT, q_eqF, q_m1e, q_m1e2, q_m1lt, q_m1le, q_m1nl, q_m1nle, q_m1s, q_ix, q_jat, q_jput, q_min1, q_min2, q_max1, q_max2, q_or0, q_0or, q_bs, if_true, if_false, true_and, and_true, false_and, and_false, not_true_eq_false, not_false_eq_true, eq_self, Bool.false_eq_true, q_z0, q_z1, e2]
      · rw [if_neg e] at e2
        simp (disch := omega) only [l_0, l_1, l_2, l_3, l_4, l_5, l_6, l_7, l_8, l_9, l_10, l_11, l_12, l_13, l_14, l_15, l_16, l_17, l_18, l_19, l_20, l_21, l_22, l_23, l_24, l_25, l_26, l_27, l_30, l_31, l_32, l_40, l_48, l_57, l_59, l_60, l_61, l_62, l_64, l_83, l_90, l_97, l_99, l_100, l_108, l_115, l_122, l_123, l_127, l_128, l_131, l_135, l_200, l_255, l_256, l_300, l_487, l_495, l_900, l_999, l_1000, l_1700, l_1792, l_1980, l_2048, l_2475, l_2970, l_3121, l_9999, l_10000, l_11351, l_65536, l_100000, l_1000000, ↓l_m1, l_neg, nI_add, pk_mul, pk_sub, q_leT, q_leF, q_ltT, q_ltF, q_eqT, q_eqF, q_m1e, q_m1e2, q_m1lt, q_m1le, q_m1nl, q_m1nle, q_m1s, q_ix, q_jat, q_jput, q_min1, q_min2, q_max1, q_max2, q_or0, q_0or, q_bs, if_true, if_false, true_and, and_true, false_and, and_false, not_true_eq_false, not_false_eq_true, eq_self, Bool.false_eq_true, q_z0, q_z1, e2]
    · unfold X12_bear_b45
      simp (disch := omega) only [l_0, l_1, l_2, l_3, l_4, l_5, l_6, l_7, l_8, l_9, l_10, l_11, l_12, l_13, l_14, l_15, l_16, l_17, l_18, l_19, l_20, l_21, l_22, l_23, l_24, l_25, l_26, l_27, l_30, l_31, l_32, l_40, l_48, l_57, l_59, l_60, l_61, l_62, l_64, l_83, l_90, l_97, l_99, l_100, l_108, l_115, l_122, l_123, l_127, l_128, l_131, l_135, l_200, l_255, l_256, l_300, l_487, l_495, l_900, l_999, l_1000, l_1700, l_1792, l_1980, l_2048, l_2475, l_2970, l_3121, l_9999, l_10000, l_11351, l_65536, l_100000, l_1000000, ↓l_m1, l_neg, nI_add, pk_mul, pk_sub, q_leT, q_leF, q_ltT, q_ltF, q_eqT, q_eqF, q_m1e, q_m1e2, q_m1lt, q_m1le, q_m1nl, q_m1nle, q_m1s, q_ix, q_jat, q_jput, q_min1, q_min2, q_max1, q_max2, q_or0, q_0or, q_bs, if_true, if_false, true_and, and_true, false_and, and_false, not_true_eq_false, not_false_eq_true, eq_self, Bool.false_eq_true, q_z0, q_z1]
  have jl : ∀ (f : Nat → Int64) (k : Nat) (x : Int64), k < 2 ^ 31 → jputL f (nI k) x = vp_updL f k x := fun f k x hk => jputL_nI f x hk
  have okD := addE_ok (a := a) ok (by omega) ha
  refine ⟨nI (C 0 0 2), _, _, by simp (disch := omega) only [l_0, l_1, l_2, l_3, l_4, l_5, l_6, l_7, l_8, l_9, l_10, l_11, l_12, l_13, l_14, l_15, l_16, l_17, l_18, l_19, l_20, l_21, l_22, l_23, l_24, l_25, l_26, l_27, l_30, l_31, l_32, l_40, l_48, l_57, l_59, l_60, l_61, l_62, l_64, l_83, l_90, l_97, l_99, l_100, l_108, l_115, l_122, l_123, l_127, l_128, l_131, l_135, l_200, l_255, l_256, l_300, l_487, l_495, l_900, l_999, l_1000, l_1700, l_1792, l_1980, l_2048, l_2475, l_2970, l_3121, l_9999, l_10000, l_11351, l_65536, l_100000, l_1000000, ↓l_m1, l_neg, nI_add, pk_mul, pk_sub, q_leT, q_leF, q_ltT, q_ltF, q_eqT, q_eqF, q_m1e, q_m1e2, q_m1lt, q_m1le, q_m1nl, q_m1nle, q_m1s, q_ix, q_jat, q_jput, q_min1, q_min2, q_max1, q_max2, q_or0, q_0or, q_bs, if_true, if_false, true_and, and_true, false_and, and_false, not_true_eq_false, not_false_eq_true, eq_self, Bool.false_eq_true, q_z0, q_z1, q_iCT, fu, x1]; rfl, by simp (disch := omega) only [l_0, l_1, l_2, l_3, l_4, l_5, l_6, l_7, l_8, l_9, l_10, l_11, l_12, l_13, l_14, l_15, l_16, l_17, l_18, l_19, l_20, l_21, l_22, l_23, l_24, l_25, l_26, l_27, l_30, l_31, l_32, l_40, l_48, l_57, l_59, l_60, l_61, l_62, l_64, l_83, l_90, l_97, l_99, l_100, l_108, l_115, l_122, l_123, l_127, l_128, l_131, l_135, l_200, l_255, l_256, l_300, l_487, l_495, l_900, l_999, l_1000, l_1700, l_1792, l_1980, l_2048, l_2475, l_2970, l_3121, l_9999, l_10000, l_11351, l_65536, l_100000, l_1000000, ↓l_m1, l_neg, nI_add, pk_mul, pk_sub, q_leT, q_leF, q_ltT, q_ltF, q_eqT, q_eqF, q_m1e, q_m1e2, q_m1lt, q_m1le, q_m1nl, q_m1nle, q_m1s, q_ix, q_jat, q_jput, q_min1, q_min2, q_max1, q_max2, q_or0, q_0or, q_bs, if_true, if_false, true_and, and_true, false_and, and_false, not_true_eq_false, not_false_eq_true, eq_self, Bool.false_eq_true, q_z0, q_z1, m_iCT hM, y2, it, jl]; rfl, ?_⟩
  have pn : ∀ j, 127 ≤ j ∨ j = 9 → putN (upd (T.2.2.1 0) 2 (nI (C 0 0 2 + 1))) (fun j => if j = 0 then nI a else nI 0) (48 + 5 * C 0 0 2) 5 j = T.2.2.1 0 j := fun j hj => by unfold putN; rw [if_neg (by omega), pk_un (by omega)]
  refine Rel_of (RelR_eq (Rel_R h) ⟨fun j hj => ?_, ⟨rfl, rfl⟩, fun j hj => ?_, fun _ _ => rfl⟩ ⟨fun j hj => ?_, ⟨rfl, rfl⟩, fun j h1 h2 => ?_, fun j hj => ?_, fun j h1 h2 => ?_, rfl⟩) rfl (R_ci_of (C := addE C a) ⟨okD, ?_, ?_, ⟨⟨?_, ?_, ?_, ?_, ?_, ?_, ?_, ?_, ?_⟩, ?_, ?_, ?_, ?_, ?_, ?_⟩, ?_, ?_, ?_⟩)
  · simp (disch := omega) only [sI, sA, sB, up_n]
  · simp (disch := omega) only [sI, sA, sB, up_n]
  · simp (disch := omega) only [sI, sA, sB, up_n]
  · exact pn j (by omega)
  · simp (disch := omega) only [sI, sA, sB, up_n]
  · simp (disch := omega) only [sI, sA, sB, up_s]
    exact pk_uLn (by omega)
  · rw [addE_t C (by omega) (by omega)]; exact h8
  · intro x hx
    rw [addE_n] at hx
    have e : fb_ct (fate (addE C a) 1) (addE C a 0 0 3) = fb_ct (fate C 1) (C 0 0 3) := by
      rw [addE_t C (by omega) (by omega)]
      exact fb_ct_cong (fun j hj => by unfold fate; rw [addE_t C (by omega) (by omega)])
    rw [e]
    by_cases q : x = C 0 0 2
    · rw [q, addE_r, if_neg (by omega)]; omega
    · rw [addE_o C q]; exact wb x (by omega)
  · rw [addE_t C (by omega) (by omega)]; exact c0
  · rw [addE_t C (by omega) (by omega)]; exact c1
  · rw [addE_t C (by omega) (by omega)]; exact c2
  · rw [addE_t C (by omega) (by omega)]; exact c3
  · rw [addE_t C (by omega) (by omega)]; exact c5
  · rw [addE_t C (by omega) (by omega)]; exact c6
  · rw [addE_n]; rfl
  · rw [addE_t C (by omega) (by omega)]; exact c9
  · rw [addE_t C (by omega) (by omega)]; exact c10
  · intro r c hr hc
    rw [addE_t C (by omega) (by omega)] at hr
    rw [addE_t C (by omega) (by omega)]; exact cR r c hr hc
  · exact CT_s cT ⟨addE_t C (by omega) (by omega), addE_t C (by omega) (by omega), fun r c => addE_t C (by omega) (by omega)⟩
  · exact CF_s cF ⟨addE_t C (by omega) (by omega), addE_t C (by omega) (by omega), fun r c => addE_t C (by omega) (by omega)⟩
  · exact addE_CX cX
  · exact CH_t cH (addE_t C (by omega) (by omega)) (fun r c => addE_t C (by omega) (by omega))
  · exact CW_t cW (addE_t C (by omega) (by omega)) (fun r c => addE_t C (by omega) (by omega))
  · exact addE_MS ok (by omega) hM
  · refine NR_add (s0 := 2) nr okD (Or.inl rfl) (addE_n C a) (fun s h1 h4 hs => ?_) ?_ (fun j h1 h2 => ?_)
    · rcases (show s = 1 ∨ s = 3 ∨ s = 4 by omega) with rfl | rfl | rfl
      · show addE C a 0 0 0 = C 0 0 0; exact addE_t C (by omega) (by omega)
      · show addE C a 0 0 3 = C 0 0 3; exact addE_t C (by omega) (by omega)
      · show addE C a 0 0 4 = C 0 0 4; exact addE_t C (by omega) (by omega)
    · exact pk_uLs
    · exact pk_uLn h2
  · exact WR_le (WR_cong wr (fun j hj => pn j (by omega))) (by rw [addE_t C (by omega) (by omega)]; exact Nat.le_refl _) (by rw [addE_n]; omega) (by rw [addE_t C (by omega) (by omega)]; exact Nat.le_refl _) (by rw [addE_t C (by omega) (by omega)]; exact Nat.le_refl _)
