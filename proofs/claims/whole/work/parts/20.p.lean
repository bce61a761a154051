/-! ===== PURE 20.p: a fresh draft; the bytes of the tape ===== -/
theorem l_1989 : (1989 : Int32) = nI 1989 := rfl
def cy0 : Cy := fun t r c => if t = 0 ∧ r = 0 then (if c = 5 then 1 else if c = 6 then 2 else if c = 7 then 1 else 0) else 0
def tz (xt : Nat → Int32) : Nat → Int32 := putN xt (fun _ => nI 0) 0 64
def hz (xh : Nat → Int32) : Nat → Int32 := putN xh (fun _ => nI 1000) 0 64
theorem c_clear {F : Nat} {a b c d e f g h i j k l : Int32} {xt xh : Nat → Int32} (hF : 2000 < F) : X0_clear F a b c d e f g xt xh h i j k l = some (mkS [1, 2, 1, 0, 0, 0, 0, 0, 0, 0, 0, 0] [] [tz xt, hz xh] []) := by
  have it : iter (X6_clear_b15 F 0 0) F (nI 0, xt, xh) = some (tz xt, hz xh) := by
    have := iter_count (b := X6_clear_b15 F 0 0) (fun i => (nI i, putN xt (fun _ => nI 0) 0 i, putN xh (fun _ => nI 1000) 0 i)) 64 (e := (tz xt, hz xh)) (fun i hi => ?_) ?_ F (by omega)
    · rw [← this, putN_0, putN_0]
    · have e2 := putN_s xt (fun _ => nI 0) 0 i
      have e3 := putN_s xh (fun _ => nI 1000) 0 i
      rw [Nat.zero_add] at e2 e3
      unfold X6_clear_b15
      simp (maxSteps := 4000000) (disch := omega) only [↓reduceIte, l_0, l_1, l_2, l_3, l_4, l_5, l_6, l_7, l_8, l_9, l_10, l_11, l_12, l_13, l_14, l_15, l_16, l_17, l_18, l_19, l_20, l_21, l_22, l_23, l_24, l_25, l_26, l_27, l_30, l_31, l_32, l_40, l_48, l_57, l_59, l_60, l_61, l_62, l_64, l_83, l_90, l_97, l_99, l_100, l_108, l_115, l_122, l_123, l_127, l_128, l_131, l_135, l_200, l_255, l_256, l_300, l_487, l_495, l_900, l_999, l_1000, l_1700, l_1792, l_1980, l_2048, l_2475, l_2970, l_3121, l_9999, l_10000, l_11351, l_65536, l_100000, l_1000000, ↓l_m1, l_neg, nI_add, pk_mul, pk_sub, q_leT, q_leF, q_ltT, q_ltF, q_eqT, q_eqF, q_m1e, q_m1e2, q_m1lt, q_m1le, q_m1nl, q_m1nle, q_m1s, q_ix, q_jat, q_jput, q_min1, q_min2, q_max1, q_max2, q_or0, q_0or, q_bs, if_true, if_false, true_and, and_true, false_and, and_false, not_true_eq_false, not_false_eq_true, eq_self, Bool.false_eq_true, q_z0, q_z1, e2, e3]
    · unfold X6_clear_b15
      simp (maxSteps := 4000000) (disch := omega) only [↓reduceIte, l_0, l_1, l_2, l_3, l_4, l_5, l_6, l_7, l_8, l_9, l_10, l_11, l_12, l_13, l_14, l_15, l_16, l_17, l_18, l_19, l_20, l_21, l_22, l_23, l_24, l_25, l_26, l_27, l_30, l_31, l_32, l_40, l_48, l_57, l_59, l_60, l_61, l_62, l_64, l_83, l_90, l_97, l_99, l_100, l_108, l_115, l_122, l_123, l_127, l_128, l_131, l_135, l_200, l_255, l_256, l_300, l_487, l_495, l_900, l_999, l_1000, l_1700, l_1792, l_1980, l_2048, l_2475, l_2970, l_3121, l_9999, l_10000, l_11351, l_65536, l_100000, l_1000000, ↓l_m1, l_neg, nI_add, pk_mul, pk_sub, q_leT, q_leF, q_ltT, q_ltF, q_eqT, q_eqF, q_m1e, q_m1e2, q_m1lt, q_m1le, q_m1nl, q_m1nle, q_m1s, q_ix, q_jat, q_jput, q_min1, q_min2, q_max1, q_max2, q_or0, q_0or, q_bs, if_true, if_false, true_and, and_true, false_and, and_false, not_true_eq_false, not_false_eq_true, eq_self, Bool.false_eq_true, q_z0, q_z1]
      rfl
  unfold X0_clear X6_clear X3_clear
  rw [show (0 : Int32) = nI 0 from rfl]
  rw [show (nI 0 : Int32) = 0 from rfl] at it ⊢
  rw [it]
  rfl
def pln (at0 : Nat → Int32) : Nat → Int32 := upd (upd (upd (upd (putN at0 (fun _ => nI 0) 1980 495) 1985 (nI 1)) 1986 (nI 2)) 1987 (nI 1)) 1989 m1
theorem m_plain {F : Nat} {at0 : Nat → Int32} (hF : 2000 < F) : X12_plain F at0 (nI 1980) = some (pln at0) := by
  have it : iter (X12_plain_b2 F (nI 1980)) F (nI 0, at0) = some (putN at0 (fun _ => nI 0) 1980 495) := by
    have := iter_count (b := X12_plain_b2 F (nI 1980)) (fun i => (nI i, putN at0 (fun _ => nI 0) 1980 i)) 495 (e := putN at0 (fun _ => nI 0) 1980 495) (fun i hi => ?_) ?_ F (by omega)
    · rw [← this, putN_0]
    · have e2 := putN_s at0 (fun _ => nI 0) 1980 i
      unfold X12_plain_b2
      simp (maxSteps := 4000000) (disch := omega) only [↓reduceIte, l_0, l_1, l_2, l_3, l_4, l_5, l_6, l_7, l_8, l_9, l_10, l_11, l_12, l_13, l_14, l_15, l_16, l_17, l_18, l_19, l_20, l_21, l_22, l_23, l_24, l_25, l_26, l_27, l_30, l_31, l_32, l_40, l_48, l_57, l_59, l_60, l_61, l_62, l_64, l_83, l_90, l_97, l_99, l_100, l_108, l_115, l_122, l_123, l_127, l_128, l_131, l_135, l_200, l_255, l_256, l_300, l_487, l_495, l_900, l_999, l_1000, l_1700, l_1792, l_1980, l_2048, l_2475, l_2970, l_3121, l_9999, l_10000, l_11351, l_65536, l_100000, l_1000000, ↓l_m1, l_neg, nI_add, pk_mul, pk_sub, q_leT, q_leF, q_ltT, q_ltF, q_eqT, q_eqF, q_m1e, q_m1e2, q_m1lt, q_m1le, q_m1nl, q_m1nle, q_m1s, q_ix, q_jat, q_jput, q_min1, q_min2, q_max1, q_max2, q_or0, q_0or, q_bs, if_true, if_false, true_and, and_true, false_and, and_false, not_true_eq_false, not_false_eq_true, eq_self, Bool.false_eq_true, q_z0, q_z1, e2]
    · unfold X12_plain_b2
      simp (maxSteps := 4000000) (disch := omega) only [↓reduceIte, l_0, l_1, l_2, l_3, l_4, l_5, l_6, l_7, l_8, l_9, l_10, l_11, l_12, l_13, l_14, l_15, l_16, l_17, l_18, l_19, l_20, l_21, l_22, l_23, l_24, l_25, l_26, l_27, l_30, l_31, l_32, l_40, l_48, l_57, l_59, l_60, l_61, l_62, l_64, l_83, l_90, l_97, l_99, l_100, l_108, l_115, l_122, l_123, l_127, l_128, l_131, l_135, l_200, l_255, l_256, l_300, l_487, l_495, l_900, l_999, l_1000, l_1700, l_1792, l_1980, l_2048, l_2475, l_2970, l_3121, l_9999, l_10000, l_11351, l_65536, l_100000, l_1000000, ↓l_m1, l_neg, nI_add, pk_mul, pk_sub, q_leT, q_leF, q_ltT, q_ltF, q_eqT, q_eqF, q_m1e, q_m1e2, q_m1lt, q_m1le, q_m1nl, q_m1nle, q_m1s, q_ix, q_jat, q_jput, q_min1, q_min2, q_max1, q_max2, q_or0, q_0or, q_bs, if_true, if_false, true_and, and_true, false_and, and_false, not_true_eq_false, not_false_eq_true, eq_self, Bool.false_eq_true, q_z0, q_z1]
  unfold X12_plain pln
  simp (maxSteps := 4000000) (disch := omega) only [↓reduceIte, l_0, l_1, l_2, l_3, l_4, l_5, l_6, l_7, l_8, l_9, l_10, l_11, l_12, l_13, l_14, l_15, l_16, l_17, l_18, l_19, l_20, l_21, l_22, l_23, l_24, l_25, l_26, l_27, l_30, l_31, l_32, l_40, l_48, l_57, l_59, l_60, l_61, l_62, l_64, l_83, l_90, l_97, l_99, l_100, l_108, l_115, l_122, l_123, l_127, l_128, l_131, l_135, l_200, l_255, l_256, l_300, l_487, l_495, l_900, l_999, l_1000, l_1700, l_1792, l_1980, l_2048, l_2475, l_2970, l_3121, l_9999, l_10000, l_11351, l_65536, l_100000, l_1000000, ↓l_m1, l_neg, nI_add, pk_mul, pk_sub, q_leT, q_leF, q_ltT, q_ltF, q_eqT, q_eqF, q_m1e, q_m1e2, q_m1lt, q_m1le, q_m1nl, q_m1nle, q_m1s, q_ix, q_jat, q_jput, q_min1, q_min2, q_max1, q_max2, q_or0, q_0or, q_bs, if_true, if_false, true_and, and_true, false_and, and_false, not_true_eq_false, not_false_eq_true, eq_self, Bool.false_eq_true, q_z0, q_z1, it]
theorem pln_v {at0 : Nat → Int32} {k : Nat} (h : k < 495) : sl (pln at0) k = if k = 9 then m1 else if k = 7 then nI 1 else if k = 6 then nI 2 else if k = 5 then nI 1 else nI 0 := by
  unfold sl pln
  by_cases e9 : k = 9
  · subst e9; rw [pk_us]; rfl
  rw [pk_un (by omega), if_neg e9]
  by_cases e7 : k = 7
  · subst e7; rw [pk_us]; rfl
  rw [pk_un (by omega), if_neg e7]
  by_cases e6 : k = 6
  · subst e6; rw [pk_us]; rfl
  rw [pk_un (by omega), if_neg e6]
  by_cases e5 : k = 5
  · subst e5; rw [pk_us]; rfl
  rw [pk_un (by omega), if_neg e5]
  unfold putN; rw [if_pos (by omega)]
theorem DR0 (xr xt so nu xx xh xw at0 : Nat → Int32) (co names : Nat → Int64) : DR cy0 0 (fun _ _ => 0) xr (tz xt) co so nu xx xh xw (pln at0) names := by
  have z0 : cy0 0 0 0 = 0 := rfl
  have z1 : cy0 0 0 1 = 0 := rfl
  have z2 : cy0 0 0 2 = 0 := rfl
  have z3 : cy0 0 0 3 = 0 := rfl
  have z4 : cy0 0 0 4 = 0 := rfl
  have ct : ∀ s, 1 ≤ s → s ≤ 4 → cnt cy0 s = 0 := fun s h1 h4 => by
    rcases (show s = 1 ∨ s = 2 ∨ s = 3 ∨ s = 4 by omega) with rfl | rfl | rfl | rfl <;> rfl
  refine ⟨⟨⟨by decide, by decide, by decide, by decide, by decide, by decide, by decide, by decide, by decide, by decide⟩, fun r hr => ?_, fun r hr => ?_, fun r hr => ?_, fun r hr => ?_⟩, rfl, fun x hx => ?_, rfl, fun r c hr hc => ?_, fun a b ha hb => ?_, fun x c hx => ?_, fun x c hx => ?_, fun x c hx => ?_, ⟨fun k hk => ?_, fun r c hr => ?_, fun x hx => ?_, fun x hx => ?_, fun x c hx => ?_, fun x c hx => ?_, fun x c hx => ?_⟩, ⟨?_, fun x c h1 h2 h3 h4 => ?_, fun x h1 h2 => ?_, fun x h1 h2 => ?_⟩, ⟨by omega, fun i hi => absurd hi (by omega), fun s k h1 h4 hk => ?_, fun s k h1 h4 hk => ?_, fun s k s' k' h1 h2 hk => ?_⟩⟩
  · rw [z1] at hr; omega
  · rw [z2] at hr; omega
  · rw [z3] at hr; omega
  · rw [z4] at hr; omega
  · rw [z2] at hx; omega
  · rw [z1] at hr; omega
  · have t : tk0 cy0 a b = 0 := rfl
    rw [t]; unfold tz putN; rw [if_pos (by omega)]
  · rw [z2] at hx; omega
  · rw [z3] at hx; omega
  · rw [z4] at hx; omega
  · rw [pln_v (by omega)]
    rcases (show k = 0 ∨ k = 1 ∨ k = 2 ∨ k = 3 ∨ k = 4 ∨ k = 5 ∨ k = 6 ∨ k = 7 ∨ k = 8 by omega) with rfl | rfl | rfl | rfl | rfl | rfl | rfl | rfl | rfl <;> rfl
  · rw [z1] at hr; omega
  · rw [z2] at hx; omega
  · rw [z2] at hx; omega
  · rw [z2] at hx; omega
  · rw [z3] at hx; omega
  · rw [z4] at hx; omega
  · rw [pln_v (by omega)]; rfl
  · rw [pln_v (by omega), if_neg (by omega), if_neg (by omega), if_neg (by omega), if_neg (by omega)]
  · rw [pln_v (by omega), if_neg (by omega), if_neg (by omega), if_neg (by omega), if_neg (by omega)]
  · rw [pln_v (by omega), if_neg (by omega), if_neg (by omega), if_neg (by omega), if_neg (by omega)]
  · rw [ct s h1 h4] at hk; omega
  · rw [ct s h1 h4] at hk; omega
  · rw [ct s h1 h2] at hk; omega
theorem TR0 : TR 0 0 := ⟨by omega, by omega, fun i _ => by rw [Nat.zero_testBit, Nat.zero_testBit]⟩
/-! the bytes -/
theorem and255 (x : Int32) : ∃ b, b < 256 ∧ x &&& 255 = nI b := by
  refine ⟨(x &&& 255).toBitVec.toNat, ?_, ?_⟩
  · have : (x &&& 255).toBitVec.toNat = (x.toBitVec &&& (255 : BitVec 32)).toNat := rfl
    rw [this, BitVec.toNat_and]
    exact Nat.lt_of_le_of_lt Nat.and_le_right (by decide)
  · apply Int32.toBitVec_inj.mp
    show (x &&& 255).toBitVec = BitVec.ofNat 32 (x &&& 255).toBitVec.toNat
    rw [BitVec.ofNat_toNat, BitVec.setWidth_eq]
theorem byte255 (x : Int32) : vp_nar .byte x &&& 255 = x &&& 255 := by
  rw [vp_nar_byte]; exact bp_b x
def jputs (f g : Nat → Int32) (n : Nat) : Nat → Int32 := fun k => if k < n then vp_nar .byte (g k) else f k
theorem m_copy {F n : Nat} {a b c d e h i j k : Int32} {tp tx : Nat → Int32} (h9 : n ≤ 900) (hF : 2000 < F) : iter (X12_begins_b26 F a b c d e h i j k tp (nI n)) F (nI 0, tx) = some (jputs tx tp n) := by
  have := iter_count (b := X12_begins_b26 F a b c d e h i j k tp (nI n)) (fun i => (nI i, jputs tx tp i)) n (e := jputs tx tp n) (fun i hi => ?_) ?_ F (by omega)
  · rw [← this]; congr 2
  · have e2 : jputB (jputs tx tp i) (nI i) (tp i) = jputs tx tp (i + 1) := by
      unfold jputB
      rw [nI_clamp (by omega)]
      funext k
      unfold jputs
      by_cases e : k = i
      · subst e; rw [pk_us, if_pos (by omega)]
      · rw [pk_un e]
        by_cases y : k < i
        · rw [if_pos y, if_pos (by omega)]
        · rw [if_neg y, if_neg (by omega)]
    unfold X12_begins_b26
    simp (maxSteps := 4000000) (disch := omega) only [↓reduceIte, l_0, l_1, l_2, l_3, l_4, l_5, l_6, l_7, l_8, l_9, l_10, l_11, l_12, l_13, l_14, l_15, l_16, l_17, l_18, l_19, l_20, l_21, l_22, l_23, l_24, l_25, l_26, l_27, l_30, l_31, l_32, l_40, l_48, l_57, l_59, l_60, l_61, l_62, l_64, l_83, l_90, l_97, l_99, l_100, l_108, l_115, l_122, l_123, l_127, l_128, l_131, l_135, l_200, l_255, l_256, l_300, l_487, l_495, l_900, l_999, l_1000, l_1700, l_1792, l_1980, l_2048, l_2475, l_2970, l_3121, l_9999, l_10000, l_11351, l_65536, l_100000, l_1000000, ↓l_m1, l_neg, nI_add, pk_mul, pk_sub, q_leT, q_leF, q_ltT, q_ltF, q_eqT, q_eqF, q_m1e, q_m1e2, q_m1lt, q_m1le, q_m1nl, q_m1nle, q_m1s, q_ix, q_jat, q_jput, q_min1, q_min2, q_max1, q_max2, q_or0, q_0or, q_bs, if_true, if_false, true_and, and_true, false_and, and_false, not_true_eq_false, not_false_eq_true, eq_self, Bool.false_eq_true, q_z0, q_z1, e2]
  · unfold X12_begins_b26
    simp (maxSteps := 4000000) (disch := omega) only [↓reduceIte, l_0, l_1, l_2, l_3, l_4, l_5, l_6, l_7, l_8, l_9, l_10, l_11, l_12, l_13, l_14, l_15, l_16, l_17, l_18, l_19, l_20, l_21, l_22, l_23, l_24, l_25, l_26, l_27, l_30, l_31, l_32, l_40, l_48, l_57, l_59, l_60, l_61, l_62, l_64, l_83, l_90, l_97, l_99, l_100, l_108, l_115, l_122, l_123, l_127, l_128, l_131, l_135, l_200, l_255, l_256, l_300, l_487, l_495, l_900, l_999, l_1000, l_1700, l_1792, l_1980, l_2048, l_2475, l_2970, l_3121, l_9999, l_10000, l_11351, l_65536, l_100000, l_1000000, ↓l_m1, l_neg, nI_add, pk_mul, pk_sub, q_leT, q_leF, q_ltT, q_ltF, q_eqT, q_eqF, q_m1e, q_m1e2, q_m1lt, q_m1le, q_m1nl, q_m1nle, q_m1s, q_ix, q_jat, q_jput, q_min1, q_min2, q_max1, q_max2, q_or0, q_0or, q_bs, if_true, if_false, true_and, and_true, false_and, and_false, not_true_eq_false, not_false_eq_true, eq_self, Bool.false_eq_true, q_z0, q_z1]
theorem TX_of {n m : Nat} {f g tx : Nat → Int32} (h : TpOk m f g) (nm : n ≤ m) (h9 : n ≤ 900) : ∃ B, TX n B f (jputs tx g n) := by
  refine ⟨fun k => (g k &&& 255).toBitVec.toNat, h9, fun k hk => ?_⟩
  obtain ⟨b, b1, b2⟩ := and255 (g k)
  have e : (g k &&& 255).toBitVec.toNat = b := by
    rw [b2]
    show (BitVec.ofNat 32 b).toNat = b
    rw [BitVec.toNat_ofNat, Nat.mod_eq_of_lt (by omega)]
  refine ⟨by dsimp only; rw [e]; exact b1, by dsimp only; rw [h k (by omega), e, b2], ?_⟩
  dsimp only
  rw [e]
  unfold jputs
  rw [if_pos hk, byte255, b2]
