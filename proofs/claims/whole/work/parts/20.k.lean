/-! ===== PURE 20.k: WAGE, DELAY, ODDS; ROAD ===== -/
def stC (C : Cy) (j v : Nat) : Cy := fun t r c => if t = 0 ∧ r = 0 ∧ c = j then v else C t r c
theorem stC_t (C : Cy) {j v t r c : Nat} (h : t ≠ 0) : stC C j v t r c = C t r c := if_neg (fun q => h q.1)
theorem stC_0 (C : Cy) {j v c : Nat} (h : c ≠ j) : stC C j v 0 0 c = C 0 0 c := if_neg (fun q => h q.2.2)
theorem stC_s (C : Cy) {j v : Nat} : stC C j v 0 0 j = v := if_pos ⟨rfl, rfl, rfl⟩
theorem NM_c {C D : Cy} {N : Nat} {nm : Nat → Nat → Nat} {co : Nat → Int64} {so nu : Nat → Int32} {mn mn' : Nat → Int64} (h : NM C N nm co so nu mn) (ok : Ok C) (e : ∀ s, 1 ≤ s → s ≤ 4 → cnt D s = cnt C s) (hm : ∀ k, k < 27 → mn' k = mn k) : NM D N nm co so nu mn' := by
  obtain ⟨a2, a3, a4, a5, a6⟩ := h
  refine ⟨a2, fun i hi => ?_, fun s k h1 h4 hk hz => ?_, fun s k h1 h4 hk => ?_, fun s k s' k' h1 h2 hk h3 h4 hk' hz he => ?_⟩
  · obtain ⟨s, k, b1, b2, b3, b4⟩ := a3 i hi
    exact ⟨s, k, b1, b2, by rw [e s b1 b2]; exact b3, b4⟩
  · rw [e s h1 h4] at hk; exact a4 s k h1 h4 hk hz
  · rw [e s h1 h4] at hk
    have c := cnt_le ok h1 h4
    rw [hm _ (by omega)]; exact a5 s k h1 h4 hk
  · rw [e s h1 h2] at hk; rw [e s' h3 h4] at hk'; exact a6 s k s' k' h1 h2 hk h3 h4 hk' hz he
theorem DR_stC {C : Cy} {N j v : Nat} {nm : Nat → Nat → Nat} {xr xt so nu xx xh xw at0 : Nat → Int32} {co names : Nat → Int64} (dr : DR C N nm xr xt co so nu xx xh xw at0 names) (hj : (j = 5 ∧ v ≤ 99) ∨ (j = 6 ∧ 1 ≤ v ∧ v ≤ 24) ∨ (j = 7 ∧ v ≤ 16)) : DR (stC C j v) N nm xr xt co so nu xx xh xw (upd at0 (1980 + j) (nI v)) names := by
  obtain ⟨ok, c8', dz, eN, rc, ct, cx, ch, cw, hM, zr, hn⟩ := dr
  have okC := ok
  obtain ⟨o0, oR, oE, oH, oW⟩ := ok
  have z : ∀ c, c < 5 → stC C j v 0 0 c = C 0 0 c := fun c hc => stC_0 C (by omega)
  have t : ∀ t r c, t ≠ 0 → stC C j v t r c = C t r c := fun t r c h => stC_t C h
  have vv : ∀ c, stC C j v 0 0 c = if c = j then v else C 0 0 c := fun c => by
    by_cases e : c = j
    · rw [e, stC_s, if_pos rfl]
    · rw [stC_0 C e, if_neg e]
  have s5 := vv 5; have s6 := vv 6; have s7 := vv 7; have s8 := vv 8
  rw [if_neg (show ¬ 8 = j by omega)] at s8
  have ce : ∀ s, 1 ≤ s → s ≤ 4 → cnt (stC C j v) s = cnt C s := fun s h1 h4 => by
    unfold cnt
    by_cases e : s = 1
    · rw [if_pos e, if_pos e]; exact z 0 (by omega)
    · rw [if_neg e, if_neg e]; exact z s (by omega)
  obtain ⟨a0, a1, a2, a3, a4, a5, a6⟩ := hM
  have far : ∀ k, k ≠ j → sl (upd at0 (1980 + j) (nI v)) k = sl at0 k := fun k hk => pk_un (by omega)
  refine ⟨⟨?_, fun r hr => ?_, fun r hr => ?_, fun r hr => ?_, fun r hr => ?_⟩, by rw [s8]; exact c8', fun x hx => ?_, by rw [z 0 (by omega), z 2 (by omega), z 3 (by omega), z 4 (by omega)]; exact eN, fun r c hr hc => ?_, fun a b ha hb => ?_, CX_t cx (z 2 (by omega)) (fun r c => t _ _ _ (by omega)), CH_t ch (z 3 (by omega)) (fun r c => t _ _ _ (by omega)), CW_t cw (z 4 (by omega)) (fun r c => t _ _ _ (by omega)), ⟨fun k hk => ?_, fun r c hr hc => ?_, fun x hx q => ?_, fun x hx q => ?_, fun x c hx h1 hc => ?_, fun x c hx hc => ?_, fun x c hx hc => ?_⟩, ⟨?_, fun x c h1 h2 h3 h4 => ?_, fun x h1 h2 => ?_, fun x h1 h2 => ?_⟩, NM_c hn okC ce (fun _ _ => rfl)⟩
  · rw [z 0 (by omega), z 1 (by omega), z 2 (by omega), z 3 (by omega), z 4 (by omega), s5, s6, s7, s8]
    rcases hj with ⟨rfl, h⟩ | ⟨rfl, h⟩ | ⟨rfl, h⟩
    · simp only [if_true, Nat.reduceEqDiff, if_false]; omega
    · simp only [if_true, Nat.reduceEqDiff, if_false]; omega
    · simp only [if_true, Nat.reduceEqDiff, if_false]; omega
  · rw [z 1 (by omega)] at hr
    rw [z 0 (by omega), t _ _ _ (by omega), t _ _ _ (by omega), t _ _ _ (by omega)]; exact oR r hr
  · rw [z 2 (by omega)] at hr
    rw [z 0 (by omega), t _ _ _ (by omega), t _ _ _ (by omega), t _ _ _ (by omega)]; exact oE r hr
  · rw [z 3 (by omega)] at hr
    rw [z 0 (by omega), t _ _ _ (by omega), t _ _ _ (by omega), t _ _ _ (by omega), t _ _ _ (by omega)]; exact oH r hr
  · rw [z 4 (by omega)] at hr
    rw [z 0 (by omega), t _ _ _ (by omega), t _ _ _ (by omega)]; exact oW r hr
  · rw [z 2 (by omega)] at hx
    rw [t _ _ _ (by omega), t _ _ _ (by omega), t _ _ _ (by omega)]; exact dz x hx
  · rw [z 1 (by omega)] at hr
    rw [t _ _ _ (by omega)]; exact rc r c hr hc
  · rw [ct a b ha hb]; unfold tk0; rw [tk_cong (z 1 (by omega)) (fun r c => t _ _ _ (by omega))]
  · rw [vv k]
    by_cases e : k = j
    · rw [if_pos e, e]; exact pk_us
    · rw [if_neg e, far k e]; exact a0 k hk
  · rw [z 1 (by omega)] at hr
    rw [far _ (by omega), t _ _ _ (by omega)]; exact a1 r c hr hc
  · rw [z 2 (by omega)] at hx
    rw [t _ _ _ (by omega)] at q
    rw [far _ (by omega), t _ _ _ (by omega)]; exact a2 x hx q
  · rw [z 2 (by omega)] at hx
    rw [t _ _ _ (by omega)] at q
    rw [far _ (by omega), t _ _ _ (by omega)]; exact a3 x hx q
  · rw [z 2 (by omega)] at hx
    rw [far _ (by omega), t _ _ _ (by omega)]; exact a4 x c hx h1 hc
  · rw [z 3 (by omega)] at hx
    rw [far _ (by omega), t _ _ _ (by omega)]; exact a5 x c hx hc
  · rw [z 4 (by omega)] at hx
    rw [far _ (by omega), t _ _ _ (by omega)]; exact a6 x c hx hc
  · rw [far _ (by omega)]; exact zr.1
  · rw [z 2 (by omega)] at h1
    rw [far _ (by omega)]; exact zr.2.1 x c h1 h2 h3 h4
  · rw [z 3 (by omega)] at h1
    rw [far _ (by omega)]; exact zr.2.2.1 x h1 h2
  · rw [z 4 (by omega)] at h1
    rw [far _ (by omega)]; exact zr.2.2.2 x h1 h2
theorem DR_road {C : Cy} {N a b k : Nat} {nm : Nat → Nat → Nat} {xr xt xr' xt' so nu xx xh xw at0 at1 : Nat → Int32} {co names : Nat → Int64} (dr : DR C N nm xr xt co so nu xx xh xw at0 names) (h1 : C 0 0 1 < 12) (ha : a < C 0 0 0) (hb : b < C 0 0 0) (hab : a ≠ b) (hk : 1 ≤ k) (hk9 : k ≤ 9) (hr : RC (ins C 1 (fun c => if c = 0 then a else if c = 1 then b else k)) xr') (ht : CT (ins C 1 (fun c => if c = 0 then a else if c = 1 then b else k)) xt') (e1 : at1 1981 = nI (C 0 0 1 + 1)) (e2 : at1 (1980 + (12 + 3 * C 0 0 1)) = nI a) (e3 : at1 (1980 + (12 + 3 * C 0 0 1) + 1) = nI b) (e4 : at1 (1980 + (12 + 3 * C 0 0 1) + 2) = nI k) (e5 : ∀ j, 1980 ≤ j → j ≠ 1981 → ¬ (1980 + (12 + 3 * C 0 0 1) ≤ j ∧ j < 1980 + (12 + 3 * C 0 0 1) + 3) → at1 j = at0 j) :
    DR (ins C 1 (fun c => if c = 0 then a else if c = 1 then b else k)) N nm xr' xt' co so nu xx xh xw at1 names := by
  obtain ⟨ok, c8', dz, eN, rc, ct, cx, ch, cw, hM, zr, hn⟩ := dr
  have z : ∀ j, j ≠ 1 → ins C 1 (fun c => if c = 0 then a else if c = 1 then b else k) 0 0 j = C 0 0 j := fun j hj => ins_0 C hj
  have okD := ins_ok (t := 1) (v := fun c => if c = 0 then a else if c = 1 then b else k) ok (by omega) (show C 0 0 1 < 12 by omega) ⟨fun _ => ha, fun _ => ⟨hb, hab, hk, hk9⟩, by omega, by omega, by omega⟩
  obtain ⟨m1', m2⟩ := MS_ins (t := 1) (v := fun c => if c = 0 then a else if c = 1 then b else k) (g' := sl at1) ok (by omega) (show C 0 0 1 < 12 by omega) (by omega) hM zr e1 (fun _ c hc => by
    have hc : c < 3 := hc
    show at1 (1980 + (12 + 3 * C 0 0 1 + c)) = nI (if c = 0 then a else if c = 1 then b else k)
    rcases (show c = 0 ∨ c = 1 ∨ c = 2 by omega) with rfl | rfl | rfl
    · exact e2
    · exact e3
    · exact e4) (fun j h1 h2 h3 => by
    have h2 := h2 (by omega)
    rw [show bs 1 = 12 from rfl, show wt 1 = 3 from rfl] at h2
    exact e5 _ (by omega) (by omega) (by omega))
  refine ⟨okD, by rw [z 8 (by omega)]; exact c8', fun x hx => ?_, by rw [z 0 (by omega), z 2 (by omega), z 3 (by omega), z 4 (by omega)]; exact eN, hr, ht, CX_ins cx (by omega), CH_ins ch (by omega), CW_ins cw (by omega), m1', m2, NM_c hn ok (fun s h1 h4 => ?_) (fun _ _ => rfl)⟩
  · rw [z 2 (by omega)] at hx
    rw [ins_t C (by omega) (by omega), ins_t C (by omega) (by omega), ins_t C (by omega) (by omega)]; exact dz x hx
  · unfold cnt
    by_cases e : s = 1
    · rw [if_pos e, if_pos e]; exact z 0 (by omega)
    · rw [if_neg e, if_neg e]; exact z s (by omega)
theorem TR_set {rt mt i : Nat} (h : TR rt mt) (hi : i < 3) : TR (rt ||| 2 ^ (i + 1)) (mt ||| 2 ^ i) := by
  obtain ⟨h1, h2, h3⟩ := h
  refine ⟨or_lt (n := 4) h1 (by omega), or_lt (n := 9) h2 (by omega), fun k hk => ?_⟩
  rw [fb_bit_set, fb_bit_set, h3 k hk]
  by_cases e : k = i
  · rw [decide_eq_true e, decide_eq_true (by omega)]
  · rw [decide_eq_false e, decide_eq_false (by omega)]
theorem TR_more {rt mt i : Nat} (h : TR rt mt) (hi : 3 ≤ i) (h9 : i < 9) : TR rt (mt ||| 2 ^ i) := by
  obtain ⟨h1, h2, h3⟩ := h
  refine ⟨h1, or_lt (n := 9) h2 (by omega), fun k hk => ?_⟩
  rw [fb_bit_set, h3 k hk, decide_eq_false (show ¬ k = i by omega), Bool.or_false]
section PT
variable {F n q kd e v rt mt' N : Nat} {C : Cy} {nm : Nat → Nat → Nat} {xr xt so nu xx xh xw at0 f g : Nat → Int32} {co names : Nat → Int64} {B : Nat → Nat} {cs : cSt} {ms : mTk} {fp mfp : Int32}
theorem t_rule {i lo hi : Nat} {wg dl od x r c1 c2 c3 c4 ft fl' cn rm nn' xm hm wm : Int32} {c5 : Int64} (hi' : (i = 0 ∧ lo = 0 ∧ hi = 99) ∨ (i = 1 ∧ lo = 1 ∧ hi = 24) ∨ (i = 2 ∧ lo = 0 ∧ hi = 16)) (cr : X1_takeRule F (nI rt) (nI n) cs.1 cs.2.1 cs.2.2.1 cs.2.2.2.1 cs.2.2.2.2 (nI 0) fp f (nI (i + 1)) (nI lo) (nI hi) = some (x, r, c1, c2, c3, c4, c5, ft, fl')) :
    X1_takePart_j22 F (nI rt) (nI n) cs.1 cs.2.1 cs.2.2.1 cs.2.2.2.1 cs.2.2.2.2 (nI 0) fp f wg dl od cn rm xr xt nn' co so nu xm xx hm xh wm xw (nI (i + 1)) = some (mkS [r, c1, c2, c3, c4, ft, fl', if i = 0 then x else wg, if i = 1 then x else dl, if i = 2 then x else od, cn, rm, nn', xm, hm, wm] [c5] [xr, xt, so, nu, xx, xh, xw] [co]) := by
  unfold X1_takePart_j22
  rcases hi' with ⟨rfl, rfl, rfl⟩ | ⟨rfl, rfl, rfl⟩ | ⟨rfl, rfl, rfl⟩
  · rw [Nat.zero_add] at cr ⊢
    simp (maxSteps := 4000000) (disch := omega) only [↓reduceIte, l_0, l_1, l_2, l_3, l_4, l_5, l_6, l_7, l_8, l_9, l_10, l_11, l_12, l_13, l_14, l_15, l_16, l_17, l_18, l_19, l_20, l_21, l_22, l_23, l_24, l_25, l_26, l_27, l_30, l_31, l_32, l_40, l_48, l_57, l_59, l_60, l_61, l_62, l_64, l_83, l_90, l_97, l_99, l_100, l_108, l_115, l_122, l_123, l_127, l_128, l_131, l_135, l_200, l_255, l_256, l_300, l_487, l_495, l_900, l_999, l_1000, l_1700, l_1792, l_1980, l_2048, l_2475, l_2970, l_3121, l_9999, l_10000, l_11351, l_65536, l_100000, l_1000000, ↓l_m1, l_neg, nI_add, pk_mul, pk_sub, q_leT, q_leF, q_ltT, q_ltF, q_eqT, q_eqF, q_m1e, q_m1e2, q_m1lt, q_m1le, q_m1nl, q_m1nle, q_m1s, q_ix, q_jat, q_jput, q_min1, q_min2, q_max1, q_max2, q_or0, q_0or, q_bs, if_true, if_false, true_and, and_true, false_and, and_false, not_true_eq_false, not_false_eq_true, eq_self, Bool.false_eq_true, q_z0, q_z1, l_1981, l_1982, l_1983, l_1984, l_1985, l_1986, l_1987, l_2467, l_116, cr]; rfl
  · rw [show 1 + 1 = 2 from rfl] at cr ⊢
    simp (maxSteps := 4000000) (disch := omega) only [↓reduceIte, l_0, l_1, l_2, l_3, l_4, l_5, l_6, l_7, l_8, l_9, l_10, l_11, l_12, l_13, l_14, l_15, l_16, l_17, l_18, l_19, l_20, l_21, l_22, l_23, l_24, l_25, l_26, l_27, l_30, l_31, l_32, l_40, l_48, l_57, l_59, l_60, l_61, l_62, l_64, l_83, l_90, l_97, l_99, l_100, l_108, l_115, l_122, l_123, l_127, l_128, l_131, l_135, l_200, l_255, l_256, l_300, l_487, l_495, l_900, l_999, l_1000, l_1700, l_1792, l_1980, l_2048, l_2475, l_2970, l_3121, l_9999, l_10000, l_11351, l_65536, l_100000, l_1000000, ↓l_m1, l_neg, nI_add, pk_mul, pk_sub, q_leT, q_leF, q_ltT, q_ltF, q_eqT, q_eqF, q_m1e, q_m1e2, q_m1lt, q_m1le, q_m1nl, q_m1nle, q_m1s, q_ix, q_jat, q_jput, q_min1, q_min2, q_max1, q_max2, q_or0, q_0or, q_bs, if_true, if_false, true_and, and_true, false_and, and_false, not_true_eq_false, not_false_eq_true, eq_self, Bool.false_eq_true, q_z0, q_z1, l_1981, l_1982, l_1983, l_1984, l_1985, l_1986, l_1987, l_2467, l_116, cr]; rfl
  · rw [show 2 + 1 = 3 from rfl] at cr ⊢
    simp (maxSteps := 4000000) (disch := omega) only [↓reduceIte, l_0, l_1, l_2, l_3, l_4, l_5, l_6, l_7, l_8, l_9, l_10, l_11, l_12, l_13, l_14, l_15, l_16, l_17, l_18, l_19, l_20, l_21, l_22, l_23, l_24, l_25, l_26, l_27, l_30, l_31, l_32, l_40, l_48, l_57, l_59, l_60, l_61, l_62, l_64, l_83, l_90, l_97, l_99, l_100, l_108, l_115, l_122, l_123, l_127, l_128, l_131, l_135, l_200, l_255, l_256, l_300, l_487, l_495, l_900, l_999, l_1000, l_1700, l_1792, l_1980, l_2048, l_2475, l_2970, l_3121, l_9999, l_10000, l_11351, l_65536, l_100000, l_1000000, ↓l_m1, l_neg, nI_add, pk_mul, pk_sub, q_leT, q_leF, q_ltT, q_ltF, q_eqT, q_eqF, q_m1e, q_m1e2, q_m1lt, q_m1le, q_m1nl, q_m1nle, q_m1s, q_ix, q_jat, q_jput, q_min1, q_min2, q_max1, q_max2, q_or0, q_0or, q_bs, if_true, if_false, true_and, and_true, false_and, and_false, not_true_eq_false, not_false_eq_true, eq_self, Bool.false_eq_true, q_z0, q_z1, l_1981, l_1982, l_1983, l_1984, l_1985, l_1986, l_1987, l_2467, l_116, cr]; rfl
theorem t_city {i lo hi : Nat} {ms1 : mTk} {u : Int32 × Int32 × Int32 × Int32 × Int32 × Int32 × Int32 × (Nat → Int32)} (hi' : (i = 0 ∧ lo = 0 ∧ hi = 99) ∨ (i = 1 ∧ lo = 1 ∧ hi = 24) ∨ (i = 2 ∧ lo = 0 ∧ hi = 16)) (m5 : mt' < 512) (iw : X12_inWords F (nI n) ms.1 ms.2.1 ms.2.2.1 g = some (nI i)) (y : mt'.testBit i = false) (ah : X12_ahead F (nI n) ms.1 ms.2.1 ms.2.2.1 ms.2.2.2 g = some ms1) (nr : X12_number F (nI n) ms1.1 ms1.2.1 ms1.2.2.1 ms1.2.2.2 mfp (nI 0) at0 g (nI (1980 + (5 + i))) (nI lo) (nI hi) = some u) :
    X12_cityPart F (nI n) ms.1 ms.2.1 ms.2.2.1 ms.2.2.2 mfp (nI 0) (nI mt') at0 names g = X12_cityPart_j203 F (nI n) u.2.1 u.2.2.1 u.2.2.2.1 u.2.2.2.2.1 u.2.2.2.2.2.1 u.2.2.2.2.2.2.1 (nI (mt' ||| 2 ^ i)) u.2.2.2.2.2.2.2 names g u.1 := by
  have bt1 := q_bitF y (by omega) (by omega)
  unfold X12_cityPart X12_cityPart_j46 X12_cityPart_j67
  rcases hi' with ⟨rfl, rfl, rfl⟩ | ⟨rfl, rfl, rfl⟩ | ⟨rfl, rfl, rfl⟩
  · simp (maxSteps := 4000000) (disch := omega) only [↓reduceIte, l_0, l_1, l_2, l_3, l_4, l_5, l_6, l_7, l_8, l_9, l_10, l_11, l_12, l_13, l_14, l_15, l_16, l_17, l_18, l_19, l_20, l_21, l_22, l_23, l_24, l_25, l_26, l_27, l_30, l_31, l_32, l_40, l_48, l_57, l_59, l_60, l_61, l_62, l_64, l_83, l_90, l_97, l_99, l_100, l_108, l_115, l_122, l_123, l_127, l_128, l_131, l_135, l_200, l_255, l_256, l_300, l_487, l_495, l_900, l_999, l_1000, l_1700, l_1792, l_1980, l_2048, l_2475, l_2970, l_3121, l_9999, l_10000, l_11351, l_65536, l_100000, l_1000000, ↓l_m1, l_neg, nI_add, pk_mul, pk_sub, q_leT, q_leF, q_ltT, q_ltF, q_eqT, q_eqF, q_m1e, q_m1e2, q_m1lt, q_m1le, q_m1nl, q_m1nle, q_m1s, q_ix, q_jat, q_jput, q_min1, q_min2, q_max1, q_max2, q_or0, q_0or, q_bs, if_true, if_false, true_and, and_true, false_and, and_false, not_true_eq_false, not_false_eq_true, eq_self, Bool.false_eq_true, q_z0, q_z1, l_1981, l_1982, l_1983, l_1984, l_1985, l_1986, l_1987, l_2467, l_116, iw, bt1, ah, q_shl1, fa_or, nr]
  · simp (maxSteps := 4000000) (disch := omega) only [↓reduceIte, l_0, l_1, l_2, l_3, l_4, l_5, l_6, l_7, l_8, l_9, l_10, l_11, l_12, l_13, l_14, l_15, l_16, l_17, l_18, l_19, l_20, l_21, l_22, l_23, l_24, l_25, l_26, l_27, l_30, l_31, l_32, l_40, l_48, l_57, l_59, l_60, l_61, l_62, l_64, l_83, l_90, l_97, l_99, l_100, l_108, l_115, l_122, l_123, l_127, l_128, l_131, l_135, l_200, l_255, l_256, l_300, l_487, l_495, l_900, l_999, l_1000, l_1700, l_1792, l_1980, l_2048, l_2475, l_2970, l_3121, l_9999, l_10000, l_11351, l_65536, l_100000, l_1000000, ↓l_m1, l_neg, nI_add, pk_mul, pk_sub, q_leT, q_leF, q_ltT, q_ltF, q_eqT, q_eqF, q_m1e, q_m1e2, q_m1lt, q_m1le, q_m1nl, q_m1nle, q_m1s, q_ix, q_jat, q_jput, q_min1, q_min2, q_max1, q_max2, q_or0, q_0or, q_bs, if_true, if_false, true_and, and_true, false_and, and_false, not_true_eq_false, not_false_eq_true, eq_self, Bool.false_eq_true, q_z0, q_z1, l_1981, l_1982, l_1983, l_1984, l_1985, l_1986, l_1987, l_2467, l_116, iw, bt1, ah, q_shl1, fa_or, nr]
  · simp (maxSteps := 4000000) (disch := omega) only [↓reduceIte, l_0, l_1, l_2, l_3, l_4, l_5, l_6, l_7, l_8, l_9, l_10, l_11, l_12, l_13, l_14, l_15, l_16, l_17, l_18, l_19, l_20, l_21, l_22, l_23, l_24, l_25, l_26, l_27, l_30, l_31, l_32, l_40, l_48, l_57, l_59, l_60, l_61, l_62, l_64, l_83, l_90, l_97, l_99, l_100, l_108, l_115, l_122, l_123, l_127, l_128, l_131, l_135, l_200, l_255, l_256, l_300, l_487, l_495, l_900, l_999, l_1000, l_1700, l_1792, l_1980, l_2048, l_2475, l_2970, l_3121, l_9999, l_10000, l_11351, l_65536, l_100000, l_1000000, ↓l_m1, l_neg, nI_add, pk_mul, pk_sub, q_leT, q_leF, q_ltT, q_ltF, q_eqT, q_eqF, q_m1e, q_m1e2, q_m1lt, q_m1le, q_m1nl, q_m1nle, q_m1s, q_ix, q_jat, q_jput, q_min1, q_min2, q_max1, q_max2, q_or0, q_0or, q_bs, if_true, if_false, true_and, and_true, false_and, and_false, not_true_eq_false, not_false_eq_true, eq_self, Bool.false_eq_true, q_z0, q_z1, l_1981, l_1982, l_1983, l_1984, l_1985, l_1986, l_1987, l_2467, l_116, iw, bt1, ah, q_shl1, fa_or, nr]
theorem p_rule {i lo hi : Nat} (hi' : (i = 0 ∧ lo = 0 ∧ hi = 99) ∨ (i = 1 ∧ lo = 1 ∧ hi = 24) ∨ (i = 2 ∧ lo = 0 ∧ hi = 16)) (dr : DR C N nm xr xt co so nu xx xh xw at0 names) (tr : TR rt mt') (hx : TX n B f g) (h : TkR n B q 1 e v cs ms) (iw : X12_inWords F (nI n) ms.1 ms.2.1 ms.2.2.1 g = some (nI i)) (hF : 2000 < F) :
    PartR n B q fp mfp xt at0 names (X1_takePart_j22 F (nI rt) (nI n) cs.1 cs.2.1 cs.2.2.1 cs.2.2.2.1 cs.2.2.2.2 (nI 0) fp f (nI (C 0 0 5)) (nI (C 0 0 6)) (nI (C 0 0 7)) (nI (C 0 0 0)) (nI (C 0 0 1)) xr xt (nI N) co so nu (nI (C 0 0 2)) xx (nI (C 0 0 3)) xh (nI (C 0 0 4)) xw (nI (i + 1))) (X12_cityPart F (nI n) ms.1 ms.2.1 ms.2.2.1 ms.2.2.2 mfp (nI 0) (nI mt') at0 names g) := by
  have tr' := tr
  obtain ⟨r16, m512, rb⟩ := tr
  have b := tk_bnd h
  have h' := h
  obtain ⟨⟨p, tk⟩, h1, h2, h3, h4, h5, h6⟩ := h'
  have fo : True := trivial
  by_cases y : mt'.testBit i = true
  · have y' : rt.testBit (i + 1) = true := by rw [rb i (by omega)]; exact y
    have fl := q_fails (fp := mfp) (k := 5) h4 h5 b.2.1 (by omega)
    rw [show fk 1 5 = 5 from rfl] at fl
    have ff := q_fail (fp := fp) (k := 5) h1
    have bt1 := q_bitT y (by omega) (by omega)
    have bt2 := q_bitT y' (by omega) (by omega)
    have cr : X1_takeRule F (nI rt) (nI n) cs.1 cs.2.1 cs.2.2.1 cs.2.2.2.1 cs.2.2.2.2 (nI 0) fp f (nI (i + 1)) (nI lo) (nI hi) = some (nI lo, nI rt, cs.1, cs.2.1, cs.2.2.1, cs.2.2.2.1, cs.2.2.2.2, nI 5, nI q) := by
      unfold X1_takeRule
      simp (maxSteps := 4000000) (disch := omega) only [↓reduceIte, l_0, l_1, l_2, l_3, l_4, l_5, l_6, l_7, l_8, l_9, l_10, l_11, l_12, l_13, l_14, l_15, l_16, l_17, l_18, l_19, l_20, l_21, l_22, l_23, l_24, l_25, l_26, l_27, l_30, l_31, l_32, l_40, l_48, l_57, l_59, l_60, l_61, l_62, l_64, l_83, l_90, l_97, l_99, l_100, l_108, l_115, l_122, l_123, l_127, l_128, l_131, l_135, l_200, l_255, l_256, l_300, l_487, l_495, l_900, l_999, l_1000, l_1700, l_1792, l_1980, l_2048, l_2475, l_2970, l_3121, l_9999, l_10000, l_11351, l_65536, l_100000, l_1000000, ↓l_m1, l_neg, nI_add, pk_mul, pk_sub, q_leT, q_leF, q_ltT, q_ltF, q_eqT, q_eqF, q_m1e, q_m1e2, q_m1lt, q_m1le, q_m1nl, q_m1nle, q_m1s, q_ix, q_jat, q_jput, q_min1, q_min2, q_max1, q_max2, q_or0, q_0or, q_bs, if_true, if_false, true_and, and_true, false_and, and_false, not_true_eq_false, not_false_eq_true, eq_self, Bool.false_eq_true, q_z0, q_z1, l_1981, l_1982, l_1983, l_1984, l_1985, l_1986, l_1987, l_2467, l_116, bt2, ff]
    refine Or.inr ⟨5, q, _, _, by omega, by omega, t_rule hi' cr, ?_, ?_, ?_, by unfold X12_cityPart; simp (maxSteps := 4000000) (disch := omega) only [↓reduceIte, l_0, l_1, l_2, l_3, l_4, l_5, l_6, l_7, l_8, l_9, l_10, l_11, l_12, l_13, l_14, l_15, l_16, l_17, l_18, l_19, l_20, l_21, l_22, l_23, l_24, l_25, l_26, l_27, l_30, l_31, l_32, l_40, l_48, l_57, l_59, l_60, l_61, l_62, l_64, l_83, l_90, l_97, l_99, l_100, l_108, l_115, l_122, l_123, l_127, l_128, l_131, l_135, l_200, l_255, l_256, l_300, l_487, l_495, l_900, l_999, l_1000, l_1700, l_1792, l_1980, l_2048, l_2475, l_2970, l_3121, l_9999, l_10000, l_11351, l_65536, l_100000, l_1000000, ↓l_m1, l_neg, nI_add, pk_mul, pk_sub, q_leT, q_leF, q_ltT, q_ltF, q_eqT, q_eqF, q_m1e, q_m1e2, q_m1lt, q_m1le, q_m1nl, q_m1nle, q_m1s, q_ix, q_jat, q_jput, q_min1, q_min2, q_max1, q_max2, q_or0, q_0or, q_bs, if_true, if_false, true_and, and_true, false_and, and_false, not_true_eq_false, not_false_eq_true, eq_self, Bool.false_eq_true, q_z0, q_z1, l_1981, l_1982, l_1983, l_1984, l_1985, l_1986, l_1987, l_2467, l_116, iw, bt1, fl]; rfl, ?_, ?_, ?_, ?_, ?_⟩
    all_goals first | rfl | exact fun j hj => rfl | exact fun j hj => pk_un (by omega) | exact fun j hj => pk_uLn (by omega) | exact fo | (intro j hj; simp (disch := omega) only [pk_un, fo]) | (intro j hj; dsimp only; simp (disch := omega) only [pk_un, fo])
  have y0 : mt'.testBit i = false := by
    cases q : mt'.testBit i
    · rfl
    · exact absurd q y
  have y' : rt.testBit (i + 1) = false := by rw [rb i (by omega)]; exact y0
  have bt2 := q_bitF y' (by omega) (by omega)
  obtain ⟨q1, kd1, e1, v1, cs1, ms1, a1, a2, t1, l1⟩ := s_adv (F := F) hx h (by omega) hF
  have qe := b.2.2.2.1 (by omega) (by omega)
  rcases s_num (F := F) (lo := lo) (hi := hi) (to := 1980 + (5 + i)) (at0 := at0) fp mfp hx t1 (by omega) (by omega) (by omega) hF with ⟨q2, kd2, e2, v2, cs2, ms2, lo2, hi2, g1, g2, t2, l2⟩ | ⟨k, k1, k7, g1, g2⟩
  case inr =>
    have cr : X1_takeRule F (nI rt) (nI n) cs.1 cs.2.1 cs.2.2.1 cs.2.2.2.1 cs.2.2.2.2 (nI 0) fp f (nI (i + 1)) (nI lo) (nI hi) = some (nI lo, nI (rt ||| 2 ^ (i + 1)), cs1.1, cs1.2.1, cs1.2.2.1, cs1.2.2.2.1, cs1.2.2.2.2, nI k, nI q1) := by
      unfold X1_takeRule
      simp (maxSteps := 4000000) (disch := omega) only [↓reduceIte, l_0, l_1, l_2, l_3, l_4, l_5, l_6, l_7, l_8, l_9, l_10, l_11, l_12, l_13, l_14, l_15, l_16, l_17, l_18, l_19, l_20, l_21, l_22, l_23, l_24, l_25, l_26, l_27, l_30, l_31, l_32, l_40, l_48, l_57, l_59, l_60, l_61, l_62, l_64, l_83, l_90, l_97, l_99, l_100, l_108, l_115, l_122, l_123, l_127, l_128, l_131, l_135, l_200, l_255, l_256, l_300, l_487, l_495, l_900, l_999, l_1000, l_1700, l_1792, l_1980, l_2048, l_2475, l_2970, l_3121, l_9999, l_10000, l_11351, l_65536, l_100000, l_1000000, ↓l_m1, l_neg, nI_add, pk_mul, pk_sub, q_leT, q_leF, q_ltT, q_ltF, q_eqT, q_eqF, q_m1e, q_m1e2, q_m1lt, q_m1le, q_m1nl, q_m1nle, q_m1s, q_ix, q_jat, q_jput, q_min1, q_min2, q_max1, q_max2, q_or0, q_0or, q_bs, if_true, if_false, true_and, and_true, false_and, and_false, not_true_eq_false, not_false_eq_true, eq_self, Bool.false_eq_true, q_z0, q_z1, l_1981, l_1982, l_1983, l_1984, l_1985, l_1986, l_1987, l_2467, l_116, bt2, a1, g1, f_word, f_end, f_num, f_new, f_look, f_name, f_cmp, q_shl1, fa_or]
    refine Or.inr ⟨k, q1, _, _, k1, k7, t_rule hi' cr, ?_, ?_, ?_, by rw [t_city hi' m512 iw y0 a2 g2]; unfold X12_cityPart_j203 X12_cityPart_j220; simp (maxSteps := 4000000) (disch := omega) only [↓reduceIte, l_0, l_1, l_2, l_3, l_4, l_5, l_6, l_7, l_8, l_9, l_10, l_11, l_12, l_13, l_14, l_15, l_16, l_17, l_18, l_19, l_20, l_21, l_22, l_23, l_24, l_25, l_26, l_27, l_30, l_31, l_32, l_40, l_48, l_57, l_59, l_60, l_61, l_62, l_64, l_83, l_90, l_97, l_99, l_100, l_108, l_115, l_122, l_123, l_127, l_128, l_131, l_135, l_200, l_255, l_256, l_300, l_487, l_495, l_900, l_999, l_1000, l_1700, l_1792, l_1980, l_2048, l_2475, l_2970, l_3121, l_9999, l_10000, l_11351, l_65536, l_100000, l_1000000, ↓l_m1, l_neg, nI_add, pk_mul, pk_sub, q_leT, q_leF, q_ltT, q_ltF, q_eqT, q_eqF, q_m1e, q_m1e2, q_m1lt, q_m1le, q_m1nl, q_m1nle, q_m1s, q_ix, q_jat, q_jput, q_min1, q_min2, q_max1, q_max2, q_or0, q_0or, q_bs, if_true, if_false, true_and, and_true, false_and, and_false, not_true_eq_false, not_false_eq_true, eq_self, Bool.false_eq_true, q_z0, q_z1, l_1981, l_1982, l_1983, l_1984, l_1985, l_1986, l_1987, l_2467, l_116]; rfl, ?_, ?_, ?_, ?_, ?_⟩
    all_goals first | rfl | exact fun j hj => rfl | exact fun j hj => pk_un (by omega) | exact fun j hj => pk_uLn (by omega) | exact fo | (intro j hj; simp (disch := omega) only [pk_un, fo]) | (intro j hj; dsimp only; simp (disch := omega) only [pk_un, fo])
  rcases s_end (F := F) fp mfp hx t2 hF with ⟨q3, kd3, e3, v3, cs3, ms3, j1, j2, t3, l3⟩ | ⟨k, k1, k7, j1, j2⟩
  case inr =>
    have cr : X1_takeRule F (nI rt) (nI n) cs.1 cs.2.1 cs.2.2.1 cs.2.2.2.1 cs.2.2.2.2 (nI 0) fp f (nI (i + 1)) (nI lo) (nI hi) = some (nI v1, nI (rt ||| 2 ^ (i + 1)), cs2.1, cs2.2.1, cs2.2.2.1, cs2.2.2.2.1, cs2.2.2.2.2, nI k, nI q2) := by
      unfold X1_takeRule
      simp (maxSteps := 4000000) (disch := omega) only [↓reduceIte, l_0, l_1, l_2, l_3, l_4, l_5, l_6, l_7, l_8, l_9, l_10, l_11, l_12, l_13, l_14, l_15, l_16, l_17, l_18, l_19, l_20, l_21, l_22, l_23, l_24, l_25, l_26, l_27, l_30, l_31, l_32, l_40, l_48, l_57, l_59, l_60, l_61, l_62, l_64, l_83, l_90, l_97, l_99, l_100, l_108, l_115, l_122, l_123, l_127, l_128, l_131, l_135, l_200, l_255, l_256, l_300, l_487, l_495, l_900, l_999, l_1000, l_1700, l_1792, l_1980, l_2048, l_2475, l_2970, l_3121, l_9999, l_10000, l_11351, l_65536, l_100000, l_1000000, ↓l_m1, l_neg, nI_add, pk_mul, pk_sub, q_leT, q_leF, q_ltT, q_ltF, q_eqT, q_eqF, q_m1e, q_m1e2, q_m1lt, q_m1le, q_m1nl, q_m1nle, q_m1s, q_ix, q_jat, q_jput, q_min1, q_min2, q_max1, q_max2, q_or0, q_0or, q_bs, if_true, if_false, true_and, and_true, false_and, and_false, not_true_eq_false, not_false_eq_true, eq_self, Bool.false_eq_true, q_z0, q_z1, l_1981, l_1982, l_1983, l_1984, l_1985, l_1986, l_1987, l_2467, l_116, bt2, a1, g1, j1, q_shl1, fa_or]
    refine Or.inr ⟨k, q2, _, _, k1, k7, t_rule hi' cr, ?_, ?_, ?_, by rw [t_city hi' m512 iw y0 a2 g2]; unfold X12_cityPart_j203 X12_cityPart_j220; simp (maxSteps := 4000000) (disch := omega) only [↓reduceIte, l_0, l_1, l_2, l_3, l_4, l_5, l_6, l_7, l_8, l_9, l_10, l_11, l_12, l_13, l_14, l_15, l_16, l_17, l_18, l_19, l_20, l_21, l_22, l_23, l_24, l_25, l_26, l_27, l_30, l_31, l_32, l_40, l_48, l_57, l_59, l_60, l_61, l_62, l_64, l_83, l_90, l_97, l_99, l_100, l_108, l_115, l_122, l_123, l_127, l_128, l_131, l_135, l_200, l_255, l_256, l_300, l_487, l_495, l_900, l_999, l_1000, l_1700, l_1792, l_1980, l_2048, l_2475, l_2970, l_3121, l_9999, l_10000, l_11351, l_65536, l_100000, l_1000000, ↓l_m1, l_neg, nI_add, pk_mul, pk_sub, q_leT, q_leF, q_ltT, q_ltF, q_eqT, q_eqF, q_m1e, q_m1e2, q_m1lt, q_m1le, q_m1nl, q_m1nle, q_m1s, q_ix, q_jat, q_jput, q_min1, q_min2, q_max1, q_max2, q_or0, q_0or, q_bs, if_true, if_false, true_and, and_true, false_and, and_false, not_true_eq_false, not_false_eq_true, eq_self, Bool.false_eq_true, q_z0, q_z1, l_1981, l_1982, l_1983, l_1984, l_1985, l_1986, l_1987, l_2467, l_116, j2]; rfl, ?_, ?_, ?_, ?_, ?_⟩
    all_goals first | rfl | exact fun j hj => rfl | exact fun j hj => pk_un (by omega) | exact fun j hj => pk_uLn (by omega) | exact fo | (intro j hj; simp (disch := omega) only [pk_un, fo]) | (intro j hj; dsimp only; simp (disch := omega) only [pk_un, fo])
  have cr : X1_takeRule F (nI rt) (nI n) cs.1 cs.2.1 cs.2.2.1 cs.2.2.2.1 cs.2.2.2.2 (nI 0) fp f (nI (i + 1)) (nI lo) (nI hi) = some (nI v1, nI (rt ||| 2 ^ (i + 1)), cs3.1, cs3.2.1, cs3.2.2.1, cs3.2.2.2.1, cs3.2.2.2.2, nI 0, fp) := by
    unfold X1_takeRule
    simp (maxSteps := 4000000) (disch := omega) only [↓reduceIte, l_0, l_1, l_2, l_3, l_4, l_5, l_6, l_7, l_8, l_9, l_10, l_11, l_12, l_13, l_14, l_15, l_16, l_17, l_18, l_19, l_20, l_21, l_22, l_23, l_24, l_25, l_26, l_27, l_30, l_31, l_32, l_40, l_48, l_57, l_59, l_60, l_61, l_62, l_64, l_83, l_90, l_97, l_99, l_100, l_108, l_115, l_122, l_123, l_127, l_128, l_131, l_135, l_200, l_255, l_256, l_300, l_487, l_495, l_900, l_999, l_1000, l_1700, l_1792, l_1980, l_2048, l_2475, l_2970, l_3121, l_9999, l_10000, l_11351, l_65536, l_100000, l_1000000, ↓l_m1, l_neg, nI_add, pk_mul, pk_sub, q_leT, q_leF, q_ltT, q_ltF, q_eqT, q_eqF, q_m1e, q_m1e2, q_m1lt, q_m1le, q_m1nl, q_m1nle, q_m1s, q_ix, q_jat, q_jput, q_min1, q_min2, q_max1, q_max2, q_or0, q_0or, q_bs, if_true, if_false, true_and, and_true, false_and, and_false, not_true_eq_false, not_false_eq_true, eq_self, Bool.false_eq_true, q_z0, q_z1, l_1981, l_1982, l_1983, l_1984, l_1985, l_1986, l_1987, l_2467, l_116, bt2, a1, g1, j1, q_shl1, fa_or]
  refine Or.inl ⟨q3, kd3, e3, v3, N, rt ||| 2 ^ (i + 1), mt' ||| 2 ^ i, cs3, ms3, stC C (5 + i) v1, nm, xr, xt, so, nu, xx, xh, xw, _, co, names, ?_, by rw [t_city hi' m512 iw y0 a2 g2]; unfold X12_cityPart_j203; simp (maxSteps := 4000000) (disch := omega) only [↓reduceIte, l_0, l_1, l_2, l_3, l_4, l_5, l_6, l_7, l_8, l_9, l_10, l_11, l_12, l_13, l_14, l_15, l_16, l_17, l_18, l_19, l_20, l_21, l_22, l_23, l_24, l_25, l_26, l_27, l_30, l_31, l_32, l_40, l_48, l_57, l_59, l_60, l_61, l_62, l_64, l_83, l_90, l_97, l_99, l_100, l_108, l_115, l_122, l_123, l_127, l_128, l_131, l_135, l_200, l_255, l_256, l_300, l_487, l_495, l_900, l_999, l_1000, l_1700, l_1792, l_1980, l_2048, l_2475, l_2970, l_3121, l_9999, l_10000, l_11351, l_65536, l_100000, l_1000000, ↓l_m1, l_neg, nI_add, pk_mul, pk_sub, q_leT, q_leF, q_ltT, q_ltF, q_eqT, q_eqF, q_m1e, q_m1e2, q_m1lt, q_m1le, q_m1nl, q_m1nle, q_m1s, q_ix, q_jat, q_jput, q_min1, q_min2, q_max1, q_max2, q_or0, q_0or, q_bs, if_true, if_false, true_and, and_true, false_and, and_false, not_true_eq_false, not_false_eq_true, eq_self, Bool.false_eq_true, q_z0, q_z1, l_1981, l_1982, l_1983, l_1984, l_1985, l_1986, l_1987, l_2467, l_116, j2], t3, by omega, TR_set tr' (by omega), DR_stC dr (by omega), fun j hj => pk_un (by omega), fun j hj => rfl⟩
  rw [t_rule hi' cr]
  rw [stC_0 C (c := 0) (by omega), stC_0 C (c := 1) (by omega), stC_0 C (c := 2) (by omega), stC_0 C (c := 3) (by omega), stC_0 C (c := 4) (by omega)]
  rcases hi' with ⟨rfl, rfl, rfl⟩ | ⟨rfl, rfl, rfl⟩ | ⟨rfl, rfl, rfl⟩
  · rw [show 5 + 0 = 5 from rfl, stC_s, stC_0 C (c := 6) (by omega), stC_0 C (c := 7) (by omega)]; rfl
  · rw [show 5 + 1 = 6 from rfl, stC_s, stC_0 C (c := 5) (by omega), stC_0 C (c := 7) (by omega)]; rfl
  · rw [show 5 + 2 = 7 from rfl, stC_s, stC_0 C (c := 5) (by omega), stC_0 C (c := 6) (by omega)]; rfl
end PT
