/-! ===== PURE 20.m: ROSTER ===== -/
def stR (C : Cy) (x m : Nat) : Cy := fun t r c => if t = 2 ∧ r = x ∧ c = 2 then m else C t r c
theorem stR_t (C : Cy) {x m t r c : Nat} (h : t ≠ 2) : stR C x m t r c = C t r c := if_neg (fun q => h q.1)
theorem stR_c (C : Cy) {x m r c : Nat} (h : c ≠ 2) : stR C x m 2 r c = C 2 r c := if_neg (fun q => h q.2.2)
theorem stR_o (C : Cy) {x m r c : Nat} (h : r ≠ x) : stR C x m 2 r c = C 2 r c := if_neg (fun q => h q.2.1)
theorem stR_s (C : Cy) {x m : Nat} : stR C x m 2 x 2 = m := if_pos ⟨rfl, rfl, rfl⟩
theorem DR_roster {C : Cy} {N x m : Nat} {nm : Nat → Nat → Nat} {xr xt so nu xx xh xw at0 at1 : Nat → Int32} {co names : Nat → Int64} (dr : DR C N nm xr xt co so nu xx xh xw at0 names) (hx : x < C 0 0 2) (hm : m < 256) (e1 : at1 (1980 + (48 + 5 * x + 2)) = nI m) (e2 : ∀ j, j < 127 → j ≠ 48 + 5 * x + 2 → at1 (1980 + j) = at0 (1980 + j)) : DR (stR C x m) N nm xr xt co so nu (upd xx (x * 5 + 2) (nI m)) xh xw at1 names := by
  obtain ⟨ok, c8', dz, eN, rc, ct, cx, ch, cw, hM, zr, hn⟩ := dr
  have okC := ok
  obtain ⟨o0, oR, oE, oH, oW⟩ := ok
  have t : ∀ t r c, t ≠ 2 → stR C x m t r c = C t r c := fun t r c h => stR_t C h
  have z : ∀ c, stR C x m 0 0 c = C 0 0 c := fun c => stR_t C (by omega)
  obtain ⟨a0, a1, a2, a3, a4, a5, a6⟩ := hM
  have far : ∀ k, k < 127 → k ≠ 48 + 5 * x + 2 → sl at1 k = sl at0 k := fun k hk h => e2 k hk h
  refine ⟨⟨?_, fun r hr => ?_, fun r hr => ?_, fun r hr => ?_, fun r hr => ?_⟩, by rw [z]; exact c8', fun y hy => ?_, by rw [z, z, z, z]; exact eN, fun r c hr hc => ?_, fun a b ha hb => ?_, fun y c hy hc => ?_, CH_t ch (z 3) (fun r c => t _ _ _ (by omega)), CW_t cw (z 4) (fun r c => t _ _ _ (by omega)), ⟨fun k hk => ?_, fun r c hr hc => ?_, fun y hy q => ?_, fun y hy q => ?_, fun y c hy h1 hc => ?_, fun y c hy hc => ?_, fun y c hy hc => ?_⟩, ⟨?_, fun y c h1 h2 h3 h4 => ?_, fun y h1 h2 => ?_, fun y h1 h2 => ?_⟩, NM_c hn okC (fun s h1 h4 => ?_) (fun _ _ => rfl)⟩
  · rw [z, z, z, z, z, z, z, z, z]; exact o0
  · rw [z] at hr
    rw [z, t _ _ _ (by omega), t _ _ _ (by omega), t _ _ _ (by omega)]; exact oR r hr
  · rw [z] at hr
    have := oE r hr
    rw [z, stR_c C (by omega), stR_c C (by omega)]
    by_cases y : r = x
    · subst y; rw [stR_s]; omega
    · rw [stR_o C y]; exact this
  · rw [z] at hr
    rw [z, t _ _ _ (by omega), t _ _ _ (by omega), t _ _ _ (by omega), t _ _ _ (by omega)]; exact oH r hr
  · rw [z] at hr
    rw [z, t _ _ _ (by omega), t _ _ _ (by omega)]; exact oW r hr
  · rw [z] at hy
    rw [stR_c C (by omega), stR_c C (by omega), stR_c C (by omega)]; exact dz y hy
  · rw [z] at hr
    rw [t _ _ _ (by omega)]; exact rc r c hr hc
  · rw [ct a b ha hb]; unfold tk0; rw [tk_cong (z 1) (fun r c => t _ _ _ (by omega))]
  · rw [z] at hy
    by_cases q : y = x ∧ c = 2
    · rw [q.1, q.2, pk_us, stR_s]
    · rw [pk_un (by omega), cx y c hy hc]
      by_cases q' : y = x
      · rw [stR_c C (by omega)]
      · rw [stR_o C q']
  · rw [z, far k (by omega) (by omega)]; exact a0 k hk
  · rw [z] at hr
    rw [far _ (by omega) (by omega), t _ _ _ (by omega)]; exact a1 r c hr hc
  · rw [z] at hy
    rw [stR_c C (by omega)] at q
    rw [far _ (by omega) (by omega), stR_c C (by omega)]; exact a2 y hy q
  · rw [z] at hy
    rw [stR_c C (by omega)] at q
    rw [far _ (by omega) (by omega), stR_c C (by omega)]; exact a3 y hy q
  · rw [z] at hy
    by_cases q : y = x ∧ c = 2
    · rw [q.1, q.2, stR_s]; exact e1
    · rw [far _ (by omega) (by omega), a4 y c hy h1 hc]
      by_cases q' : y = x
      · rw [stR_c C (by omega)]
      · rw [stR_o C q']
  · rw [z] at hy
    rw [far _ (by omega) (by omega), t _ _ _ (by omega)]; exact a5 y c hy hc
  · rw [z] at hy
    rw [far _ (by omega) (by omega), t _ _ _ (by omega)]; exact a6 y c hy hc
  · rw [far _ (by omega) (by omega)]; exact zr.1
  · rw [z] at h1
    rw [far _ (by omega) (by omega)]; exact zr.2.1 y c h1 h2 h3 h4
  · rw [z] at h1
    rw [far _ (by omega) (by omega)]; exact zr.2.2.1 y h1 h2
  · rw [z] at h1
    rw [far _ (by omega) (by omega)]; exact zr.2.2.2 y h1 h2
  · unfold cnt
    by_cases e : s = 1
    · rw [if_pos e, if_pos e]; exact z 0
    · rw [if_neg e, if_neg e]; exact z s
theorem ct_set {m k n : Nat} (hk : k < n) (h : m.testBit k = false) : fb_ct (m ||| 2 ^ k).testBit n = fb_ct m.testBit n + 1 := by
  have u := fb_ct_upd m.testBit true hk
  rw [h] at u
  have e : fb_ct (m ||| 2 ^ k).testBit n = fb_ct (fun r => if r = k then true else m.testBit r) n := fb_ct_cong (fun r _ => by
    rw [fb_bit_set]
    by_cases q : r = k
    · rw [if_pos q, decide_eq_true q, Bool.or_true]
    · rw [if_neg q, decide_eq_false q, Bool.or_false])
  rw [e]
  simpa using u
/-- no END of a PART here -/
theorem q_sign {F n q kd e v : Nat} {B : Nat → Nat} {g : Nat → Int32} {cs : cSt} {ms : mTk} (mfp : Int32) (h : TkR n B q kd e v cs ms) (k3 : kd ≠ 3) : X12_wantSign F (nI n) ms.1 ms.2.1 ms.2.2.1 ms.2.2.2 mfp (nI 0) g (nI 59) = some (nI 0, ms.1, ms.2.1, ms.2.2.1, ms.2.2.2, nI q, nI (fk kd 2)) := by
  have b := tk_bnd h
  obtain ⟨⟨p, tk⟩, h1, h2, h3, h4, h5, h6⟩ := h
  have fl := q_fails (fp := mfp) (k := 2) h4 h5 b.2.1 (by omega)
  have m4 : mtk kd ≠ 4 ∧ mtk kd < 10 := by
    unfold mtk
    rcases (show kd = 0 ∨ kd = 1 ∨ kd = 2 ∨ kd = 4 by omega) with rfl | rfl | rfl | rfl <;> decide
  have m41 := m4.1
  have m42 := m4.2
  unfold X12_wantSign X12_isSign X12_isSign_j20
  rw [h4] at fl ⊢
  simp (disch := omega) only [l_0, l_1, l_2, l_3, l_4, l_5, l_6, l_7, l_8, l_9, l_10, l_11, l_12, l_13, l_14, l_15, l_16, l_17, l_18, l_19, l_20, l_21, l_22, l_23, l_24, l_25, l_26, l_27, l_30, l_31, l_32, l_40, l_48, l_57, l_59, l_60, l_61, l_62, l_64, l_83, l_90, l_97, l_99, l_100, l_108, l_115, l_122, l_123, l_127, l_128, l_131, l_135, l_200, l_255, l_256, l_300, l_487, l_495, l_900, l_999, l_1000, l_1700, l_1792, l_1980, l_2048, l_2475, l_2970, l_3121, l_9999, l_10000, l_11351, l_65536, l_100000, l_1000000, ↓l_m1, l_neg, nI_add, pk_mul, pk_sub, q_leT, q_leF, q_ltT, q_ltF, q_eqT, q_eqF, q_m1e, q_m1e2, q_m1lt, q_m1le, q_m1nl, q_m1nle, q_m1s, q_ix, q_jat, q_jput, q_min1, q_min2, q_max1, q_max2, q_or0, q_0or, q_bs, if_true, if_false, true_and, and_true, false_and, and_false, not_true_eq_false, not_false_eq_true, eq_self, Bool.false_eq_true, q_z0, q_z1, fl]
def RoR (F n : Nat) (B : Nat → Nat) (C : Cy) (q : Nat) (fp mfp : Int32) (g : Nat → Int32) (a : Option (Int32 × Int32 × Int32 × Int32 × Int32 × Int64 × Int32 × Int32)) (b : Option ((Int32 × Int32 × Int32 × Int32) ⊕ (Int32 × Int32 × Int32 × Int32) ⊕ (Int32 × Int32 × Int32 × Int32 × Int32))) : Prop :=
  (∃ (q' kd' e' v' m : Nat) (cs' : cSt) (ms' : mTk), a = some (nI m, cs'.1, cs'.2.1, cs'.2.2.1, cs'.2.2.2.1, cs'.2.2.2.2, nI 0, fp) ∧ b = some (.inr (.inr (nI m, ms'.1, ms'.2.1, ms'.2.2.1, ms'.2.2.2))) ∧ TkR n B q' kd' e' v' cs' ms' ∧ q ≤ q' ∧ m < 2 ^ C 0 0 3) ∨
  (∃ (k p : Nat) (m' c1 c2 c3 c4 : Int32) (c5 : Int64) (t : mTk), 1 ≤ k ∧ k ≤ 7 ∧ a = some (m', c1, c2, c3, c4, c5, nI k, nI p) ∧ ((b = some (.inl t) ∧ X12_fails t.1 t.2.1 mfp (nI 0) (nI 3) = some (nI 0, nI p, nI k)) ∨ (b = some (.inr (.inl t)) ∧ X12_fails t.1 t.2.1 mfp (nI 0) (nI 5) = some (nI 0, nI p, nI k)) ∨ (∃ m, b = some (.inr (.inr (m, t))) ∧ X12_wantSign F (nI n) t.1 t.2.1 t.2.2.1 t.2.2.2 mfp (nI 0) g (nI 59) = some (nI 0, t.1, t.2.1, t.2.2.1, t.2.2.2, nI p, nI k))))
theorem ro_loop {F n N : Nat} {C : Cy} {nm : Nat → Nat → Nat} {co : Nat → Int64} {so nu at0 xx : Nat → Int32} {names : Nat → Int64} {B : Nat → Nat} {f g : Nat → Int32} (x : Int32) (fp mfp : Int32) (ok : Ok C) (hn : NM C N nm co so nu (fun k => names (108 + k))) (a3 : at0 1983 = nI (C 0 0 3)) (hx : TX n B f g) (hF : 2000 < F) :
    ∀ (j q kd e v m i : Nat) (cs : cSt) (ms : mTk) (G : Nat), n - q ≤ j → j + 2 ≤ G → TkR n B q kd e v cs ms → m < 2 ^ C 0 0 3 → fb_ct m.testBit (C 0 0 3) = i →
      RoR F n B C q fp mfp g (iter (X1_takeRoster_b27 F (nI n) f (nI N) co so nu (nI (C 0 0 2)) xx (nI (C 0 0 3)) x) G (nI m, nI i, cs.1, cs.2.1, cs.2.2.1, cs.2.2.2.1, cs.2.2.2.2, nI 0, fp)) (iter (X12_aRoster_b30 F (nI n) mfp (nI 0) at0 names g (nI 2467)) G (nI m, ms.1, ms.2.1, ms.2.2.1, ms.2.2.2)) := by
  have o0 := ok.1
  have ex : ∀ (m' a b c d : Int32) (e : Int64) (i k q G : Nat), i ≤ C 0 0 3 + 1 → 1 ≤ k → k ≤ 7 → iter (X1_takeRoster_b27 F (nI n) f (nI N) co so nu (nI (C 0 0 2)) xx (nI (C 0 0 3)) x) (G + 1) (m', nI i, a, b, c, d, e, nI k, nI q) = some (m', a, b, c, d, e, nI k, nI q) := fun m' a b c d e i k q G hi k1 k7 => by
    refine iter_r ?_ G
    unfold X1_takeRoster_b27 X8_isOpen X8_isOpen_j18
    by_cases y : C 0 0 3 < i
    · simp (maxSteps := 4000000) (disch := omega) only [↓reduceIte, l_0, l_1, l_2, l_3, l_4, l_5, l_6, l_7, l_8, l_9, l_10, l_11, l_12, l_13, l_14, l_15, l_16, l_17, l_18, l_19, l_20, l_21, l_22, l_23, l_24, l_25, l_26, l_27, l_30, l_31, l_32, l_40, l_48, l_57, l_59, l_60, l_61, l_62, l_64, l_83, l_90, l_97, l_99, l_100, l_108, l_115, l_122, l_123, l_127, l_128, l_131, l_135, l_200, l_255, l_256, l_300, l_487, l_495, l_900, l_999, l_1000, l_1700, l_1792, l_1980, l_2048, l_2475, l_2970, l_3121, l_9999, l_10000, l_11351, l_65536, l_100000, l_1000000, ↓l_m1, l_neg, nI_add, pk_mul, pk_sub, q_leT, q_leF, q_ltT, q_ltF, q_eqT, q_eqF, q_m1e, q_m1e2, q_m1lt, q_m1le, q_m1nl, q_m1nle, q_m1s, q_ix, q_jat, q_jput, q_min1, q_min2, q_max1, q_max2, q_or0, q_0or, q_bs, if_true, if_false, true_and, and_true, false_and, and_false, not_true_eq_false, not_false_eq_true, eq_self, Bool.false_eq_true, q_z0, q_z1, y]
    · simp (maxSteps := 4000000) (disch := omega) only [↓reduceIte, l_0, l_1, l_2, l_3, l_4, l_5, l_6, l_7, l_8, l_9, l_10, l_11, l_12, l_13, l_14, l_15, l_16, l_17, l_18, l_19, l_20, l_21, l_22, l_23, l_24, l_25, l_26, l_27, l_30, l_31, l_32, l_40, l_48, l_57, l_59, l_60, l_61, l_62, l_64, l_83, l_90, l_97, l_99, l_100, l_108, l_115, l_122, l_123, l_127, l_128, l_131, l_135, l_200, l_255, l_256, l_300, l_487, l_495, l_900, l_999, l_1000, l_1700, l_1792, l_1980, l_2048, l_2475, l_2970, l_3121, l_9999, l_10000, l_11351, l_65536, l_100000, l_1000000, ↓l_m1, l_neg, nI_add, pk_mul, pk_sub, q_leT, q_leF, q_ltT, q_ltF, q_eqT, q_eqF, q_m1e, q_m1e2, q_m1lt, q_m1le, q_m1nl, q_m1nle, q_m1s, q_ix, q_jat, q_jput, q_min1, q_min2, q_max1, q_max2, q_or0, q_0or, q_bs, if_true, if_false, true_and, and_true, false_and, and_false, not_true_eq_false, not_false_eq_true, eq_self, Bool.false_eq_true, q_z0, q_z1, y]
  intro j
  induction j using Nat.strongRecOn with
  | ind j ih =>
  intro q kd e v m i cs ms G hj hG h hm hi
  have b := tk_bnd h
  have h' := h
  obtain ⟨⟨p, tk⟩, h1, h2, h3, h4, h5, h6⟩ := h'
  have i3 : i ≤ C 0 0 3 := by rw [← hi]; exact fb_ct_le _ _
  have m8 : m < 256 := Nat.lt_of_lt_of_le hm (Nat.pow_le_pow_right (by omega) (show C 0 0 3 ≤ 8 by omega))
  obtain ⟨G, rfl⟩ : ∃ G', G = G' + 1 := ⟨G - 1, by omega⟩
  have lk := s_look (F := F) (s := 3) (off := 108) (names := names) fp ok hn (by omega) hx h (by omega) (by omega) hF
  rw [show 108 + nb 3 = 123 from rfl, show cnt C 3 = C 0 0 3 from rfl] at lk
  by_cases k0 : kd = 0 ∨ kd = 3
  · have nn : ¬ isN B q kd e := fun z => by have := z.1; omega
    obtain ⟨n1, n2⟩ := m_isNameF (F := F) hx h nn hF
    left
    refine ⟨q, kd, e, v, m, cs, ms, iter_r ?_ G, iter_r ?_ G, h, Nat.le_refl _, hm⟩
    · unfold X1_takeRoster_b27 X8_isOpen X8_isOpen_j18
      rcases k0 with rfl | rfl
      · have w0 : (cs.2.2.1 = nI 0) = True := eq_true h2
        simp (maxSteps := 4000000) (disch := omega) only [↓reduceIte, l_0, l_1, l_2, l_3, l_4, l_5, l_6, l_7, l_8, l_9, l_10, l_11, l_12, l_13, l_14, l_15, l_16, l_17, l_18, l_19, l_20, l_21, l_22, l_23, l_24, l_25, l_26, l_27, l_30, l_31, l_32, l_40, l_48, l_57, l_59, l_60, l_61, l_62, l_64, l_83, l_90, l_97, l_99, l_100, l_108, l_115, l_122, l_123, l_127, l_128, l_131, l_135, l_200, l_255, l_256, l_300, l_487, l_495, l_900, l_999, l_1000, l_1700, l_1792, l_1980, l_2048, l_2475, l_2970, l_3121, l_9999, l_10000, l_11351, l_65536, l_100000, l_1000000, ↓l_m1, l_neg, nI_add, pk_mul, pk_sub, q_leT, q_leF, q_ltT, q_ltF, q_eqT, q_eqF, q_m1e, q_m1e2, q_m1lt, q_m1le, q_m1nl, q_m1nle, q_m1s, q_ix, q_jat, q_jput, q_min1, q_min2, q_max1, q_max2, q_or0, q_0or, q_bs, if_true, if_false, true_and, and_true, false_and, and_false, not_true_eq_false, not_false_eq_true, eq_self, Bool.false_eq_true, q_z0, q_z1, w0]
      · have w0 : (cs.2.2.1 = nI 0) = False := eq_false (by rw [h2]; decide)
        have w3 : (cs.2.2.1 = nI 3) = True := eq_true h2
        simp (maxSteps := 4000000) (disch := omega) only [↓reduceIte, l_0, l_1, l_2, l_3, l_4, l_5, l_6, l_7, l_8, l_9, l_10, l_11, l_12, l_13, l_14, l_15, l_16, l_17, l_18, l_19, l_20, l_21, l_22, l_23, l_24, l_25, l_26, l_27, l_30, l_31, l_32, l_40, l_48, l_57, l_59, l_60, l_61, l_62, l_64, l_83, l_90, l_97, l_99, l_100, l_108, l_115, l_122, l_123, l_127, l_128, l_131, l_135, l_200, l_255, l_256, l_300, l_487, l_495, l_900, l_999, l_1000, l_1700, l_1792, l_1980, l_2048, l_2475, l_2970, l_3121, l_9999, l_10000, l_11351, l_65536, l_100000, l_1000000, ↓l_m1, l_neg, nI_add, pk_mul, pk_sub, q_leT, q_leF, q_ltT, q_ltF, q_eqT, q_eqF, q_m1e, q_m1e2, q_m1lt, q_m1le, q_m1nl, q_m1nle, q_m1s, q_ix, q_jat, q_jput, q_min1, q_min2, q_max1, q_max2, q_or0, q_0or, q_bs, if_true, if_false, true_and, and_true, false_and, and_false, not_true_eq_false, not_false_eq_true, eq_self, Bool.false_eq_true, q_z0, q_z1, w0, w3]
    · unfold X12_aRoster_b30
      simp (maxSteps := 4000000) (disch := omega) only [↓reduceIte, l_0, l_1, l_2, l_3, l_4, l_5, l_6, l_7, l_8, l_9, l_10, l_11, l_12, l_13, l_14, l_15, l_16, l_17, l_18, l_19, l_20, l_21, l_22, l_23, l_24, l_25, l_26, l_27, l_30, l_31, l_32, l_40, l_48, l_57, l_59, l_60, l_61, l_62, l_64, l_83, l_90, l_97, l_99, l_100, l_108, l_115, l_122, l_123, l_127, l_128, l_131, l_135, l_200, l_255, l_256, l_300, l_487, l_495, l_900, l_999, l_1000, l_1700, l_1792, l_1980, l_2048, l_2475, l_2970, l_3121, l_9999, l_10000, l_11351, l_65536, l_100000, l_1000000, ↓l_m1, l_neg, nI_add, pk_mul, pk_sub, q_leT, q_leF, q_ltT, q_ltF, q_eqT, q_eqF, q_m1e, q_m1e2, q_m1lt, q_m1le, q_m1nl, q_m1nle, q_m1s, q_ix, q_jat, q_jput, q_min1, q_min2, q_max1, q_max2, q_or0, q_0or, q_bs, if_true, if_false, true_and, and_true, false_and, and_false, not_true_eq_false, not_false_eq_true, eq_self, Bool.false_eq_true, q_z0, q_z1, n1]
  have w0 : (cs.2.2.1 = nI 0) = False := eq_false (by rw [h2]; exact fun z => by have := (nI_eq (by omega) (by omega)).mp z; omega)
  have w3 : (cs.2.2.1 = nI 3) = False := eq_false (by rw [h2]; exact fun z => by have := (nI_eq (by omega) (by omega)).mp z; omega)
  have op : X8_isOpen cs.2.2.1 (nI 0) = some (nI 1) := by
    unfold X8_isOpen
    simp (maxSteps := 4000000) (disch := omega) only [↓reduceIte, l_0, l_1, l_2, l_3, l_4, l_5, l_6, l_7, l_8, l_9, l_10, l_11, l_12, l_13, l_14, l_15, l_16, l_17, l_18, l_19, l_20, l_21, l_22, l_23, l_24, l_25, l_26, l_27, l_30, l_31, l_32, l_40, l_48, l_57, l_59, l_60, l_61, l_62, l_64, l_83, l_90, l_97, l_99, l_100, l_108, l_115, l_122, l_123, l_127, l_128, l_131, l_135, l_200, l_255, l_256, l_300, l_487, l_495, l_900, l_999, l_1000, l_1700, l_1792, l_1980, l_2048, l_2475, l_2970, l_3121, l_9999, l_10000, l_11351, l_65536, l_100000, l_1000000, ↓l_m1, l_neg, nI_add, pk_mul, pk_sub, q_leT, q_leF, q_ltT, q_ltF, q_eqT, q_eqF, q_m1e, q_m1e2, q_m1lt, q_m1le, q_m1nl, q_m1nle, q_m1s, q_ix, q_jat, q_jput, q_min1, q_min2, q_max1, q_max2, q_or0, q_0or, q_bs, if_true, if_false, true_and, and_true, false_and, and_false, not_true_eq_false, not_false_eq_true, eq_self, Bool.false_eq_true, q_z0, q_z1, w0]
  rcases lk with ⟨k, k1, kd1, l1, l2, l3⟩ | ⟨kd1, l1, l2, l3⟩ | ⟨nn, l1, l2⟩
  · by_cases y : m.testBit k = true
    · right
      have bt1 := q_bitT y (by omega) (by omega)
      have ff := q_fail (fp := fp) (k := 5) h1
      have fl := q_fails (fp := mfp) (k := 5) h4 h5 b.2.1 (by omega)
      rw [kd1, show fk 1 5 = 5 from rfl] at fl
      refine ⟨5, q, nI m, cs.1, cs.2.1, cs.2.2.1, cs.2.2.2.1, cs.2.2.2.2, ms, by omega, by omega, ?_, Or.inr (Or.inl ⟨iter_r ?_ G, fl⟩)⟩
      · obtain ⟨G, rfl⟩ : ∃ G', G = G' + 1 := ⟨G - 1, by omega⟩
        refine (iter_l (s' := (nI m, nI (i + 1), cs.1, cs.2.1, cs.2.2.1, cs.2.2.2.1, cs.2.2.2.2, nI 5, nI q)) ?_ (G + 1)).trans (ex _ _ _ _ _ _ _ _ _ _ (by omega) (by omega) (by omega))
        unfold X1_takeRoster_b27 X1_takeRoster_j107 X1_takeRoster_j131
        simp (maxSteps := 4000000) (disch := omega) only [↓reduceIte, l_0, l_1, l_2, l_3, l_4, l_5, l_6, l_7, l_8, l_9, l_10, l_11, l_12, l_13, l_14, l_15, l_16, l_17, l_18, l_19, l_20, l_21, l_22, l_23, l_24, l_25, l_26, l_27, l_30, l_31, l_32, l_40, l_48, l_57, l_59, l_60, l_61, l_62, l_64, l_83, l_90, l_97, l_99, l_100, l_108, l_115, l_122, l_123, l_127, l_128, l_131, l_135, l_200, l_255, l_256, l_300, l_487, l_495, l_900, l_999, l_1000, l_1700, l_1792, l_1980, l_2048, l_2475, l_2970, l_3121, l_9999, l_10000, l_11351, l_65536, l_100000, l_1000000, ↓l_m1, l_neg, nI_add, pk_mul, pk_sub, q_leT, q_leF, q_ltT, q_ltF, q_eqT, q_eqF, q_m1e, q_m1e2, q_m1lt, q_m1le, q_m1nl, q_m1nle, q_m1s, q_ix, q_jat, q_jput, q_min1, q_min2, q_max1, q_max2, q_or0, q_0or, q_bs, if_true, if_false, true_and, and_true, false_and, and_false, not_true_eq_false, not_false_eq_true, eq_self, Bool.false_eq_true, q_z0, q_z1, op, w3, l1, bt1, ff]
      · unfold X12_aRoster_b30
        simp (maxSteps := 4000000) (disch := omega) only [↓reduceIte, l_0, l_1, l_2, l_3, l_4, l_5, l_6, l_7, l_8, l_9, l_10, l_11, l_12, l_13, l_14, l_15, l_16, l_17, l_18, l_19, l_20, l_21, l_22, l_23, l_24, l_25, l_26, l_27, l_30, l_31, l_32, l_40, l_48, l_57, l_59, l_60, l_61, l_62, l_64, l_83, l_90, l_97, l_99, l_100, l_108, l_115, l_122, l_123, l_127, l_128, l_131, l_135, l_200, l_255, l_256, l_300, l_487, l_495, l_900, l_999, l_1000, l_1700, l_1792, l_1980, l_2048, l_2475, l_2970, l_3121, l_9999, l_10000, l_11351, l_65536, l_100000, l_1000000, ↓l_m1, l_neg, nI_add, pk_mul, pk_sub, q_leT, q_leF, q_ltT, q_ltF, q_eqT, q_eqF, q_m1e, q_m1e2, q_m1lt, q_m1le, q_m1nl, q_m1nle, q_m1s, q_ix, q_jat, q_jput, q_min1, q_min2, q_max1, q_max2, q_or0, q_0or, q_bs, if_true, if_false, true_and, and_true, false_and, and_false, not_true_eq_false, not_false_eq_true, eq_self, Bool.false_eq_true, q_z0, q_z1, l_1981, l_1982, l_1983, l_1984, l_1985, l_1986, l_1987, l_2467, l_116, l2, l3, a3, bt1]
    · have y0 : m.testBit k = false := by
        cases z : m.testBit k
        · rfl
        · exact absurd z y
      have bt1 := q_bitF y0 (by omega) (by omega)
      have cs' := ct_set k1 y0
      have ic : i + 1 ≤ C 0 0 3 := by
        have := fb_ct_le (m ||| 2 ^ k).testBit (C 0 0 3)
        omega
      have ml := or_lt hm k1
      obtain ⟨q', kd', e', v', cs1, ms1, g1, g2, t1, l4⟩ := s_adv (F := F) hx h (by omega) hF
      have qe := b.2.2.2.1 (by omega) (by omega)
      have en := (b.2.2.1 (by omega)).1
      have R := ih (j - 1) (by omega) q' kd' e' v' (m ||| 2 ^ k) (i + 1) cs1 ms1 G (by omega) (by omega) t1 ml (by omega)
      have e1 : iter (X1_takeRoster_b27 F (nI n) f (nI N) co so nu (nI (C 0 0 2)) xx (nI (C 0 0 3)) x) (G + 1) (nI m, nI i, cs.1, cs.2.1, cs.2.2.1, cs.2.2.2.1, cs.2.2.2.2, nI 0, fp) = _ := iter_l (s' := (nI (m ||| 2 ^ k), nI (i + 1), cs1.1, cs1.2.1, cs1.2.2.1, cs1.2.2.2.1, cs1.2.2.2.2, nI 0, fp)) (by
        unfold X1_takeRoster_b27 X1_takeRoster_j107 X1_takeRoster_j131
        simp (maxSteps := 4000000) (disch := omega) only [↓reduceIte, l_0, l_1, l_2, l_3, l_4, l_5, l_6, l_7, l_8, l_9, l_10, l_11, l_12, l_13, l_14, l_15, l_16, l_17, l_18, l_19, l_20, l_21, l_22, l_23, l_24, l_25, l_26, l_27, l_30, l_31, l_32, l_40, l_48, l_57, l_59, l_60, l_61, l_62, l_64, l_83, l_90, l_97, l_99, l_100, l_108, l_115, l_122, l_123, l_127, l_128, l_131, l_135, l_200, l_255, l_256, l_300, l_487, l_495, l_900, l_999, l_1000, l_1700, l_1792, l_1980, l_2048, l_2475, l_2970, l_3121, l_9999, l_10000, l_11351, l_65536, l_100000, l_1000000, ↓l_m1, l_neg, nI_add, pk_mul, pk_sub, q_leT, q_leF, q_ltT, q_ltF, q_eqT, q_eqF, q_m1e, q_m1e2, q_m1lt, q_m1le, q_m1nl, q_m1nle, q_m1s, q_ix, q_jat, q_jput, q_min1, q_min2, q_max1, q_max2, q_or0, q_0or, q_bs, if_true, if_false, true_and, and_true, false_and, and_false, not_true_eq_false, not_false_eq_true, eq_self, Bool.false_eq_true, q_z0, q_z1, op, w3, l1, bt1, g1, q_shl1, fa_or]) G
      have e2 : iter (X12_aRoster_b30 F (nI n) mfp (nI 0) at0 names g (nI 2467)) (G + 1) (nI m, ms.1, ms.2.1, ms.2.2.1, ms.2.2.2) = _ := iter_l (s' := (nI (m ||| 2 ^ k), ms1.1, ms1.2.1, ms1.2.2.1, ms1.2.2.2)) (by
        unfold X12_aRoster_b30
        simp (maxSteps := 4000000) (disch := omega) only [↓reduceIte, l_0, l_1, l_2, l_3, l_4, l_5, l_6, l_7, l_8, l_9, l_10, l_11, l_12, l_13, l_14, l_15, l_16, l_17, l_18, l_19, l_20, l_21, l_22, l_23, l_24, l_25, l_26, l_27, l_30, l_31, l_32, l_40, l_48, l_57, l_59, l_60, l_61, l_62, l_64, l_83, l_90, l_97, l_99, l_100, l_108, l_115, l_122, l_123, l_127, l_128, l_131, l_135, l_200, l_255, l_256, l_300, l_487, l_495, l_900, l_999, l_1000, l_1700, l_1792, l_1980, l_2048, l_2475, l_2970, l_3121, l_9999, l_10000, l_11351, l_65536, l_100000, l_1000000, ↓l_m1, l_neg, nI_add, pk_mul, pk_sub, q_leT, q_leF, q_ltT, q_ltF, q_eqT, q_eqF, q_m1e, q_m1e2, q_m1lt, q_m1le, q_m1nl, q_m1nle, q_m1s, q_ix, q_jat, q_jput, q_min1, q_min2, q_max1, q_max2, q_or0, q_0or, q_bs, if_true, if_false, true_and, and_true, false_and, and_false, not_true_eq_false, not_false_eq_true, eq_self, Bool.false_eq_true, q_z0, q_z1, l_1981, l_1982, l_1983, l_1984, l_1985, l_1986, l_1987, l_2467, l_116, l2, l3, a3, bt1, g2, q_shl1, fa_or]) G
      rw [e1, e2]
      rcases R with ⟨q2, kd2, e2, v2, m2, cs2, ms2, r1, r2, r3, r4, r5⟩ | R
      · exact Or.inl ⟨q2, kd2, e2, v2, m2, cs2, ms2, r1, r2, r3, by omega, r5⟩
      · exact Or.inr R
  · right
    have fl := q_fails (fp := mfp) (k := 3) h4 h5 b.2.1 (by omega)
    rw [kd1, show fk 1 3 = 3 from rfl] at fl
    refine ⟨3, q, nI m, cs.1, cs.2.1, cs.2.2.1, cs.2.2.2.1, cs.2.2.2.2, ms, by omega, by omega, ?_, Or.inl ⟨iter_r ?_ G, fl⟩⟩
    · obtain ⟨G, rfl⟩ : ∃ G', G = G' + 1 := ⟨G - 1, by omega⟩
      refine (iter_l (s' := (nI m, nI (i + 1), cs.1, cs.2.1, cs.2.2.1, cs.2.2.2.1, cs.2.2.2.2, nI 3, nI q)) ?_ (G + 1)).trans (ex _ _ _ _ _ _ _ _ _ _ (by omega) (by omega) (by omega))
      unfold X1_takeRoster_b27 X1_takeRoster_j107 X1_takeRoster_j131
      simp (maxSteps := 4000000) (disch := omega) only [↓reduceIte, l_0, l_1, l_2, l_3, l_4, l_5, l_6, l_7, l_8, l_9, l_10, l_11, l_12, l_13, l_14, l_15, l_16, l_17, l_18, l_19, l_20, l_21, l_22, l_23, l_24, l_25, l_26, l_27, l_30, l_31, l_32, l_40, l_48, l_57, l_59, l_60, l_61, l_62, l_64, l_83, l_90, l_97, l_99, l_100, l_108, l_115, l_122, l_123, l_127, l_128, l_131, l_135, l_200, l_255, l_256, l_300, l_487, l_495, l_900, l_999, l_1000, l_1700, l_1792, l_1980, l_2048, l_2475, l_2970, l_3121, l_9999, l_10000, l_11351, l_65536, l_100000, l_1000000, ↓l_m1, l_neg, nI_add, pk_mul, pk_sub, q_leT, q_leF, q_ltT, q_ltF, q_eqT, q_eqF, q_m1e, q_m1e2, q_m1lt, q_m1le, q_m1nl, q_m1nle, q_m1s, q_ix, q_jat, q_jput, q_min1, q_min2, q_max1, q_max2, q_or0, q_0or, q_bs, if_true, if_false, true_and, and_true, false_and, and_false, not_true_eq_false, not_false_eq_true, eq_self, Bool.false_eq_true, q_z0, q_z1, op, w3, l1]
    · unfold X12_aRoster_b30
      simp (maxSteps := 4000000) (disch := omega) only [↓reduceIte, l_0, l_1, l_2, l_3, l_4, l_5, l_6, l_7, l_8, l_9, l_10, l_11, l_12, l_13, l_14, l_15, l_16, l_17, l_18, l_19, l_20, l_21, l_22, l_23, l_24, l_25, l_26, l_27, l_30, l_31, l_32, l_40, l_48, l_57, l_59, l_60, l_61, l_62, l_64, l_83, l_90, l_97, l_99, l_100, l_108, l_115, l_122, l_123, l_127, l_128, l_131, l_135, l_200, l_255, l_256, l_300, l_487, l_495, l_900, l_999, l_1000, l_1700, l_1792, l_1980, l_2048, l_2475, l_2970, l_3121, l_9999, l_10000, l_11351, l_65536, l_100000, l_1000000, ↓l_m1, l_neg, nI_add, pk_mul, pk_sub, q_leT, q_leF, q_ltT, q_ltF, q_eqT, q_eqF, q_m1e, q_m1e2, q_m1lt, q_m1le, q_m1nl, q_m1nle, q_m1s, q_ix, q_jat, q_jput, q_min1, q_min2, q_max1, q_max2, q_or0, q_0or, q_bs, if_true, if_false, true_and, and_true, false_and, and_false, not_true_eq_false, not_false_eq_true, eq_self, Bool.false_eq_true, q_z0, q_z1, l_1981, l_1982, l_1983, l_1984, l_1985, l_1986, l_1987, l_2467, l_116, l2, l3, a3]
  · right
    have f7 := fk_b (kd := kd) (k := 2) (by omega) (by omega)
    have f71 := f7.1
    have f72 := f7.2
    refine ⟨fk kd 2, q, nI m, cs.1, cs.2.1, cs.2.2.1, cs.2.2.2.1, cs.2.2.2.2, ms, f71, f72, ?_, Or.inr (Or.inr ⟨nI m, iter_r ?_ G, q_sign mfp h (by omega)⟩)⟩
    · obtain ⟨G, rfl⟩ : ∃ G', G = G' + 1 := ⟨G - 1, by omega⟩
      refine (iter_l (s' := (nI m, nI (i + 1), cs.1, cs.2.1, cs.2.2.1, cs.2.2.2.1, cs.2.2.2.2, nI (fk kd 2), nI q)) ?_ (G + 1)).trans (ex _ _ _ _ _ _ _ _ _ _ (by omega) f71 f72)
      unfold X1_takeRoster_b27 X1_takeRoster_j107 X1_takeRoster_j131
      simp (maxSteps := 4000000) (disch := omega) only [↓reduceIte, l_0, l_1, l_2, l_3, l_4, l_5, l_6, l_7, l_8, l_9, l_10, l_11, l_12, l_13, l_14, l_15, l_16, l_17, l_18, l_19, l_20, l_21, l_22, l_23, l_24, l_25, l_26, l_27, l_30, l_31, l_32, l_40, l_48, l_57, l_59, l_60, l_61, l_62, l_64, l_83, l_90, l_97, l_99, l_100, l_108, l_115, l_122, l_123, l_127, l_128, l_131, l_135, l_200, l_255, l_256, l_300, l_487, l_495, l_900, l_999, l_1000, l_1700, l_1792, l_1980, l_2048, l_2475, l_2970, l_3121, l_9999, l_10000, l_11351, l_65536, l_100000, l_1000000, ↓l_m1, l_neg, nI_add, pk_mul, pk_sub, q_leT, q_leF, q_ltT, q_ltF, q_eqT, q_eqF, q_m1e, q_m1e2, q_m1lt, q_m1le, q_m1nl, q_m1nle, q_m1s, q_ix, q_jat, q_jput, q_min1, q_min2, q_max1, q_max2, q_or0, q_0or, q_bs, if_true, if_false, true_and, and_true, false_and, and_false, not_true_eq_false, not_false_eq_true, eq_self, Bool.false_eq_true, q_z0, q_z1, op, w3, l1]
    · unfold X12_aRoster_b30
      simp (maxSteps := 4000000) (disch := omega) only [↓reduceIte, l_0, l_1, l_2, l_3, l_4, l_5, l_6, l_7, l_8, l_9, l_10, l_11, l_12, l_13, l_14, l_15, l_16, l_17, l_18, l_19, l_20, l_21, l_22, l_23, l_24, l_25, l_26, l_27, l_30, l_31, l_32, l_40, l_48, l_57, l_59, l_60, l_61, l_62, l_64, l_83, l_90, l_97, l_99, l_100, l_108, l_115, l_122, l_123, l_127, l_128, l_131, l_135, l_200, l_255, l_256, l_300, l_487, l_495, l_900, l_999, l_1000, l_1700, l_1792, l_1980, l_2048, l_2475, l_2970, l_3121, l_9999, l_10000, l_11351, l_65536, l_100000, l_1000000, ↓l_m1, l_neg, nI_add, pk_mul, pk_sub, q_leT, q_leF, q_ltT, q_ltF, q_eqT, q_eqF, q_m1e, q_m1e2, q_m1lt, q_m1le, q_m1nl, q_m1nle, q_m1s, q_ix, q_jat, q_jput, q_min1, q_min2, q_max1, q_max2, q_or0, q_0or, q_bs, if_true, if_false, true_and, and_true, false_and, and_false, not_true_eq_false, not_false_eq_true, eq_self, Bool.false_eq_true, q_z0, q_z1, l_1981, l_1982, l_1983, l_1984, l_1985, l_1986, l_1987, l_2467, l_116, l2]
section PT
variable {F n q kd e v rt mt' N : Nat} {C : Cy} {nm : Nat → Nat → Nat} {xr xt so nu xx xh xw at0 f g : Nat → Int32} {co names : Nat → Int64} {B : Nat → Nat} {cs : cSt} {ms : mTk} {fp mfp : Int32}
theorem p_roster (dr : DR C N nm xr xt co so nu xx xh xw at0 names) (tr : TR rt mt') (hx : TX n B f g) (h : TkR n B q 1 e v cs ms) (hF : 2000 < F) :
    PartR n B q fp mfp xt at0 names (X1_takePart_j22 F (nI rt) (nI n) cs.1 cs.2.1 cs.2.2.1 cs.2.2.2.1 cs.2.2.2.2 (nI 0) fp f (nI (C 0 0 5)) (nI (C 0 0 6)) (nI (C 0 0 7)) (nI (C 0 0 0)) (nI (C 0 0 1)) xr xt (nI N) co so nu (nI (C 0 0 2)) xx (nI (C 0 0 3)) xh (nI (C 0 0 4)) xw (nI 14)) (X12_cityPart_j67 F (nI n) ms.1 ms.2.1 ms.2.2.1 ms.2.2.2 mfp (nI 0) (nI mt') at0 names g (nI 8)) := by
  have dr' := dr
  obtain ⟨ok, c8', dz, eN, rc, ct, cx, ch, cw, hM, zr, hn⟩ := dr
  have o0 := ok.1
  have n9 := hx.1
  have hc := NC_of hM
  have fo : True := trivial
  have a2 : at0 1982 = nI (C 0 0 2) := hc 2 (by omega)
  have b := tk_bnd h
  have cls : ∀ (u : Int32 × Int32 × Int32 × Int32 × Int64 × Int32 × Int32 × (Nat → Int32)), X1_takeRoster F (nI n) cs.1 cs.2.1 cs.2.2.1 cs.2.2.2.1 cs.2.2.2.2 (nI 0) fp f (nI N) co so nu (nI (C 0 0 2)) xx (nI (C 0 0 3)) = some u → X1_takePart_j22 F (nI rt) (nI n) cs.1 cs.2.1 cs.2.2.1 cs.2.2.2.1 cs.2.2.2.2 (nI 0) fp f (nI (C 0 0 5)) (nI (C 0 0 6)) (nI (C 0 0 7)) (nI (C 0 0 0)) (nI (C 0 0 1)) xr xt (nI N) co so nu (nI (C 0 0 2)) xx (nI (C 0 0 3)) xh (nI (C 0 0 4)) xw (nI 14) = some (mkS [nI rt, u.1, u.2.1, u.2.2.1, u.2.2.2.1, u.2.2.2.2.2.1, u.2.2.2.2.2.2.1, nI (C 0 0 5), nI (C 0 0 6), nI (C 0 0 7), nI (C 0 0 0), nI (C 0 0 1), nI N, nI (C 0 0 2), nI (C 0 0 3), nI (C 0 0 4)] [u.2.2.2.2.1] [xr, xt, so, nu, u.2.2.2.2.2.2.2, xh, xw] [co]) := fun u hu => by
    have l14 : (14 : Int32) = nI 14 := rfl
    unfold X1_takePart_j22
    simp (maxSteps := 4000000) (disch := omega) only [↓reduceIte, l_0, l_1, l_2, l_3, l_4, l_5, l_6, l_7, l_8, l_9, l_10, l_11, l_12, l_13, l_14, l_15, l_16, l_17, l_18, l_19, l_20, l_21, l_22, l_23, l_24, l_25, l_26, l_27, l_30, l_31, l_32, l_40, l_48, l_57, l_59, l_60, l_61, l_62, l_64, l_83, l_90, l_97, l_99, l_100, l_108, l_115, l_122, l_123, l_127, l_128, l_131, l_135, l_200, l_255, l_256, l_300, l_487, l_495, l_900, l_999, l_1000, l_1700, l_1792, l_1980, l_2048, l_2475, l_2970, l_3121, l_9999, l_10000, l_11351, l_65536, l_100000, l_1000000, ↓l_m1, l_neg, nI_add, pk_mul, pk_sub, q_leT, q_leF, q_ltT, q_ltF, q_eqT, q_eqF, q_m1e, q_m1e2, q_m1lt, q_m1le, q_m1nl, q_m1nle, q_m1s, q_ix, q_jat, q_jput, q_min1, q_min2, q_max1, q_max2, q_or0, q_0or, q_bs, if_true, if_false, true_and, and_true, false_and, and_false, not_true_eq_false, not_false_eq_true, eq_self, Bool.false_eq_true, q_z0, q_z1, l14, hu]
  have mdl : ∀ (u : Int32 × Int32 × Int32 × Int32 × Int32 × Int32 × Int32 × (Nat → Int32)), X12_aRoster F (nI n) ms.1 ms.2.1 ms.2.2.1 ms.2.2.2 mfp (nI 0) at0 names g = some u → X12_cityPart_j67 F (nI n) ms.1 ms.2.1 ms.2.2.1 ms.2.2.2 mfp (nI 0) (nI mt') at0 names g (nI 8) = X12_cityPart_j203 F (nI n) u.2.1 u.2.2.1 u.2.2.2.1 u.2.2.2.2.1 u.2.2.2.2.2.1 u.2.2.2.2.2.2.1 (nI mt') u.2.2.2.2.2.2.2 names g u.1 := fun u hu => by
    unfold X12_cityPart_j67
    simp (maxSteps := 4000000) (disch := omega) only [↓reduceIte, l_0, l_1, l_2, l_3, l_4, l_5, l_6, l_7, l_8, l_9, l_10, l_11, l_12, l_13, l_14, l_15, l_16, l_17, l_18, l_19, l_20, l_21, l_22, l_23, l_24, l_25, l_26, l_27, l_30, l_31, l_32, l_40, l_48, l_57, l_59, l_60, l_61, l_62, l_64, l_83, l_90, l_97, l_99, l_100, l_108, l_115, l_122, l_123, l_127, l_128, l_131, l_135, l_200, l_255, l_256, l_300, l_487, l_495, l_900, l_999, l_1000, l_1700, l_1792, l_1980, l_2048, l_2475, l_2970, l_3121, l_9999, l_10000, l_11351, l_65536, l_100000, l_1000000, ↓l_m1, l_neg, nI_add, pk_mul, pk_sub, q_leT, q_leF, q_ltT, q_ltF, q_eqT, q_eqF, q_m1e, q_m1e2, q_m1lt, q_m1le, q_m1nl, q_m1nle, q_m1s, q_ix, q_jat, q_jput, q_min1, q_min2, q_max1, q_max2, q_or0, q_0or, q_bs, if_true, if_false, true_and, and_true, false_and, and_false, not_true_eq_false, not_false_eq_true, eq_self, Bool.false_eq_true, q_z0, q_z1, hu]
  have j0 : ∀ (a b c d x y : Int32) (t : Nat → Int32), X12_cityPart_j203 F (nI n) a b c d x y (nI mt') t names g (nI 0) = some (nI 0, a, b, c, d, x, y, nI mt', t, names) := fun a b c d x y t => by
    unfold X12_cityPart_j203 X12_cityPart_j220
    simp (maxSteps := 4000000) (disch := omega) only [↓reduceIte, l_0, l_1, l_2, l_3, l_4, l_5, l_6, l_7, l_8, l_9, l_10, l_11, l_12, l_13, l_14, l_15, l_16, l_17, l_18, l_19, l_20, l_21, l_22, l_23, l_24, l_25, l_26, l_27, l_30, l_31, l_32, l_40, l_48, l_57, l_59, l_60, l_61, l_62, l_64, l_83, l_90, l_97, l_99, l_100, l_108, l_115, l_122, l_123, l_127, l_128, l_131, l_135, l_200, l_255, l_256, l_300, l_487, l_495, l_900, l_999, l_1000, l_1700, l_1792, l_1980, l_2048, l_2475, l_2970, l_3121, l_9999, l_10000, l_11351, l_65536, l_100000, l_1000000, ↓l_m1, l_neg, nI_add, pk_mul, pk_sub, q_leT, q_leF, q_ltT, q_ltF, q_eqT, q_eqF, q_m1e, q_m1e2, q_m1lt, q_m1le, q_m1nl, q_m1nle, q_m1s, q_ix, q_jat, q_jput, q_min1, q_min2, q_max1, q_max2, q_or0, q_0or, q_bs, if_true, if_false, true_and, and_true, false_and, and_false, not_true_eq_false, not_false_eq_true, eq_self, Bool.false_eq_true, q_z0, q_z1]
  obtain ⟨q1, kd1, e1, v1, cs1, ms1, b1, b2, t1, l1⟩ := s_adv (F := F) hx h (by omega) hF
  have qe := b.2.2.2.1 (by omega) (by omega)
  have so' := s_old (F := F) (s := 2) (off := 108) (to := 2467) (at0 := at0) (names := names) fp mfp ok hn (by omega) hx t1 (by omega) (by omega) (by omega) (by omega) hF
  rw [show 108 + nb 2 = 116 from rfl, show cnt C 2 = C 0 0 2 from rfl] at so'
  rcases so' with ⟨x, q2, kd2, e2, v2, cs2, ms2, xl, g1, g2, t2, l2⟩ | ⟨k, at1, k1, k7, g1, g2, fo⟩
  case inr =>
    have lp : iter (X1_takeRoster_b27 F (nI n) f (nI N) co so nu (nI (C 0 0 2)) xx (nI (C 0 0 3)) (nI 0)) F (nI 0, nI 0, cs1.1, cs1.2.1, cs1.2.2.1, cs1.2.2.2.1, cs1.2.2.2.2, nI k, nI q1) = some (nI 0, cs1.1, cs1.2.1, cs1.2.2.1, cs1.2.2.2.1, cs1.2.2.2.2, nI k, nI q1) := by
      obtain ⟨G, rfl⟩ : ∃ G, F = G + 1 := ⟨F - 1, by omega⟩
      refine iter_r ?_ G
      unfold X1_takeRoster_b27 X8_isOpen X8_isOpen_j18
      simp (maxSteps := 4000000) (disch := omega) only [↓reduceIte, l_0, l_1, l_2, l_3, l_4, l_5, l_6, l_7, l_8, l_9, l_10, l_11, l_12, l_13, l_14, l_15, l_16, l_17, l_18, l_19, l_20, l_21, l_22, l_23, l_24, l_25, l_26, l_27, l_30, l_31, l_32, l_40, l_48, l_57, l_59, l_60, l_61, l_62, l_64, l_83, l_90, l_97, l_99, l_100, l_108, l_115, l_122, l_123, l_127, l_128, l_131, l_135, l_200, l_255, l_256, l_300, l_487, l_495, l_900, l_999, l_1000, l_1700, l_1792, l_1980, l_2048, l_2475, l_2970, l_3121, l_9999, l_10000, l_11351, l_65536, l_100000, l_1000000, ↓l_m1, l_neg, nI_add, pk_mul, pk_sub, q_leT, q_leF, q_ltT, q_ltF, q_eqT, q_eqF, q_m1e, q_m1e2, q_m1lt, q_m1le, q_m1nl, q_m1nle, q_m1s, q_ix, q_jat, q_jput, q_min1, q_min2, q_max1, q_max2, q_or0, q_0or, q_bs, if_true, if_false, true_and, and_true, false_and, and_false, not_true_eq_false, not_false_eq_true, eq_self, Bool.false_eq_true, q_z0, q_z1]
    refine Or.inr ⟨k, q1, _, _, k1, k7, cls _ (by unfold X1_takeRoster X1_takeRoster_j137; simp (maxSteps := 4000000) (disch := omega) only [↓reduceIte, l_0, l_1, l_2, l_3, l_4, l_5, l_6, l_7, l_8, l_9, l_10, l_11, l_12, l_13, l_14, l_15, l_16, l_17, l_18, l_19, l_20, l_21, l_22, l_23, l_24, l_25, l_26, l_27, l_30, l_31, l_32, l_40, l_48, l_57, l_59, l_60, l_61, l_62, l_64, l_83, l_90, l_97, l_99, l_100, l_108, l_115, l_122, l_123, l_127, l_128, l_131, l_135, l_200, l_255, l_256, l_300, l_487, l_495, l_900, l_999, l_1000, l_1700, l_1792, l_1980, l_2048, l_2475, l_2970, l_3121, l_9999, l_10000, l_11351, l_65536, l_100000, l_1000000, ↓l_m1, l_neg, nI_add, pk_mul, pk_sub, q_leT, q_leF, q_ltT, q_ltF, q_eqT, q_eqF, q_m1e, q_m1e2, q_m1lt, q_m1le, q_m1nl, q_m1nle, q_m1s, q_ix, q_jat, q_jput, q_min1, q_min2, q_max1, q_max2, q_or0, q_0or, q_bs, if_true, if_false, true_and, and_true, false_and, and_false, not_true_eq_false, not_false_eq_true, eq_self, Bool.false_eq_true, q_z0, q_z1, l_1981, l_1982, l_1983, l_1984, l_1985, l_1986, l_1987, l_2467, l_116, b1, g1, lp, f_word, f_end, f_num, f_new, f_look, f_name, f_cmp]; rfl), ?_, ?_, ?_, (mdl _ (by unfold X12_aRoster; simp (maxSteps := 4000000) (disch := omega) only [↓reduceIte, l_0, l_1, l_2, l_3, l_4, l_5, l_6, l_7, l_8, l_9, l_10, l_11, l_12, l_13, l_14, l_15, l_16, l_17, l_18, l_19, l_20, l_21, l_22, l_23, l_24, l_25, l_26, l_27, l_30, l_31, l_32, l_40, l_48, l_57, l_59, l_60, l_61, l_62, l_64, l_83, l_90, l_97, l_99, l_100, l_108, l_115, l_122, l_123, l_127, l_128, l_131, l_135, l_200, l_255, l_256, l_300, l_487, l_495, l_900, l_999, l_1000, l_1700, l_1792, l_1980, l_2048, l_2475, l_2970, l_3121, l_9999, l_10000, l_11351, l_65536, l_100000, l_1000000, ↓l_m1, l_neg, nI_add, pk_mul, pk_sub, q_leT, q_leF, q_ltT, q_ltF, q_eqT, q_eqF, q_m1e, q_m1e2, q_m1lt, q_m1le, q_m1nl, q_m1nle, q_m1s, q_ix, q_jat, q_jput, q_min1, q_min2, q_max1, q_max2, q_or0, q_0or, q_bs, if_true, if_false, true_and, and_true, false_and, and_false, not_true_eq_false, not_false_eq_true, eq_self, Bool.false_eq_true, q_z0, q_z1, l_1981, l_1982, l_1983, l_1984, l_1985, l_1986, l_1987, l_2467, l_116, a2, b2, g2]; rfl)).trans (j0 _ _ _ _ _ _ _), ?_, ?_, ?_, ?_, ?_⟩
    all_goals first | rfl | exact fun j hj => rfl | exact fun j hj => pk_un (by omega) | exact fun j hj => pk_uLn (by omega) | exact fo | (intro j hj; simp (disch := omega) only [pk_un, fo]) | (intro j hj; dsimp only; simp (disch := omega) only [pk_un, fo])
  have z0 : fb_ct (0 : Nat).testBit (C 0 0 3) = 0 := fb_ct_zero.mpr (fun k _ => Nat.zero_testBit k)
  have a3 : upd at0 2467 (nI x) 1983 = nI (C 0 0 3) := by rw [pk_un (by omega)]; exact hc 3 (by omega)
  have ec : iter (X1_takeRoster_b27 F (nI n) f (nI N) co so nu (nI (C 0 0 2)) xx (nI (C 0 0 3)) (nI x)) F (nI 0, nI 0, cs2.1, cs2.2.1, cs2.2.2.1, cs2.2.2.2.1, cs2.2.2.2.2, nI 0, fp) = iter (X1_takeRoster_b27 F (nI n) f (nI N) co so nu (nI (C 0 0 2)) xx (nI (C 0 0 3)) (nI x)) F (nI 0, nI 0, cs2.1, cs2.2.1, cs2.2.2.1, cs2.2.2.2.1, cs2.2.2.2.2, nI 0, fp) := rfl
  rcases ro_loop (F := F) (at0 := upd at0 2467 (nI x)) (names := names) (xx := xx) (nI x) fp mfp ok hn a3 hx hF n q2 kd2 e2 v2 0 0 cs2 ms2 F (by omega) (by omega) t2 (Nat.two_pow_pos _) z0 with ⟨q3, kd3, e3, v3, m, cs3, ms3, r1, r2, t3, l3, m8⟩ | ⟨k, p, m', c1, c2, c3, c4, c5, t, k1, k7, r1, r2⟩
  case inr =>
    have cl : X1_takeRoster F (nI n) cs.1 cs.2.1 cs.2.2.1 cs.2.2.2.1 cs.2.2.2.2 (nI 0) fp f (nI N) co so nu (nI (C 0 0 2)) xx (nI (C 0 0 3)) = some (c1, c2, c3, c4, c5, nI k, nI p, xx) := by
      unfold X1_takeRoster X1_takeRoster_j137
      simp (maxSteps := 4000000) (disch := omega) only [↓reduceIte, l_0, l_1, l_2, l_3, l_4, l_5, l_6, l_7, l_8, l_9, l_10, l_11, l_12, l_13, l_14, l_15, l_16, l_17, l_18, l_19, l_20, l_21, l_22, l_23, l_24, l_25, l_26, l_27, l_30, l_31, l_32, l_40, l_48, l_57, l_59, l_60, l_61, l_62, l_64, l_83, l_90, l_97, l_99, l_100, l_108, l_115, l_122, l_123, l_127, l_128, l_131, l_135, l_200, l_255, l_256, l_300, l_487, l_495, l_900, l_999, l_1000, l_1700, l_1792, l_1980, l_2048, l_2475, l_2970, l_3121, l_9999, l_10000, l_11351, l_65536, l_100000, l_1000000, ↓l_m1, l_neg, nI_add, pk_mul, pk_sub, q_leT, q_leF, q_ltT, q_ltF, q_eqT, q_eqF, q_m1e, q_m1e2, q_m1lt, q_m1le, q_m1nl, q_m1nle, q_m1s, q_ix, q_jat, q_jput, q_min1, q_min2, q_max1, q_max2, q_or0, q_0or, q_bs, if_true, if_false, true_and, and_true, false_and, and_false, not_true_eq_false, not_false_eq_true, eq_self, Bool.false_eq_true, q_z0, q_z1, l_1981, l_1982, l_1983, l_1984, l_1985, l_1986, l_1987, l_2467, l_116, b1, g1, r1, f_word, f_end, f_num, f_new, f_look, f_name, f_cmp]
    rcases r2 with ⟨r2, r3⟩ | ⟨r2, r3⟩ | ⟨m2, r2, r3⟩
    · refine Or.inr ⟨k, p, _, _, k1, k7, cls _ cl, ?_, ?_, ?_, (mdl _ (by unfold X12_aRoster; simp (maxSteps := 4000000) (disch := omega) only [↓reduceIte, l_0, l_1, l_2, l_3, l_4, l_5, l_6, l_7, l_8, l_9, l_10, l_11, l_12, l_13, l_14, l_15, l_16, l_17, l_18, l_19, l_20, l_21, l_22, l_23, l_24, l_25, l_26, l_27, l_30, l_31, l_32, l_40, l_48, l_57, l_59, l_60, l_61, l_62, l_64, l_83, l_90, l_97, l_99, l_100, l_108, l_115, l_122, l_123, l_127, l_128, l_131, l_135, l_200, l_255, l_256, l_300, l_487, l_495, l_900, l_999, l_1000, l_1700, l_1792, l_1980, l_2048, l_2475, l_2970, l_3121, l_9999, l_10000, l_11351, l_65536, l_100000, l_1000000, ↓l_m1, l_neg, nI_add, pk_mul, pk_sub, q_leT, q_leF, q_ltT, q_ltF, q_eqT, q_eqF, q_m1e, q_m1e2, q_m1lt, q_m1le, q_m1nl, q_m1nle, q_m1s, q_ix, q_jat, q_jput, q_min1, q_min2, q_max1, q_max2, q_or0, q_0or, q_bs, if_true, if_false, true_and, and_true, false_and, and_false, not_true_eq_false, not_false_eq_true, eq_self, Bool.false_eq_true, q_z0, q_z1, l_1981, l_1982, l_1983, l_1984, l_1985, l_1986, l_1987, l_2467, l_116, a2, b2, g2, r2, Sum.elim_inl, Sum.elim_inr, r3]; rfl)).trans (j0 _ _ _ _ _ _ _), ?_, ?_, ?_, ?_, ?_⟩
      all_goals first | rfl | exact fun j hj => rfl | exact fun j hj => pk_un (by omega) | exact fun j hj => pk_uLn (by omega) | exact fo | (intro j hj; simp (disch := omega) only [pk_un, fo]) | (intro j hj; dsimp only; simp (disch := omega) only [pk_un, fo])
    · refine Or.inr ⟨k, p, _, _, k1, k7, cls _ cl, ?_, ?_, ?_, (mdl _ (by unfold X12_aRoster; simp (maxSteps := 4000000) (disch := omega) only [↓reduceIte, l_0, l_1, l_2, l_3, l_4, l_5, l_6, l_7, l_8, l_9, l_10, l_11, l_12, l_13, l_14, l_15, l_16, l_17, l_18, l_19, l_20, l_21, l_22, l_23, l_24, l_25, l_26, l_27, l_30, l_31, l_32, l_40, l_48, l_57, l_59, l_60, l_61, l_62, l_64, l_83, l_90, l_97, l_99, l_100, l_108, l_115, l_122, l_123, l_127, l_128, l_131, l_135, l_200, l_255, l_256, l_300, l_487, l_495, l_900, l_999, l_1000, l_1700, l_1792, l_1980, l_2048, l_2475, l_2970, l_3121, l_9999, l_10000, l_11351, l_65536, l_100000, l_1000000, ↓l_m1, l_neg, nI_add, pk_mul, pk_sub, q_leT, q_leF, q_ltT, q_ltF, q_eqT, q_eqF, q_m1e, q_m1e2, q_m1lt, q_m1le, q_m1nl, q_m1nle, q_m1s, q_ix, q_jat, q_jput, q_min1, q_min2, q_max1, q_max2, q_or0, q_0or, q_bs, if_true, if_false, true_and, and_true, false_and, and_false, not_true_eq_false, not_false_eq_true, eq_self, Bool.false_eq_true, q_z0, q_z1, l_1981, l_1982, l_1983, l_1984, l_1985, l_1986, l_1987, l_2467, l_116, a2, b2, g2, r2, Sum.elim_inl, Sum.elim_inr, r3]; rfl)).trans (j0 _ _ _ _ _ _ _), ?_, ?_, ?_, ?_, ?_⟩
      all_goals first | rfl | exact fun j hj => rfl | exact fun j hj => pk_un (by omega) | exact fun j hj => pk_uLn (by omega) | exact fo | (intro j hj; simp (disch := omega) only [pk_un, fo]) | (intro j hj; dsimp only; simp (disch := omega) only [pk_un, fo])
    · refine Or.inr ⟨k, p, _, _, k1, k7, cls _ cl, ?_, ?_, ?_, by rw [mdl _ (by unfold X12_aRoster X12_extraRow; simp (maxSteps := 4000000) (disch := omega) only [↓reduceIte, l_0, l_1, l_2, l_3, l_4, l_5, l_6, l_7, l_8, l_9, l_10, l_11, l_12, l_13, l_14, l_15, l_16, l_17, l_18, l_19, l_20, l_21, l_22, l_23, l_24, l_25, l_26, l_27, l_30, l_31, l_32, l_40, l_48, l_57, l_59, l_60, l_61, l_62, l_64, l_83, l_90, l_97, l_99, l_100, l_108, l_115, l_122, l_123, l_127, l_128, l_131, l_135, l_200, l_255, l_256, l_300, l_487, l_495, l_900, l_999, l_1000, l_1700, l_1792, l_1980, l_2048, l_2475, l_2970, l_3121, l_9999, l_10000, l_11351, l_65536, l_100000, l_1000000, ↓l_m1, l_neg, nI_add, pk_mul, pk_sub, q_leT, q_leF, q_ltT, q_ltF, q_eqT, q_eqF, q_m1e, q_m1e2, q_m1lt, q_m1le, q_m1nl, q_m1nle, q_m1s, q_ix, q_jat, q_jput, q_min1, q_min2, q_max1, q_max2, q_or0, q_0or, q_bs, if_true, if_false, true_and, and_true, false_and, and_false, not_true_eq_false, not_false_eq_true, eq_self, Bool.false_eq_true, q_z0, q_z1, l_1981, l_1982, l_1983, l_1984, l_1985, l_1986, l_1987, l_2467, l_116, a2, b2, g2, r2, Sum.elim_inl, Sum.elim_inr, pk_us]; rfl)]; unfold X12_cityPart_j203 X12_cityPart_j220; simp (maxSteps := 4000000) (disch := omega) only [↓reduceIte, l_0, l_1, l_2, l_3, l_4, l_5, l_6, l_7, l_8, l_9, l_10, l_11, l_12, l_13, l_14, l_15, l_16, l_17, l_18, l_19, l_20, l_21, l_22, l_23, l_24, l_25, l_26, l_27, l_30, l_31, l_32, l_40, l_48, l_57, l_59, l_60, l_61, l_62, l_64, l_83, l_90, l_97, l_99, l_100, l_108, l_115, l_122, l_123, l_127, l_128, l_131, l_135, l_200, l_255, l_256, l_300, l_487, l_495, l_900, l_999, l_1000, l_1700, l_1792, l_1980, l_2048, l_2475, l_2970, l_3121, l_9999, l_10000, l_11351, l_65536, l_100000, l_1000000, ↓l_m1, l_neg, nI_add, pk_mul, pk_sub, q_leT, q_leF, q_ltT, q_ltF, q_eqT, q_eqF, q_m1e, q_m1e2, q_m1lt, q_m1le, q_m1nl, q_m1nle, q_m1s, q_ix, q_jat, q_jput, q_min1, q_min2, q_max1, q_max2, q_or0, q_0or, q_bs, if_true, if_false, true_and, and_true, false_and, and_false, not_true_eq_false, not_false_eq_true, eq_self, Bool.false_eq_true, q_z0, q_z1, l_1981, l_1982, l_1983, l_1984, l_1985, l_1986, l_1987, l_2467, l_116, r3]; rfl, ?_, ?_, ?_, ?_, ?_⟩
      all_goals first | rfl | exact fun j hj => rfl | exact fun j hj => pk_un (by omega) | exact fun j hj => pk_uLn (by omega) | exact fo | (intro j hj; simp (disch := omega) only [pk_un, fo]) | (intro j hj; dsimp only; simp (disch := omega) only [pk_un, fo])
  have m9 : m < 256 := Nat.lt_of_lt_of_le m8 (Nat.pow_le_pow_right (by omega) (show C 0 0 3 ≤ 8 by omega))
  have xl : x < C 0 0 2 := xl
  have md : X12_aRoster F (nI n) ms.1 ms.2.1 ms.2.2.1 ms.2.2.2 mfp (nI 0) at0 names g = some (nI 1, ms3.1, ms3.2.1, ms3.2.2.1, ms3.2.2.2, mfp, nI 0, upd (upd at0 2467 (nI x)) (1980 + (48 + 5 * x) + 2) (nI m)) := by
    unfold X12_aRoster X12_extraRow
    simp (maxSteps := 4000000) (disch := omega) only [↓reduceIte, l_0, l_1, l_2, l_3, l_4, l_5, l_6, l_7, l_8, l_9, l_10, l_11, l_12, l_13, l_14, l_15, l_16, l_17, l_18, l_19, l_20, l_21, l_22, l_23, l_24, l_25, l_26, l_27, l_30, l_31, l_32, l_40, l_48, l_57, l_59, l_60, l_61, l_62, l_64, l_83, l_90, l_97, l_99, l_100, l_108, l_115, l_122, l_123, l_127, l_128, l_131, l_135, l_200, l_255, l_256, l_300, l_487, l_495, l_900, l_999, l_1000, l_1700, l_1792, l_1980, l_2048, l_2475, l_2970, l_3121, l_9999, l_10000, l_11351, l_65536, l_100000, l_1000000, ↓l_m1, l_neg, nI_add, pk_mul, pk_sub, q_leT, q_leF, q_ltT, q_ltF, q_eqT, q_eqF, q_m1e, q_m1e2, q_m1lt, q_m1le, q_m1nl, q_m1nle, q_m1s, q_ix, q_jat, q_jput, q_min1, q_min2, q_max1, q_max2, q_or0, q_0or, q_bs, if_true, if_false, true_and, and_true, false_and, and_false, not_true_eq_false, not_false_eq_true, eq_self, Bool.false_eq_true, q_z0, q_z1, l_1981, l_1982, l_1983, l_1984, l_1985, l_1986, l_1987, l_2467, l_116, a2, b2, g2, r2, Sum.elim_inl, Sum.elim_inr, pk_us]
  rcases s_end (F := F) fp mfp hx t3 hF with ⟨q4, kd4, e4, v4, cs4, ms4, z1, z2, t4, l4⟩ | ⟨k, k1, k7, z1, z2⟩
  case inr =>
    refine Or.inr ⟨k, q3, _, _, k1, k7, cls _ (by unfold X1_takeRoster X1_takeRoster_j137; simp (maxSteps := 4000000) (disch := omega) only [↓reduceIte, l_0, l_1, l_2, l_3, l_4, l_5, l_6, l_7, l_8, l_9, l_10, l_11, l_12, l_13, l_14, l_15, l_16, l_17, l_18, l_19, l_20, l_21, l_22, l_23, l_24, l_25, l_26, l_27, l_30, l_31, l_32, l_40, l_48, l_57, l_59, l_60, l_61, l_62, l_64, l_83, l_90, l_97, l_99, l_100, l_108, l_115, l_122, l_123, l_127, l_128, l_131, l_135, l_200, l_255, l_256, l_300, l_487, l_495, l_900, l_999, l_1000, l_1700, l_1792, l_1980, l_2048, l_2475, l_2970, l_3121, l_9999, l_10000, l_11351, l_65536, l_100000, l_1000000, ↓l_m1, l_neg, nI_add, pk_mul, pk_sub, q_leT, q_leF, q_ltT, q_ltF, q_eqT, q_eqF, q_m1e, q_m1e2, q_m1lt, q_m1le, q_m1nl, q_m1nle, q_m1s, q_ix, q_jat, q_jput, q_min1, q_min2, q_max1, q_max2, q_or0, q_0or, q_bs, if_true, if_false, true_and, and_true, false_and, and_false, not_true_eq_false, not_false_eq_true, eq_self, Bool.false_eq_true, q_z0, q_z1, l_1981, l_1982, l_1983, l_1984, l_1985, l_1986, l_1987, l_2467, l_116, b1, g1, r1, z1]; rfl), ?_, ?_, ?_, by rw [mdl _ md]; unfold X12_cityPart_j203 X12_cityPart_j220; simp (maxSteps := 4000000) (disch := omega) only [↓reduceIte, l_0, l_1, l_2, l_3, l_4, l_5, l_6, l_7, l_8, l_9, l_10, l_11, l_12, l_13, l_14, l_15, l_16, l_17, l_18, l_19, l_20, l_21, l_22, l_23, l_24, l_25, l_26, l_27, l_30, l_31, l_32, l_40, l_48, l_57, l_59, l_60, l_61, l_62, l_64, l_83, l_90, l_97, l_99, l_100, l_108, l_115, l_122, l_123, l_127, l_128, l_131, l_135, l_200, l_255, l_256, l_300, l_487, l_495, l_900, l_999, l_1000, l_1700, l_1792, l_1980, l_2048, l_2475, l_2970, l_3121, l_9999, l_10000, l_11351, l_65536, l_100000, l_1000000, ↓l_m1, l_neg, nI_add, pk_mul, pk_sub, q_leT, q_leF, q_ltT, q_ltF, q_eqT, q_eqF, q_m1e, q_m1e2, q_m1lt, q_m1le, q_m1nl, q_m1nle, q_m1s, q_ix, q_jat, q_jput, q_min1, q_min2, q_max1, q_max2, q_or0, q_0or, q_bs, if_true, if_false, true_and, and_true, false_and, and_false, not_true_eq_false, not_false_eq_true, eq_self, Bool.false_eq_true, q_z0, q_z1, l_1981, l_1982, l_1983, l_1984, l_1985, l_1986, l_1987, l_2467, l_116, z2]; rfl, ?_, ?_, ?_, ?_, ?_⟩
    all_goals first | rfl | exact fun j hj => rfl | exact fun j hj => pk_un (by omega) | exact fun j hj => pk_uLn (by omega) | exact fo | (intro j hj; simp (disch := omega) only [pk_un, fo]) | (intro j hj; dsimp only; simp (disch := omega) only [pk_un, fo])
  have qs := q_set (n := 35) (w := 5) (m := C 0 0 2) (r := x) (c := 2) (f := xx) (nI m) xl (by omega) (by omega) (by omega)
  have D := DR_roster (m := m) (at1 := upd (upd at0 2467 (nI x)) (1980 + (48 + 5 * x) + 2) (nI m)) dr' xl m9 (by rw [show 1980 + (48 + 5 * x + 2) = 1980 + (48 + 5 * x) + 2 by omega]; exact pk_us) (fun j h1 h2 => by rw [pk_un (by omega), pk_un (by omega)])
  refine Or.inl ⟨q4, kd4, e4, v4, N, rt, mt', cs4, ms4, _, nm, xr, xt, so, nu, _, xh, xw, _, co, names, (cls _ (by unfold X1_takeRoster X1_takeRoster_j137; simp (maxSteps := 4000000) (disch := omega) only [↓reduceIte, l_0, l_1, l_2, l_3, l_4, l_5, l_6, l_7, l_8, l_9, l_10, l_11, l_12, l_13, l_14, l_15, l_16, l_17, l_18, l_19, l_20, l_21, l_22, l_23, l_24, l_25, l_26, l_27, l_30, l_31, l_32, l_40, l_48, l_57, l_59, l_60, l_61, l_62, l_64, l_83, l_90, l_97, l_99, l_100, l_108, l_115, l_122, l_123, l_127, l_128, l_131, l_135, l_200, l_255, l_256, l_300, l_487, l_495, l_900, l_999, l_1000, l_1700, l_1792, l_1980, l_2048, l_2475, l_2970, l_3121, l_9999, l_10000, l_11351, l_65536, l_100000, l_1000000, ↓l_m1, l_neg, nI_add, pk_mul, pk_sub, q_leT, q_leF, q_ltT, q_ltF, q_eqT, q_eqF, q_m1e, q_m1e2, q_m1lt, q_m1le, q_m1nl, q_m1nle, q_m1s, q_ix, q_jat, q_jput, q_min1, q_min2, q_max1, q_max2, q_or0, q_0or, q_bs, if_true, if_false, true_and, and_true, false_and, and_false, not_true_eq_false, not_false_eq_true, eq_self, Bool.false_eq_true, q_z0, q_z1, l_1981, l_1982, l_1983, l_1984, l_1985, l_1986, l_1987, l_2467, l_116, b1, g1, r1, z1, qs]; rfl)).trans ?_, by rw [mdl _ md]; unfold X12_cityPart_j203; simp (maxSteps := 4000000) (disch := omega) only [↓reduceIte, l_0, l_1, l_2, l_3, l_4, l_5, l_6, l_7, l_8, l_9, l_10, l_11, l_12, l_13, l_14, l_15, l_16, l_17, l_18, l_19, l_20, l_21, l_22, l_23, l_24, l_25, l_26, l_27, l_30, l_31, l_32, l_40, l_48, l_57, l_59, l_60, l_61, l_62, l_64, l_83, l_90, l_97, l_99, l_100, l_108, l_115, l_122, l_123, l_127, l_128, l_131, l_135, l_200, l_255, l_256, l_300, l_487, l_495, l_900, l_999, l_1000, l_1700, l_1792, l_1980, l_2048, l_2475, l_2970, l_3121, l_9999, l_10000, l_11351, l_65536, l_100000, l_1000000, ↓l_m1, l_neg, nI_add, pk_mul, pk_sub, q_leT, q_leF, q_ltT, q_ltF, q_eqT, q_eqF, q_m1e, q_m1e2, q_m1lt, q_m1le, q_m1nl, q_m1nle, q_m1s, q_ix, q_jat, q_jput, q_min1, q_min2, q_max1, q_max2, q_or0, q_0or, q_bs, if_true, if_false, true_and, and_true, false_and, and_false, not_true_eq_false, not_false_eq_true, eq_self, Bool.false_eq_true, q_z0, q_z1, l_1981, l_1982, l_1983, l_1984, l_1985, l_1986, l_1987, l_2467, l_116, z2], t4, by omega, tr, D, fun j hj => by simp (disch := omega) only [pk_un], fun j hj => rfl⟩
  rw [stR_t C (c := 0) (by omega), stR_t C (c := 1) (by omega), stR_t C (c := 2) (by omega), stR_t C (c := 3) (by omega), stR_t C (c := 4) (by omega), stR_t C (c := 5) (by omega), stR_t C (c := 6) (by omega), stR_t C (c := 7) (by omega)]
end PT
