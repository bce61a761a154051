/-! ===== PURE 20.m: ROSTER ===== -/
def stR (C : Cy) (x m : Nat) : Cy := fun t r c => if t = 2 ∧ r = x ∧ c = 2 then m else C t r c
theorem stR_t (C : Cy) {x m t r c : Nat} (h : t ≠ 2) : stR C x m t r c = C t r c := if_neg (fun q => h q.1)
theorem stR_c (C : Cy) {x m r c : Nat} (h : c ≠ 2) : stR C x m 2 r c = C 2 r c := if_neg (fun q => h q.2.2)
theorem stR_o (C : Cy) {x m r c : Nat} (h : r ≠ x) : stR C x m 2 r c = C 2 r c := if_neg (fun q => h q.2.1)
theorem stR_s (C : Cy) {x m : Nat} : stR C x m 2 x 2 = m := if_pos ⟨rfl, rfl, rfl⟩
theorem DR_roster {C : Cy} {N x m : Nat} {nm : Nat → Nat → Nat} {xr xt so nu xx xh xw at0 at1 : Nat → Int32} {co names : Nat → Int64} (dr : DR C N nm xr xt co so nu xx xh xw at0 names) (hx : x < C 0 0 2) (hm : m < 256) (e1 : at1 (1980 + (48 + 5 * x + 2)) = nI m) (e2 : ∀ j, j < 127 → j ≠ 48 + 5 * x + 2 → at1 (1980 + j) = at0 (1980 + j)) : DR (stR C x m) N nm xr xt co so nu (upd xx (x * 5 + 2) (nI m)) xh xw at1 names := by
  obtain ⟨ok, c8', dz, eN, rc, ct, cx, ch, cw, hM, zr, hn⟩ := dr
  have okC := ok
  obtain ⟨o0, oR, oE, oH, oW⟩ := ok
  have t : ∀ t r c, t ≠ 2 → stR C x m t r c = C t r c := fun t r c h => stR_t C h
  have z : ∀ c, stR C x m 0 0 c = C 0 0 c := fun c => stR_t C (by omega)
  obtain ⟨a0, a1, a2, a3, a4, a5, a6⟩ := hM
  have far : ∀ k, k < 127 → k ≠ 48 + 5 * x + 2 → sl at1 k = sl at0 k := fun k hk h => e2 k hk h
  refine ⟨⟨?_, fun r hr => ?_, fun r hr => ?_, fun r hr => ?_, fun r hr => ?_⟩, by rw [z]; exact c8', fun y hy => ?_, by rw [z, z, z, z]; exact eN, fun r c hr hc => ?_, fun a b ha hb => ?_, fun y c hy hc => ?_, CH_t ch (z 3) (fun r c => t _ _ _ (by omega)), CW_t cw (z 4) (fun r c => t _ _ _ (by omega)), ⟨fun k hk => ?_, fun r c hr hc => ?_, fun y hy q => ?_, fun y hy q => ?_, fun y c hy h1 hc => ?_, fun y c hy hc => ?_, fun y c hy hc => ?_⟩, ⟨?_, fun y c h1 h2 h3 h4 => ?_, fun y h1 h2 => ?_, fun y h1 h2 => ?_⟩, NM_c hn okC (fun s h1 h4 => ?_) (fun _ _ => rfl)⟩
  · rw [z, z, z, z, z, z, z, z, z, z]; exact o0
  · rw [z] at hr
    rw [z, t _ _ _ (by omega), t _ _ _ (by omega), t _ _ _ (by omega)]; exact oR r hr
  · rw [z] at hr
    have := oE r hr
    rw [z, stR_c C (by omega), stR_c C (by omega)]
    by_cases y : r = x
    · subst y; rw [stR_s]; omega
    · rw [stR_o C y]; exact this
  · rw [z] at hr
    rw [z, t _ _ _ (by omega), t _ _ _ (by omega), t _ _ _ (by omega), t _ _ _ (by omega)]; exact oH r hr
  · rw [z] at hr
    rw [z, t _ _ _ (by omega), t _ _ _ (by omega)]; exact oW r hr
  · rw [z] at hy
    rw [stR_c C (by omega), stR_c C (by omega), stR_c C (by omega)]; exact dz y hy
  · rw [z] at hr
    rw [t _ _ _ (by omega)]; exact rc r c hr hc
  · rw [ct a b ha hb]; unfold tk0; rw [tk_cong (z 1) (fun r c => t _ _ _ (by omega))]
  · rw [z] at hy
    by_cases q : y = x ∧ c = 2
    · rw [q.1, q.2, pk_us, stR_s]
    · rw [pk_un (by omega), cx y c hy hc]
      by_cases q' : y = x
      · rw [stR_c C (by omega)]
      · rw [stR_o C q']
  · rw [z, far k (by omega) (by omega)]; exact a0 k hk
  · rw [z] at hr
    rw [far _ (by omega) (by omega), t _ _ _ (by omega)]; exact a1 r c hr hc
  · rw [z] at hy
    rw [stR_c C (by omega)] at q
    rw [far _ (by omega) (by omega), stR_c C (by omega)]; exact a2 y hy q
  · rw [z] at hy
    rw [stR_c C (by omega)] at q
    rw [far _ (by omega) (by omega), stR_c C (by omega)]; exact a3 y hy q
  · rw [z] at hy
    by_cases q : y = x ∧ c = 2
    · rw [q.1, q.2, stR_s]; exact e1
    · rw [far _ (by omega) (by omega), a4 y c hy h1 hc]
      by_cases q' : y = x
      · rw [stR_c C (by omega)]
      · rw [stR_o C q']
  · rw [z] at hy
    rw [far _ (by omega) (by omega), t _ _ _ (by omega)]; exact a5 y c hy hc
  · rw [z] at hy
    rw [far _ (by omega) (by omega), t _ _ _ (by omega)]; exact a6 y c hy hc
  · rw [far _ (by omega) (by omega)]; exact zr.1
  · rw [z] at h1
    rw [far _ (by omega) (by omega)]; exact zr.2.1 y c h1 h2 h3 h4
  · rw [z] at h1
    rw [far _ (by omega) (by omega)]; exact zr.2.2.1 y h1 h2
  · rw [z] at h1
    rw [far _ (by omega) (by omega)]; exact zr.2.2.2 y h1 h2
  · unfold cnt
    by_cases e : s = 1
    · rw [if_pos e, if_pos e]; exact z 0
    · rw [if_neg e, if_neg e]; exact z s
theorem ct_set {m k n : Nat} (hk : k < n) (h : m.testBit k = false) : fb_ct (m ||| 2 ^ k).testBit n = fb_ct m.testBit n + 1 := by
  have u := fb_ct_upd m.testBit true hk
  rw [h] at u
  have e : fb_ct (m ||| 2 ^ k).testBit n = fb_ct (fun r => if r = k then true else m.testBit r) n := fb_ct_cong (fun r _ => by
    rw [fb_bit_set]
    by_cases q : r = k
    · rw [if_pos q, decide_eq_true q, Bool.or_true]
    · rw [if_neg q, decide_eq_false q, Bool.or_false])
  rw [e]
  simpa using u
/-- no END of a PART here -/
theorem q_sign {F n q kd e v : Nat} {B : Nat → Nat} {f g : Nat → Int32} {cs : cSt} {ms : mTk} (mfp : Int32) (h : TkR n B q kd e v cs ms) (k3 : kd ≠ 3) : X12_wantSign F (nI n) ms.1 ms.2.1 ms.2.2.1 ms.2.2.2 mfp (nI 0) g (nI 59) = some (nI 0, ms.1, ms.2.1, ms.2.2.1, ms.2.2.2, nI q, nI (fk kd 2)) := by
  have b := tk_bnd h
  obtain ⟨⟨p, tk⟩, h1, h2, h3, h4, h5, h6⟩ := h
  have fl := q_fails (fp := mfp) (k := 2) h4 h5 b.2.1 (by omega)
  have m4 : mtk kd ≠ 4 ∧ mtk kd < 10 := by
    unfold mtk
    rcases (show kd = 0 ∨ kd = 1 ∨ kd = 2 ∨ kd = 4 by omega) with rfl | rfl | rfl | rfl <;> decide
  have m41 := m4.1
  have m42 := m4.2
  unfold X12_wantSign X12_isSign X12_isSign_j20
  rw [h4] at fl ⊢
  simp (disch := omega) only [l_0, l_1, l_2, l_3, l_4, l_5, l_6, l_7, l_8, l_9, l_10, l_11, l_12, l_13, l_14, l_15, l_16, l_17, l_18, l_19, l_20, l_21, l_22, l_23, l_24, l_25, l_26, l_27, l_30, l_31, l_32, l_40, l_48, l_57, l_59, l_60, l_61, l_62, l_64, l_83, l_90, l_97, l_99, l_100, l_108, l_115, l_122, l_123, l_127, l_128, l_131, l_135, l_200, l_255, l_256, l_300, l_487, l_495, l_900, l_999, l_1000, l_1700, l_1792, l_1980, l_2048, l_2475, l_2970, l_3121, l_9999, l_10000, l_11351, l_65536, l_100000, l_1000000, ↓l_m1, l_neg, nI_add, pk_mul, pk_sub, q_leT, q_leF, q_ltT, q_ltF, q_eqT, q_eqF, q_m1e, q_m1e2, q_m1lt, q_m1le, q_m1nl, q_m1nle, q_m1s, q_ix, q_jat, q_jput, q_min1, q_min2, q_max1, q_max2, q_or0, q_0or, q_bs, if_true, if_false, true_and, and_true, false_and, and_false, not_true_eq_false, not_false_eq_true, eq_self, Bool.false_eq_true, q_z0, q_z1, fl]
def RoR (F n : Nat) (B : Nat → Nat) (C : Cy) (q : Nat) (fp mfp : Int32) (g : Nat → Int32) (a : Option (Int32 × Int32 × Int32 × Int32 × Int32 × Int64 × Int32 × Int32)) (b : Option ((Int32 × Int32 × Int32 × Int32) ⊕ (Int32 × Int32 × Int32 × Int32) ⊕ (Int32 × Int32 × Int32 × Int32 × Int32))) : Prop :=
  (∃ (q' kd' e' v' m : Nat) (cs' : cSt) (ms' : mTk), a = some (nI m, cs'.1, cs'.2.1, cs'.2.2.1, cs'.2.2.2.1, cs'.2.2.2.2, nI 0, fp) ∧ b = some (.inr (.inr (nI m, ms'.1, ms'.2.1, ms'.2.2.1, ms'.2.2.2))) ∧ TkR n B q' kd' e' v' cs' ms' ∧ q ≤ q' ∧ m < 2 ^ C 0 0 3) ∨
  (∃ (k p : Nat) (m' c1 c2 c3 c4 : Int32) (c5 : Int64) (t : mTk), 1 ≤ k ∧ k ≤ 7 ∧ a = some (m', c1, c2, c3, c4, c5, nI k, nI p) ∧ ((b = some (.inl t) ∧ X12_fails t.1 t.2.1 mfp (nI 0) (nI 3) = some (nI 0, nI p, nI k)) ∨ (b = some (.inr (.inl t)) ∧ X12_fails t.1 t.2.1 mfp (nI 0) (nI 5) = some (nI 0, nI p, nI k)) ∨ (∃ m, b = some (.inr (.inr (m, t))) ∧ X12_wantSign F (nI n) t.1 t.2.1 t.2.2.1 t.2.2.2 mfp (nI 0) g (nI 59) = some (nI 0, t.1, t.2.1, t.2.2.1, t.2.2.2, nI p, nI k))))
theorem ro_loop {F n N : Nat} {C : Cy} {nm : Nat → Nat → Nat} {co : Nat → Int64} {so nu at0 xx : Nat → Int32} {names : Nat → Int64} {B : Nat → Nat} {f g : Nat → Int32} (x : Int32) (fp mfp : Int32) (ok : Ok C) (hn : NM C N nm co so nu (fun k => names (108 + k))) (a3 : at0 1983 = nI (C 0 0 3)) (hx : TX n B f g) (hF : 2000 < F) :
    ∀ (j q kd e v m i : Nat) (cs : cSt) (ms : mTk) (G : Nat), n - q ≤ j → j + 2 ≤ G → TkR n B q kd e v cs ms → m < 2 ^ C 0 0 3 → fb_ct m.testBit (C 0 0 3) = i →
      RoR F n B C q fp mfp g (iter (X1_takeRoster_b27 F (nI n) f (nI N) co so nu (nI (C 0 0 2)) xx (nI (C 0 0 3)) x) G (nI m, nI i, cs.1, cs.2.1, cs.2.2.1, cs.2.2.2.1, cs.2.2.2.2, nI 0, fp)) (iter (X12_aRoster_b30 F (nI n) mfp (nI 0) at0 names g (nI 2467)) G (nI m, ms.1, ms.2.1, ms.2.2.1, ms.2.2.2)) := by
  intro j
  induction j with
  | zero => sorry
  | succ j ih => sorry
