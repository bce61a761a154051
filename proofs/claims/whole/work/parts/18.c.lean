/-! ===== PURE 18.c: which roads must be closed ===== -/
/-- road r leaves part P -/
def xr (C : Cy) (P r : Nat) : Bool := P.testBit (C 1 r 0) != P.testBit (C 1 r 1)
def crs (C : Cy) (P : Nat) : Nat := fb_ct (xr C P) (C 0 0 1)
def vP (a b P : Nat) : Bool := P.testBit a && !P.testBit b
def cutC (C : Cy) (a b : Nat) : Nat → Nat
  | 0 => C 0 0 1
  | p + 1 => if vP a b p then min (cutC C a b p) (crs C p) else cutC C a b p
def opR (C : Cy) (s X : Nat) : Nat → Nat
  | 0 => X
  | r + 1 => if !s.testBit r && ((opR C s X r).testBit (C 1 r 0) || (opR C s X r).testBit (C 1 r 1)) then opR C s X r ||| (2 ^ C 1 r 0 ||| 2 ^ C 1 r 1) else opR C s X r
def opN (C : Cy) (s X : Nat) : Nat → Nat
  | 0 => X
  | n + 1 => opR C s (opN C s X n) (C 0 0 1)
def rch (C : Cy) (a s : Nat) : Nat := opN C s (2 ^ a) 8
def cutM (C : Cy) (a b : Nat) : Nat → Nat
  | 0 => 1000000
  | s + 1 => if (rch C a s).testBit b then cutM C a b s else min (cutM C a b s) (popc s)
theorem both_bit (X u v k : Nat) : (X ||| (2 ^ u ||| 2 ^ v)).testBit k = (X.testBit k || (decide (u = k) || decide (v = k))) := by
  rw [Nat.testBit_or, Nat.testBit_or, Nat.testBit_two_pow, Nat.testBit_two_pow]
/-- a round adds only, and never leaves a part that no open road leaves -/
theorem opR_mono {C : Cy} {s X k : Nat} (h : X.testBit k = true) : ∀ n, (opR C s X n).testBit k = true
  | 0 => h
  | n + 1 => by
    have i := opR_mono (C := C) (s := s) h n
    rw [opR]
    by_cases q : (!s.testBit n && ((opR C s X n).testBit (C 1 n 0) || (opR C s X n).testBit (C 1 n 1))) = true
    · rw [if_pos q, both_bit, i]; rfl
    · rw [if_neg q]; exact i
theorem opR_in {C : Cy} {s X P : Nat} (hX : ∀ k, X.testBit k = true → P.testBit k = true) : ∀ n, (∀ r, r < n → xr C P r = true → s.testBit r = true) → ∀ k, (opR C s X n).testBit k = true → P.testBit k = true
  | 0, _ => hX
  | n + 1, hs => by
    have i := opR_in hX n (fun r hr => hs r (by omega))
    intro k hk
    rw [opR] at hk
    by_cases q : (!s.testBit n && ((opR C s X n).testBit (C 1 n 0) || (opR C s X n).testBit (C 1 n 1))) = true
    · rw [if_pos q, both_bit, Bool.or_eq_true, Bool.or_eq_true] at hk
      rw [Bool.and_eq_true, Bool.or_eq_true, Bool.not_eq_true'] at q
      have same : P.testBit (C 1 n 0) = P.testBit (C 1 n 1) := by
        cases e : xr C P n with
        | true => rw [hs n (by omega) e] at q; exact absurd q.1 (by decide)
        | false => unfold xr at e; revert e; cases P.testBit (C 1 n 0) <;> cases P.testBit (C 1 n 1) <;> decide
      have both : P.testBit (C 1 n 0) = true ∧ P.testBit (C 1 n 1) = true := by
        rcases q.2 with z | z
        · have := i _ z; exact ⟨this, by rw [← same]; exact this⟩
        · have := i _ z; exact ⟨by rw [same]; exact this, this⟩
      rcases hk with z | z | z
      · exact i k z
      · have := of_decide_eq_true z; rw [← this]; exact both.1
      · have := of_decide_eq_true z; rw [← this]; exact both.2
    · rw [if_neg q] at hk; exact i k hk
theorem opN_in {C : Cy} {s X P : Nat} (hX : ∀ k, X.testBit k = true → P.testBit k = true) (hs : ∀ r, r < C 0 0 1 → xr C P r = true → s.testBit r = true) : ∀ n k, (opN C s X n).testBit k = true → P.testBit k = true
  | 0 => hX
  | n + 1 => opR_in (opN_in hX hs n) (C 0 0 1) hs
/-- what a round leaves as it is, no open road leaves -/
theorem opR_keep {C : Cy} {s X : Nat} : ∀ n, (∀ k, (opR C s X n).testBit k = true → X.testBit k = true) → ∀ r, r < n → s.testBit r = false → xr C X r = false
  | 0, _, r, hr, _ => by omega
  | n + 1, h, r, hr, hs => by
    have h1 : ∀ k, (opR C s X n).testBit k = true → X.testBit k = true := by
      intro k hk
      refine h k ?_
      rw [opR]
      by_cases q : (!s.testBit n && ((opR C s X n).testBit (C 1 n 0) || (opR C s X n).testBit (C 1 n 1))) = true
      · rw [if_pos q, both_bit, hk]; rfl
      · rw [if_neg q]; exact hk
    by_cases e : r = n
    · subst e
      have m0 := @opR_mono C s X
      rw [opR] at h
      unfold xr
      cases z0 : X.testBit (C 1 r 0) with
      | true =>
        have q : (!s.testBit r && ((opR C s X r).testBit (C 1 r 0) || (opR C s X r).testBit (C 1 r 1))) = true := by rw [hs, m0 z0 r]; rfl
        rw [if_pos q] at h
        have := h (C 1 r 1) (by rw [both_bit, decide_eq_true (rfl : C 1 r 1 = C 1 r 1), Bool.or_true, Bool.or_true])
        rw [this]; rfl
      | false =>
        cases z1 : X.testBit (C 1 r 1) with
        | true =>
          have q : (!s.testBit r && ((opR C s X r).testBit (C 1 r 0) || (opR C s X r).testBit (C 1 r 1))) = true := by rw [hs, m0 z1 r, Bool.or_true]; rfl
          rw [if_pos q] at h
          have := h (C 1 r 0) (by rw [both_bit, decide_eq_true (rfl : C 1 r 0 = C 1 r 0), Bool.true_or, Bool.or_true])
          rw [this] at z0; cases z0
        | false => rfl
    · exact opR_keep n h1 r (by omega) hs
theorem opR_lt {C : Cy} {s X : Nat} (ok : Ok C) (hX : X < 2 ^ C 0 0 0) : ∀ n, n ≤ C 0 0 1 → opR C s X n < 2 ^ C 0 0 0
  | 0, _ => hX
  | n + 1, hn => by
    have i := opR_lt (s := s) ok hX n (by omega)
    have e := ok.2.1 n (by omega)
    rw [opR]
    by_cases q : (!s.testBit n && ((opR C s X n).testBit (C 1 n 0) || (opR C s X n).testBit (C 1 n 1))) = true
    · rw [if_pos q]
      exact Nat.or_lt_two_pow i (Nat.or_lt_two_pow (Nat.pow_lt_pow_right (by omega) e.1) (Nat.pow_lt_pow_right (by omega) e.2.1))
    · rw [if_neg q]; exact i
theorem opN_lt {C : Cy} {s X : Nat} (ok : Ok C) (hX : X < 2 ^ C 0 0 0) : ∀ n, opN C s X n < 2 ^ C 0 0 0
  | 0 => hX
  | n + 1 => opR_lt ok (opN_lt ok hX n) _ (Nat.le_refl _)
def bc (n X : Nat) : Nat := fb_ct X.testBit n
/-- after n rounds: nothing changes any more, or there are n more -/
theorem opN_grow {C : Cy} {s X : Nat} (hX : 1 ≤ bc 8 X) (hl : ∀ n k, 8 ≤ k → (opN C s X n).testBit k = false) : ∀ n, (∀ k, (opN C s X (n + 1)).testBit k = true → (opN C s X n).testBit k = true) ∨ n + 1 < bc 8 (opN C s X (n + 1))
  | 0 => by
    by_cases q : ∀ k, (opN C s X (0 + 1)).testBit k = true → (opN C s X 0).testBit k = true
    · exact Or.inl q
    · refine Or.inr ?_
      have q' : ∃ k, (opN C s X (0 + 1)).testBit k = true ∧ ¬ (opN C s X 0).testBit k = true := Classical.byContradiction fun z => q (fun k hk => Classical.byContradiction fun y => z ⟨k, hk, y⟩)
      obtain ⟨k, k1, k2⟩ := q'
      have k8 : k < 8 := by
        by_cases e : k < 8
        · exact e
        · rw [hl _ k (by omega)] at k1; cases k1
      have u := fb_ct_upd (opN C s X 0).testBit true k8
      rw [ts_nt k2] at u
      have v : fb_ct (fun j => if j = k then true else (opN C s X 0).testBit j) 8 ≤ bc 8 (opN C s X (0 + 1)) := by
        refine fb_ct_sub (fun j _ hj => ?_)
        by_cases e : j = k
        · rw [e]; exact k1
        · rw [if_neg e] at hj; exact opR_mono hj _
      have w : 1 ≤ fb_ct (opN C s X 0).testBit 8 := hX
      simp only [if_true, Bool.false_eq_true, if_false] at u
      omega
  | n + 1 => by
    by_cases q : ∀ k, (opN C s X (n + 1 + 1)).testBit k = true → (opN C s X (n + 1)).testBit k = true
    · exact Or.inl q
    · refine Or.inr ?_
      have q' : ∃ k, (opN C s X (n + 1 + 1)).testBit k = true ∧ ¬ (opN C s X (n + 1)).testBit k = true := Classical.byContradiction fun z => q (fun k hk => Classical.byContradiction fun y => z ⟨k, hk, y⟩)
      rcases opN_grow hX hl n with y | y
      · exfalso
        obtain ⟨k, k1, k2⟩ := q'
        have e : opN C s X (n + 1) = opN C s X n := Nat.eq_of_testBit_eq (fun j => by
          cases z : (opN C s X n).testBit j with
          | true => exact opR_mono z _
          | false =>
            cases z2 : (opN C s X (n + 1)).testBit j with
            | true => rw [y j z2] at z; cases z
            | false => rfl)
        have e2 : opN C s X (n + 1 + 1) = opN C s X (n + 1) := by rw [opN, e, ← opN, e]
        rw [e2] at k1; exact k2 k1
      · obtain ⟨k, k1, k2⟩ := q'
        have k8 : k < 8 := by
          by_cases e : k < 8
          · exact e
          · rw [hl _ k (by omega)] at k1; cases k1
        have u := fb_ct_upd (opN C s X (n + 1)).testBit true k8
        rw [ts_nt k2] at u
        have v : fb_ct (fun j => if j = k then true else (opN C s X (n + 1)).testBit j) 8 ≤ bc 8 (opN C s X (n + 1 + 1)) := by
          refine fb_ct_sub (fun j _ hj => ?_)
          by_cases e : j = k
          · rw [e]; exact k1
          · rw [if_neg e] at hj; exact opR_mono hj _
        have w : n + 1 < fb_ct (opN C s X (n + 1)).testBit 8 := y
        simp only [if_true, Bool.false_eq_true, if_false] at u
        omega
theorem lt_bit {X n k : Nat} (h : X < 2 ^ n) (hk : n ≤ k) : X.testBit k = false := Nat.testBit_lt_two_pow (Nat.lt_of_lt_of_le h (Nat.pow_le_pow_right (by omega) hk))
theorem rch_fix {C : Cy} {a s : Nat} (ok : Ok C) (ha : a < C 0 0 0) : ∀ r, r < C 0 0 1 → s.testBit r = false → xr C (rch C a s) r = false := by
  have o0 := ok.1
  have hX : (2 : Nat) ^ a < 2 ^ C 0 0 0 := Nat.pow_lt_pow_right (by omega) ha
  have hl : ∀ n k, 8 ≤ k → (opN C s (2 ^ a) n).testBit k = false := fun n k hk => lt_bit (opN_lt ok hX n) (by omega)
  have h1 : 1 ≤ bc 8 (2 ^ a) := fb_ct_pos.mpr ⟨a, by omega, by rw [Nat.testBit_two_pow]; exact decide_eq_true rfl⟩
  rcases opN_grow (C := C) (s := s) h1 hl 8 with y | y
  · exact opR_keep (C 0 0 1) y
  · have := fb_ct_le (opN C s (2 ^ a) (8 + 1)).testBit 8
    unfold bc at y
    omega
theorem opN_mono {C : Cy} {s X k : Nat} (h : X.testBit k = true) : ∀ n, (opN C s X n).testBit k = true
  | 0 => h
  | n + 1 => opR_mono (opN_mono h n) _
theorem rch_a {C : Cy} {a s : Nat} : (rch C a s).testBit a = true := opN_mono (by rw [Nat.testBit_two_pow]; exact decide_eq_true rfl) 8
theorem cutC_le {C : Cy} {a b p : Nat} (hp : vP a b p = true) : ∀ n, p < n → cutC C a b n ≤ crs C p
  | 0, h => by omega
  | n + 1, h => by
    rw [cutC]
    by_cases e : p = n
    · subst e; rw [if_pos hp]; omega
    · have i := cutC_le (C := C) hp n (by omega)
      by_cases q : vP a b n = true
      · rw [if_pos q]; omega
      · rw [if_neg q]; exact i
theorem cutC_at {C : Cy} {a b : Nat} : ∀ n, cutC C a b n = C 0 0 1 ∨ ∃ p, p < n ∧ vP a b p = true ∧ cutC C a b n = crs C p
  | 0 => Or.inl rfl
  | n + 1 => by
    rw [cutC]
    have i := cutC_at (C := C) (a := a) (b := b) n
    by_cases q : vP a b n = true
    · rw [if_pos q]
      by_cases e : cutC C a b n ≤ crs C n
      · rw [Nat.min_eq_left e]
        rcases i with i | ⟨p, i1, i2, i3⟩
        · exact Or.inl i
        · exact Or.inr ⟨p, by omega, i2, i3⟩
      · rw [Nat.min_eq_right (by omega)]; exact Or.inr ⟨n, by omega, q, rfl⟩
    · rw [if_neg q]
      rcases i with i | ⟨p, i1, i2, i3⟩
      · exact Or.inl i
      · exact Or.inr ⟨p, by omega, i2, i3⟩
theorem cutM_le {C : Cy} {a b s : Nat} (hs : (rch C a s).testBit b = false) : ∀ n, s < n → cutM C a b n ≤ popc s
  | 0, h => by omega
  | n + 1, h => by
    rw [cutM]
    by_cases e : s = n
    · subst e; rw [hs]; simp only [Bool.false_eq_true, if_false]; omega
    · have i := cutM_le (C := C) hs n (by omega)
      by_cases q : (rch C a n).testBit b = true
      · rw [if_pos q]; exact i
      · rw [if_neg q]; omega
theorem cutM_at {C : Cy} {a b : Nat} : ∀ n, cutM C a b n = 1000000 ∨ ∃ s, s < n ∧ (rch C a s).testBit b = false ∧ cutM C a b n = popc s
  | 0 => Or.inl rfl
  | n + 1 => by
    rw [cutM]
    have i := cutM_at (C := C) (a := a) (b := b) n
    by_cases q : (rch C a n).testBit b = true
    · rw [if_pos q]
      rcases i with i | ⟨p, i1, i2, i3⟩
      · exact Or.inl i
      · exact Or.inr ⟨p, by omega, i2, i3⟩
    · rw [if_neg q]
      by_cases e : cutM C a b n ≤ popc n
      · rw [Nat.min_eq_left e]
        rcases i with i | ⟨p, i1, i2, i3⟩
        · exact Or.inl i
        · exact Or.inr ⟨p, by omega, i2, i3⟩
      · rw [Nat.min_eq_right (by omega)]; exact Or.inr ⟨n, by omega, ts_nt q, rfl⟩
theorem crs_shut {C : Cy} {a b p : Nat} (ok : Ok C) (hp : vP a b p = true) : (rch C a (setOf (xr C p) (C 0 0 1))).testBit b = false := by
  unfold vP at hp
  rw [Bool.and_eq_true, Bool.not_eq_true'] at hp
  cases q : (rch C a (setOf (xr C p) (C 0 0 1))).testBit b with
  | false => rfl
  | true =>
    have := opN_in (C := C) (s := setOf (xr C p) (C 0 0 1)) (X := 2 ^ a) (P := p) (fun k hk => by
      rw [Nat.testBit_two_pow] at hk
      rw [← of_decide_eq_true hk]; exact hp.1) (fun r hr hx => by rw [setBit hr]; exact hx) 8 b q
    rw [hp.2] at this; cases this
theorem popc_bnd {s n : Nat} (hn : n ≤ 15) (hs : s < 2 ^ n) : popc s = fb_ct s.testBit n := by
  unfold popc
  obtain ⟨d, hd⟩ : ∃ d, 15 = n + d := ⟨15 - n, by omega⟩
  rw [hd, fb_ct_split]
  have : fb_ct (fun k => s.testBit (n + k)) d = 0 := fb_ct_zero.mpr (fun k hk => lt_bit hs (by omega))
  omega
theorem cut_eq {C : Cy} {a b : Nat} (ok : Ok C) (ha : a < C 0 0 0) (hab : a ≠ b) : cutC C a b (2 ^ C 0 0 0) = cutM C a b (2 ^ C 0 0 1) := by
  have o0 := ok.1
  have up : ∀ p, vP a b p = true → cutM C a b (2 ^ C 0 0 1) ≤ crs C p := fun p hp => by
    have := cutM_le (crs_shut ok hp) (2 ^ C 0 0 1) (setOf_lt _ _)
    rw [popc_setOf _ (by omega)] at this; exact this
  have va : vP a b (2 ^ a) = true := by
    unfold vP
    rw [Nat.testBit_two_pow, Nat.testBit_two_pow, decide_eq_true rfl, decide_eq_false hab]; rfl
  have m1 := up _ va
  have m2 := fb_ct_le (xr C (2 ^ a)) (C 0 0 1)
  unfold crs at m1
  apply Nat.le_antisymm
  · rcases cutM_at (C := C) (a := a) (b := b) (2 ^ C 0 0 1) with e | ⟨s, s1, s2, s3⟩
    · omega
    · have vr : vP a b (rch C a s) = true := by unfold vP; rw [rch_a, s2]; rfl
      have l := cutC_le (C := C) vr (2 ^ C 0 0 0) (opN_lt ok (Nat.pow_lt_pow_right (by omega) ha) 8)
      have c : crs C (rch C a s) ≤ popc s := by
        rw [popc_bnd (show C 0 0 1 ≤ 15 by omega) s1]
        refine fb_ct_sub (fun r hr hx => ?_)
        cases q : s.testBit r with
        | true => rfl
        | false => rw [rch_fix ok ha r hr q] at hx; cases hx
      omega
  · rcases cutC_at (C := C) (a := a) (b := b) (2 ^ C 0 0 0) with e | ⟨p, p1, p2, p3⟩
    · omega
    · rw [p3]; exact up p p2
/-! the two sides -/
theorem c_out {F : Nat} {C : Cy} {rf : Nat → Int32} {P : Nat} (ok : Ok C) (hR : ∀ r c, r < C 0 0 1 → c < 2 → rf (r * 2 + c) = nI (C 1 r c)) (hP : P < 256) (hF : 100 < F) : X6_roadsOutOf F (nI (C 0 0 1)) rf (nI P) = some (nI (crs C P)) := by
  have o0 := ok.1
  have it : iter (X6_roadsOutOf_b4 F (nI (C 0 0 1)) rf (nI P)) F (nI (fb_ct (xr C P) 0), nI 0) = some (nI (fb_ct (xr C P) (C 0 0 1))) := by
    refine iter_count (b := X6_roadsOutOf_b4 F (nI (C 0 0 1)) rf (nI P)) (fun i => (nI (fb_ct (xr C P) i), nI i)) (C 0 0 1) (fun r hr => ?_) ?_ F (by omega)
    · have er := ok.2.1 r hr
      have h0 := hR r 0 hr (by omega)
      have h1 := hR r 1 hr (by omega)
      have s0 := q_shr (s := P) (i := C 1 r 0) (by omega) (by omega)
      have s1 := q_shr (s := P) (i := C 1 r 1) (by omega) (by omega)
      have t0 : P.testBit (C 1 r 0) = decide (P / 2 ^ C 1 r 0 % 2 = 1) := Nat.testBit_eq_decide_div_mod_eq
      have t1 : P.testBit (C 1 r 1) = decide (P / 2 ^ C 1 r 1 % 2 = 1) := Nat.testBit_eq_decide_div_mod_eq
      have e0 : P / 2 ^ C 1 r 0 % 2 < 2 := Nat.mod_lt _ (by omega)
      have e1 : P / 2 ^ C 1 r 1 % 2 < 2 := Nat.mod_lt _ (by omega)
      rw [fb_ct_succ]
      unfold xr X6_roadsOutOf_b4 X6_roadsOutOf_j47
      rw [t0, t1]
      generalize P / 2 ^ C 1 r 0 = u at s0 e0
      generalize P / 2 ^ C 1 r 1 = v at s1 e1
      by_cases q : u % 2 = v % 2
      · have z : (decide (u % 2 = 1) != decide (v % 2 = 1)) = false := by rw [q]; exact bne_self_eq_false _
        have h0' : rf (r * 2) = nI (C 1 r 0) := h0
        rw [z]
        simp (disch := omega) only [l_0, l_1, l_2, l_3, l_4, l_5, l_6, l_7, l_8, l_9, l_10, l_11, l_12, l_13, l_14, l_15, l_16, l_17, l_18, l_19, l_20, l_21, l_22, l_23, l_24, l_25, l_26, l_27, l_30, l_31, l_32, l_40, l_48, l_57, l_59, l_60, l_61, l_62, l_64, l_83, l_90, l_97, l_99, l_100, l_108, l_115, l_122, l_123, l_127, l_128, l_131, l_135, l_200, l_255, l_256, l_300, l_487, l_495, l_900, l_999, l_1000, l_1700, l_1792, l_1980, l_2048, l_2475, l_2970, l_3121, l_9999, l_10000, l_11351, l_65536, l_100000, l_1000000, ↓l_m1, l_neg, nI_add, pk_mul, pk_sub, q_leT, q_leF, q_ltT, q_ltF, q_eqT, q_eqF, q_m1e, q_m1e2, q_m1lt, q_m1le, q_m1nl, q_m1nle, q_m1s, q_ix, q_jat, q_jput, q_min1, q_min2, q_max1, q_max2, q_or0, q_0or, q_bs, if_true, if_false, true_and, and_true, false_and, and_false, not_true_eq_false, not_false_eq_true, eq_self, Bool.false_eq_true, q_z0, q_z1, q_get, q_set, q_raise, h0, h0', h1, s0, s1, q_and1, q, Nat.add_zero]
      · have z : (decide (u % 2 = 1) != decide (v % 2 = 1)) = true := by
          rcases (show u % 2 = 0 ∨ u % 2 = 1 by omega) with y | y
          · rw [y, show v % 2 = 1 by omega]; rfl
          · rw [y, show v % 2 = 0 by omega]; rfl
        rw [z]
        simp (disch := omega) only [l_0, l_1, l_2, l_3, l_4, l_5, l_6, l_7, l_8, l_9, l_10, l_11, l_12, l_13, l_14, l_15, l_16, l_17, l_18, l_19, l_20, l_21, l_22, l_23, l_24, l_25, l_26, l_27, l_30, l_31, l_32, l_40, l_48, l_57, l_59, l_60, l_61, l_62, l_64, l_83, l_90, l_97, l_99, l_100, l_108, l_115, l_122, l_123, l_127, l_128, l_131, l_135, l_200, l_255, l_256, l_300, l_487, l_495, l_900, l_999, l_1000, l_1700, l_1792, l_1980, l_2048, l_2475, l_2970, l_3121, l_9999, l_10000, l_11351, l_65536, l_100000, l_1000000, ↓l_m1, l_neg, nI_add, pk_mul, pk_sub, q_leT, q_leF, q_ltT, q_ltF, q_eqT, q_eqF, q_m1e, q_m1e2, q_m1lt, q_m1le, q_m1nl, q_m1nle, q_m1s, q_ix, q_jat, q_jput, q_min1, q_min2, q_max1, q_max2, q_or0, q_0or, q_bs, if_true, if_false, true_and, and_true, false_and, and_false, not_true_eq_false, not_false_eq_true, eq_self, Bool.false_eq_true, q_z0, q_z1, q_get, q_set, q_raise, h0, h1, s0, s1, q_and1]
    · unfold X6_roadsOutOf_b4
      simp (disch := omega) only [l_0, l_1, l_2, l_3, l_4, l_5, l_6, l_7, l_8, l_9, l_10, l_11, l_12, l_13, l_14, l_15, l_16, l_17, l_18, l_19, l_20, l_21, l_22, l_23, l_24, l_25, l_26, l_27, l_30, l_31, l_32, l_40, l_48, l_57, l_59, l_60, l_61, l_62, l_64, l_83, l_90, l_97, l_99, l_100, l_108, l_115, l_122, l_123, l_127, l_128, l_131, l_135, l_200, l_255, l_256, l_300, l_487, l_495, l_900, l_999, l_1000, l_1700, l_1792, l_1980, l_2048, l_2475, l_2970, l_3121, l_9999, l_10000, l_11351, l_65536, l_100000, l_1000000, ↓l_m1, l_neg, nI_add, pk_mul, pk_sub, q_leT, q_leF, q_ltT, q_ltF, q_eqT, q_eqF, q_m1e, q_m1e2, q_m1lt, q_m1le, q_m1nl, q_m1nle, q_m1s, q_ix, q_jat, q_jput, q_min1, q_min2, q_max1, q_max2, q_or0, q_0or, q_bs, if_true, if_false, true_and, and_true, false_and, and_false, not_true_eq_false, not_false_eq_true, eq_self, Bool.false_eq_true, q_z0, q_z1]
  unfold X6_roadsOutOf
  rw [show ((0 : Int32), (0 : Int32)) = (nI (fb_ct (xr C P) 0), nI 0) from rfl, it, q_bs]; rfl
theorem c_cut {F : Nat} {C : Cy} {rf : Nat → Int32} {a b : Nat} (ok : Ok C) (hR : ∀ r c, r < C 0 0 1 → c < 2 → rf (r * 2 + c) = nI (C 1 r c)) (ha : a < C 0 0 0) (hb : b < C 0 0 0) (hF : 2000 < F) : X6_fewestClosed F (nI (C 0 0 0)) (nI (C 0 0 1)) rf (nI a) (nI b) = some (nI (cutC C a b (2 ^ C 0 0 0))) := by
  have o0 := ok.1
  have p8 : 2 ^ C 0 0 0 ≤ 256 := Nat.pow_le_pow_right (n := 2) (by omega) (show C 0 0 0 ≤ 8 by omega)
  have it : iter (X6_fewestClosed_b11 F (nI (C 0 0 0)) (nI (C 0 0 1)) rf (nI a) (nI b)) F (nI (cutC C a b 0), nI 0) = some (nI (cutC C a b (2 ^ C 0 0 0))) := by
    refine iter_count (b := X6_fewestClosed_b11 F (nI (C 0 0 0)) (nI (C 0 0 1)) rf (nI a) (nI b)) (fun i => (nI (cutC C a b i), nI i)) (2 ^ C 0 0 0) (fun p hp => ?_) ?_ F (by omega)
    · have co := c_out (F := F) (P := p) ok hR (by omega) (by omega)
      have cl : crs C p ≤ C 0 0 1 := fb_ct_le _ _
      have kl : cutC C a b p ≤ C 0 0 1 := by
        rcases cutC_at (C := C) (a := a) (b := b) p with e | ⟨p', _, _, e⟩
        · omega
        · rw [e]; exact fb_ct_le _ _
      rw [cutC]
      unfold vP X6_fewestClosed_b11 X6_fewestClosed_j52
      cases t0 : p.testBit a with
      | false => simp (disch := omega) only [l_0, l_1, l_2, l_3, l_4, l_5, l_6, l_7, l_8, l_9, l_10, l_11, l_12, l_13, l_14, l_15, l_16, l_17, l_18, l_19, l_20, l_21, l_22, l_23, l_24, l_25, l_26, l_27, l_30, l_31, l_32, l_40, l_48, l_57, l_59, l_60, l_61, l_62, l_64, l_83, l_90, l_97, l_99, l_100, l_108, l_115, l_122, l_123, l_127, l_128, l_131, l_135, l_200, l_255, l_256, l_300, l_487, l_495, l_900, l_999, l_1000, l_1700, l_1792, l_1980, l_2048, l_2475, l_2970, l_3121, l_9999, l_10000, l_11351, l_65536, l_100000, l_1000000, ↓l_m1, l_neg, nI_add, pk_mul, pk_sub, q_leT, q_leF, q_ltT, q_ltF, q_eqT, q_eqF, q_m1e, q_m1e2, q_m1lt, q_m1le, q_m1nl, q_m1nle, q_m1s, q_ix, q_jat, q_jput, q_min1, q_min2, q_max1, q_max2, q_or0, q_0or, q_bs, if_true, if_false, true_and, and_true, false_and, and_false, not_true_eq_false, not_false_eq_true, eq_self, Bool.false_eq_true, q_z0, q_z1, q_shl1, q_bitF t0, Bool.false_and]
      | true =>
        cases t1 : p.testBit b with
        | true => simp (disch := omega) only [l_0, l_1, l_2, l_3, l_4, l_5, l_6, l_7, l_8, l_9, l_10, l_11, l_12, l_13, l_14, l_15, l_16, l_17, l_18, l_19, l_20, l_21, l_22, l_23, l_24, l_25, l_26, l_27, l_30, l_31, l_32, l_40, l_48, l_57, l_59, l_60, l_61, l_62, l_64, l_83, l_90, l_97, l_99, l_100, l_108, l_115, l_122, l_123, l_127, l_128, l_131, l_135, l_200, l_255, l_256, l_300, l_487, l_495, l_900, l_999, l_1000, l_1700, l_1792, l_1980, l_2048, l_2475, l_2970, l_3121, l_9999, l_10000, l_11351, l_65536, l_100000, l_1000000, ↓l_m1, l_neg, nI_add, pk_mul, pk_sub, q_leT, q_leF, q_ltT, q_ltF, q_eqT, q_eqF, q_m1e, q_m1e2, q_m1lt, q_m1le, q_m1nl, q_m1nle, q_m1s, q_ix, q_jat, q_jput, q_min1, q_min2, q_max1, q_max2, q_or0, q_0or, q_bs, if_true, if_false, true_and, and_true, false_and, and_false, not_true_eq_false, not_false_eq_true, eq_self, Bool.false_eq_true, q_z0, q_z1, q_shl1, q_bitT t0, q_bit0F t1, Bool.true_and, Bool.not_true]
        | false => simp (disch := omega) only [l_0, l_1, l_2, l_3, l_4, l_5, l_6, l_7, l_8, l_9, l_10, l_11, l_12, l_13, l_14, l_15, l_16, l_17, l_18, l_19, l_20, l_21, l_22, l_23, l_24, l_25, l_26, l_27, l_30, l_31, l_32, l_40, l_48, l_57, l_59, l_60, l_61, l_62, l_64, l_83, l_90, l_97, l_99, l_100, l_108, l_115, l_122, l_123, l_127, l_128, l_131, l_135, l_200, l_255, l_256, l_300, l_487, l_495, l_900, l_999, l_1000, l_1700, l_1792, l_1980, l_2048, l_2475, l_2970, l_3121, l_9999, l_10000, l_11351, l_65536, l_100000, l_1000000, ↓l_m1, l_neg, nI_add, pk_mul, pk_sub, q_leT, q_leF, q_ltT, q_ltF, q_eqT, q_eqF, q_m1e, q_m1e2, q_m1lt, q_m1le, q_m1nl, q_m1nle, q_m1s, q_ix, q_jat, q_jput, q_min1, q_min2, q_max1, q_max2, q_or0, q_0or, q_bs, if_true, if_false, true_and, and_true, false_and, and_false, not_true_eq_false, not_false_eq_true, eq_self, Bool.false_eq_true, q_z0, q_z1, q_shl1, q_bitT t0, q_bit0T t1, Bool.true_and, Bool.not_false, co, q_min]
    · unfold X6_fewestClosed_b11
      simp (disch := omega) only [l_0, l_1, l_2, l_3, l_4, l_5, l_6, l_7, l_8, l_9, l_10, l_11, l_12, l_13, l_14, l_15, l_16, l_17, l_18, l_19, l_20, l_21, l_22, l_23, l_24, l_25, l_26, l_27, l_30, l_31, l_32, l_40, l_48, l_57, l_59, l_60, l_61, l_62, l_64, l_83, l_90, l_97, l_99, l_100, l_108, l_115, l_122, l_123, l_127, l_128, l_131, l_135, l_200, l_255, l_256, l_300, l_487, l_495, l_900, l_999, l_1000, l_1700, l_1792, l_1980, l_2048, l_2475, l_2970, l_3121, l_9999, l_10000, l_11351, l_65536, l_100000, l_1000000, ↓l_m1, l_neg, nI_add, pk_mul, pk_sub, q_leT, q_leF, q_ltT, q_ltF, q_eqT, q_eqF, q_m1e, q_m1e2, q_m1lt, q_m1le, q_m1nl, q_m1nle, q_m1s, q_ix, q_jat, q_jput, q_min1, q_min2, q_max1, q_max2, q_or0, q_0or, q_bs, if_true, if_false, true_and, and_true, false_and, and_false, not_true_eq_false, not_false_eq_true, eq_self, Bool.false_eq_true, q_z0, q_z1, q_shl1]
  unfold X6_fewestClosed
  rw [show (nI (C 0 0 1), (0 : Int32)) = (nI (cutC C a b 0), nI 0) from rfl, it, q_bs]
theorem meet0 : ∀ u, u < 8 → ∀ v, v < 8 → ∀ X, X < 256 → (X &&& (2 ^ u ||| 2 ^ v) = 0 ↔ (X.testBit u || X.testBit v) = false) := by decide +kernel
theorem m_round {F : Nat} {C : Cy} {g : Nat → Int32} {X s : Nat} (b y : Int32) (ok : Ok C) (hM : MS C g) (hX : X < 2 ^ C 0 0 0) (hs : s < 4096) (hF : 100 < F) : iter (X12_isOpen_b18 F g b (nI s) y) F (nI X, nI 0) = some (nI (opR C s X (C 0 0 1))) := by
  have o0 := ok.1
  have p8 : 2 ^ C 0 0 0 ≤ 256 := Nat.pow_le_pow_right (n := 2) (by omega) (show C 0 0 0 ≤ 8 by omega)
  refine iter_count (b := X12_isOpen_b18 F g b (nI s) y) (fun i => (nI (opR C s X i), nI i)) (C 0 0 1) (fun r hr => ?_) ?_ F (by omega)
  · have er := ok.2.1 r hr
    have xl := opR_lt (s := s) ok hX r (by omega)
    have r0 := m_R0 hM hr
    have r1 := m_R1 hM hr
    have me := meet0 (C 1 r 0) (by omega) (C 1 r 1) (by omega) (opR C s X r) (by omega)
    have ml : opR C s X r &&& (2 ^ C 1 r 0 ||| 2 ^ C 1 r 1) ≤ opR C s X r := Nat.and_le_left
    rw [opR]
    generalize opR C s X r = Y at xl me ml
    unfold X12_isOpen_b18 X12_isOpen_j83 X12_roadRow
    cases hb : s.testBit r with
    | true => simp (disch := omega) only [l_0, l_1, l_2, l_3, l_4, l_5, l_6, l_7, l_8, l_9, l_10, l_11, l_12, l_13, l_14, l_15, l_16, l_17, l_18, l_19, l_20, l_21, l_22, l_23, l_24, l_25, l_26, l_27, l_30, l_31, l_32, l_40, l_48, l_57, l_59, l_60, l_61, l_62, l_64, l_83, l_90, l_97, l_99, l_100, l_108, l_115, l_122, l_123, l_127, l_128, l_131, l_135, l_200, l_255, l_256, l_300, l_487, l_495, l_900, l_999, l_1000, l_1700, l_1792, l_1980, l_2048, l_2475, l_2970, l_3121, l_9999, l_10000, l_11351, l_65536, l_100000, l_1000000, ↓l_m1, l_neg, nI_add, pk_mul, pk_sub, q_leT, q_leF, q_ltT, q_ltF, q_eqT, q_eqF, q_m1e, q_m1e2, q_m1lt, q_m1le, q_m1nl, q_m1nle, q_m1s, q_ix, q_jat, q_jput, q_min1, q_min2, q_max1, q_max2, q_or0, q_0or, q_bs, if_true, if_false, true_and, and_true, false_and, and_false, not_true_eq_false, not_false_eq_true, eq_self, Bool.false_eq_true, q_z0, q_z1, m_0 hM, m_E hM, m_Es hM, m_Er hM, m_H hM, m_W hM, m_R0 hM, m_R1 hM, m_R2 hM, q_isInT hb, Bool.not_true, Bool.false_and]
    | false =>
      cases hq : (Y.testBit (C 1 r 0) || Y.testBit (C 1 r 1)) with
      | false =>
        have z : Y &&& (2 ^ C 1 r 0 ||| 2 ^ C 1 r 1) = 0 := me.mpr hq
        simp (disch := omega) only [l_0, l_1, l_2, l_3, l_4, l_5, l_6, l_7, l_8, l_9, l_10, l_11, l_12, l_13, l_14, l_15, l_16, l_17, l_18, l_19, l_20, l_21, l_22, l_23, l_24, l_25, l_26, l_27, l_30, l_31, l_32, l_40, l_48, l_57, l_59, l_60, l_61, l_62, l_64, l_83, l_90, l_97, l_99, l_100, l_108, l_115, l_122, l_123, l_127, l_128, l_131, l_135, l_200, l_255, l_256, l_300, l_487, l_495, l_900, l_999, l_1000, l_1700, l_1792, l_1980, l_2048, l_2475, l_2970, l_3121, l_9999, l_10000, l_11351, l_65536, l_100000, l_1000000, ↓l_m1, l_neg, nI_add, pk_mul, pk_sub, q_leT, q_leF, q_ltT, q_ltF, q_eqT, q_eqF, q_m1e, q_m1e2, q_m1lt, q_m1le, q_m1nl, q_m1nle, q_m1s, q_ix, q_jat, q_jput, q_min1, q_min2, q_max1, q_max2, q_or0, q_0or, q_bs, if_true, if_false, true_and, and_true, false_and, and_false, not_true_eq_false, not_false_eq_true, eq_self, Bool.false_eq_true, q_z0, q_z1, m_0 hM, r0, r1, q_isInF hb, q_shl1, fa_or, fa_and, z, Bool.and_false]
      | true =>
        have z : Y &&& (2 ^ C 1 r 0 ||| 2 ^ C 1 r 1) ≠ 0 := fun e => by rw [me.mp e] at hq; cases hq
        simp (disch := omega) only [l_0, l_1, l_2, l_3, l_4, l_5, l_6, l_7, l_8, l_9, l_10, l_11, l_12, l_13, l_14, l_15, l_16, l_17, l_18, l_19, l_20, l_21, l_22, l_23, l_24, l_25, l_26, l_27, l_30, l_31, l_32, l_40, l_48, l_57, l_59, l_60, l_61, l_62, l_64, l_83, l_90, l_97, l_99, l_100, l_108, l_115, l_122, l_123, l_127, l_128, l_131, l_135, l_200, l_255, l_256, l_300, l_487, l_495, l_900, l_999, l_1000, l_1700, l_1792, l_1980, l_2048, l_2475, l_2970, l_3121, l_9999, l_10000, l_11351, l_65536, l_100000, l_1000000, ↓l_m1, l_neg, nI_add, pk_mul, pk_sub, q_leT, q_leF, q_ltT, q_ltF, q_eqT, q_eqF, q_m1e, q_m1e2, q_m1lt, q_m1le, q_m1nl, q_m1nle, q_m1s, q_ix, q_jat, q_jput, q_min1, q_min2, q_max1, q_max2, q_or0, q_0or, q_bs, if_true, if_false, true_and, and_true, false_and, and_false, not_true_eq_false, not_false_eq_true, eq_self, Bool.false_eq_true, q_z0, q_z1, m_0 hM, r0, r1, q_isInF hb, q_shl1, fa_or, fa_and, Bool.not_false, Bool.and_self]
  · unfold X12_isOpen_b18
    simp (disch := omega) only [l_0, l_1, l_2, l_3, l_4, l_5, l_6, l_7, l_8, l_9, l_10, l_11, l_12, l_13, l_14, l_15, l_16, l_17, l_18, l_19, l_20, l_21, l_22, l_23, l_24, l_25, l_26, l_27, l_30, l_31, l_32, l_40, l_48, l_57, l_59, l_60, l_61, l_62, l_64, l_83, l_90, l_97, l_99, l_100, l_108, l_115, l_122, l_123, l_127, l_128, l_131, l_135, l_200, l_255, l_256, l_300, l_487, l_495, l_900, l_999, l_1000, l_1700, l_1792, l_1980, l_2048, l_2475, l_2970, l_3121, l_9999, l_10000, l_11351, l_65536, l_100000, l_1000000, ↓l_m1, l_neg, nI_add, pk_mul, pk_sub, q_leT, q_leF, q_ltT, q_ltF, q_eqT, q_eqF, q_m1e, q_m1e2, q_m1lt, q_m1le, q_m1nl, q_m1nle, q_m1s, q_ix, q_jat, q_jput, q_min1, q_min2, q_max1, q_max2, q_or0, q_0or, q_bs, if_true, if_false, true_and, and_true, false_and, and_false, not_true_eq_false, not_false_eq_true, eq_self, Bool.false_eq_true, q_z0, q_z1, m_0 hM, m_E hM, m_Es hM, m_Er hM, m_H hM, m_W hM, m_R0 hM, m_R1 hM, m_R2 hM]
theorem m_open {F : Nat} {C : Cy} {g : Nat → Int32} {a b s : Nat} (ok : Ok C) (hM : MS C g) (ha : a < C 0 0 0) (hb : b < C 0 0 0) (hs : s < 4096) (hF : 100 < F) : X12_isOpen F g (nI a) (nI b) (nI s) = some (zb ((rch C a s).testBit b)) := by
  have o0 := ok.1
  have p8 : 2 ^ C 0 0 0 ≤ 256 := Nat.pow_le_pow_right (n := 2) (by omega) (show C 0 0 0 ≤ 8 by omega)
  have ax : (2 : Nat) ^ a < 2 ^ C 0 0 0 := Nat.pow_lt_pow_right (by omega) ha
  have it : iter (X12_isOpen_b8 F g (nI b) (nI s)) F (nI (opN C s (2 ^ a) 0), nI 0) = some (nI (rch C a s)) := by
    refine iter_count (b := X12_isOpen_b8 F g (nI b) (nI s)) (fun i => (nI (opN C s (2 ^ a) i), nI i)) 8 (fun n hn => ?_) ?_ F (by omega)
    · have mr := m_round (F := F) (nI b) (nI n) ok hM (opN_lt (s := s) ok ax n) hs hF
      rw [opN]
      unfold X12_isOpen_b8
      simp (disch := omega) only [l_0, l_1, l_2, l_3, l_4, l_5, l_6, l_7, l_8, l_9, l_10, l_11, l_12, l_13, l_14, l_15, l_16, l_17, l_18, l_19, l_20, l_21, l_22, l_23, l_24, l_25, l_26, l_27, l_30, l_31, l_32, l_40, l_48, l_57, l_59, l_60, l_61, l_62, l_64, l_83, l_90, l_97, l_99, l_100, l_108, l_115, l_122, l_123, l_127, l_128, l_131, l_135, l_200, l_255, l_256, l_300, l_487, l_495, l_900, l_999, l_1000, l_1700, l_1792, l_1980, l_2048, l_2475, l_2970, l_3121, l_9999, l_10000, l_11351, l_65536, l_100000, l_1000000, ↓l_m1, l_neg, nI_add, pk_mul, pk_sub, q_leT, q_leF, q_ltT, q_ltF, q_eqT, q_eqF, q_m1e, q_m1e2, q_m1lt, q_m1le, q_m1nl, q_m1nle, q_m1s, q_ix, q_jat, q_jput, q_min1, q_min2, q_max1, q_max2, q_or0, q_0or, q_bs, if_true, if_false, true_and, and_true, false_and, and_false, not_true_eq_false, not_false_eq_true, eq_self, Bool.false_eq_true, q_z0, q_z1, mr]
    · unfold X12_isOpen_b8 rch
      simp (disch := omega) only [l_0, l_1, l_2, l_3, l_4, l_5, l_6, l_7, l_8, l_9, l_10, l_11, l_12, l_13, l_14, l_15, l_16, l_17, l_18, l_19, l_20, l_21, l_22, l_23, l_24, l_25, l_26, l_27, l_30, l_31, l_32, l_40, l_48, l_57, l_59, l_60, l_61, l_62, l_64, l_83, l_90, l_97, l_99, l_100, l_108, l_115, l_122, l_123, l_127, l_128, l_131, l_135, l_200, l_255, l_256, l_300, l_487, l_495, l_900, l_999, l_1000, l_1700, l_1792, l_1980, l_2048, l_2475, l_2970, l_3121, l_9999, l_10000, l_11351, l_65536, l_100000, l_1000000, ↓l_m1, l_neg, nI_add, pk_mul, pk_sub, q_leT, q_leF, q_ltT, q_ltF, q_eqT, q_eqF, q_m1e, q_m1e2, q_m1lt, q_m1le, q_m1nl, q_m1nle, q_m1s, q_ix, q_jat, q_jput, q_min1, q_min2, q_max1, q_max2, q_or0, q_0or, q_bs, if_true, if_false, true_and, and_true, false_and, and_false, not_true_eq_false, not_false_eq_true, eq_self, Bool.false_eq_true, q_z0, q_z1]
  have rl : rch C a s < 2 ^ C 0 0 0 := opN_lt ok ax 8
  unfold X12_isOpen
  rw [show (1 : Int32) = nI 1 from rfl, q_shl1 (by omega)]
  rw [show (nI (2 ^ a), (0 : Int32)) = (nI (opN C s (2 ^ a) 0), nI 0) from rfl, it, q_bs]
  cases t : (rch C a s).testBit b with
  | true => simp (disch := omega) only [l_0, l_1, l_2, l_3, l_4, l_5, l_6, l_7, l_8, l_9, l_10, l_11, l_12, l_13, l_14, l_15, l_16, l_17, l_18, l_19, l_20, l_21, l_22, l_23, l_24, l_25, l_26, l_27, l_30, l_31, l_32, l_40, l_48, l_57, l_59, l_60, l_61, l_62, l_64, l_83, l_90, l_97, l_99, l_100, l_108, l_115, l_122, l_123, l_127, l_128, l_131, l_135, l_200, l_255, l_256, l_300, l_487, l_495, l_900, l_999, l_1000, l_1700, l_1792, l_1980, l_2048, l_2475, l_2970, l_3121, l_9999, l_10000, l_11351, l_65536, l_100000, l_1000000, ↓l_m1, l_neg, nI_add, pk_mul, pk_sub, q_leT, q_leF, q_ltT, q_ltF, q_eqT, q_eqF, q_m1e, q_m1e2, q_m1lt, q_m1le, q_m1nl, q_m1nle, q_m1s, q_ix, q_jat, q_jput, q_min1, q_min2, q_max1, q_max2, q_or0, q_0or, q_bs, if_true, if_false, true_and, and_true, false_and, and_false, not_true_eq_false, not_false_eq_true, eq_self, Bool.false_eq_true, q_z0, q_z1, q_isInT t, zb_t]
  | false => simp (disch := omega) only [l_0, l_1, l_2, l_3, l_4, l_5, l_6, l_7, l_8, l_9, l_10, l_11, l_12, l_13, l_14, l_15, l_16, l_17, l_18, l_19, l_20, l_21, l_22, l_23, l_24, l_25, l_26, l_27, l_30, l_31, l_32, l_40, l_48, l_57, l_59, l_60, l_61, l_62, l_64, l_83, l_90, l_97, l_99, l_100, l_108, l_115, l_122, l_123, l_127, l_128, l_131, l_135, l_200, l_255, l_256, l_300, l_487, l_495, l_900, l_999, l_1000, l_1700, l_1792, l_1980, l_2048, l_2475, l_2970, l_3121, l_9999, l_10000, l_11351, l_65536, l_100000, l_1000000, ↓l_m1, l_neg, nI_add, pk_mul, pk_sub, q_leT, q_leF, q_ltT, q_ltF, q_eqT, q_eqF, q_m1e, q_m1e2, q_m1lt, q_m1le, q_m1nl, q_m1nle, q_m1s, q_ix, q_jat, q_jput, q_min1, q_min2, q_max1, q_max2, q_or0, q_0or, q_bs, if_true, if_false, true_and, and_true, false_and, and_false, not_true_eq_false, not_false_eq_true, eq_self, Bool.false_eq_true, q_z0, q_z1, q_isInF t, zb_f]
theorem m_cut {F : Nat} {C : Cy} {g : Nat → Int32} {a b : Nat} (st : Int32) (ok : Ok C) (hM : MS C g) (ha : a < C 0 0 0) (hb : b < C 0 0 0) (hF : 5000 < F) : iter (X12_cut_b41 F st g (nI a) (nI b)) F (nI 1000000, nI 0) = some (nI (cutM C a b (2 ^ C 0 0 1))) := by
  have o0 := ok.1
  have p12 : 2 ^ C 0 0 1 ≤ 4096 := Nat.pow_le_pow_right (n := 2) (by omega) (show C 0 0 1 ≤ 12 by omega)
  refine iter_count (b := X12_cut_b41 F st g (nI a) (nI b)) (fun i => (nI (cutM C a b i), nI i)) (2 ^ C 0 0 1) (fun s hs => ?_) ?_ F (by omega)
  · have mo := m_open (F := F) (a := a) (b := b) (s := s) ok hM ha hb (by omega) (by omega)
    have qb := q_bits (F := F) (n := s) (by omega) (by omega)
    have pl := popc_le s
    have ml : cutM C a b s ≤ 1000000 := by
      rcases cutM_at (C := C) (a := a) (b := b) s with e | ⟨s', _, _, e⟩
      · omega
      · have := popc_le s'; omega
    rw [cutM]
    generalize cutM C a b s = M at ml
    unfold X12_cut_b41 X12_cut_j80
    cases t : (rch C a s).testBit b with
    | true =>
      rw [t, zb_t] at mo
      by_cases q : M ≤ popc s
      · simp (disch := omega) only [l_0, l_1, l_2, l_3, l_4, l_5, l_6, l_7, l_8, l_9, l_10, l_11, l_12, l_13, l_14, l_15, l_16, l_17, l_18, l_19, l_20, l_21, l_22, l_23, l_24, l_25, l_26, l_27, l_30, l_31, l_32, l_40, l_48, l_57, l_59, l_60, l_61, l_62, l_64, l_83, l_90, l_97, l_99, l_100, l_108, l_115, l_122, l_123, l_127, l_128, l_131, l_135, l_200, l_255, l_256, l_300, l_487, l_495, l_900, l_999, l_1000, l_1700, l_1792, l_1980, l_2048, l_2475, l_2970, l_3121, l_9999, l_10000, l_11351, l_65536, l_100000, l_1000000, ↓l_m1, l_neg, nI_add, pk_mul, pk_sub, q_leT, q_leF, q_ltT, q_ltF, q_eqT, q_eqF, q_m1e, q_m1e2, q_m1lt, q_m1le, q_m1nl, q_m1nle, q_m1s, q_ix, q_jat, q_jput, q_min1, q_min2, q_max1, q_max2, q_or0, q_0or, q_bs, if_true, if_false, true_and, and_true, false_and, and_false, not_true_eq_false, not_false_eq_true, eq_self, Bool.false_eq_true, q_z0, q_z1, m_0 hM, m_E hM, m_Es hM, m_Er hM, m_H hM, m_W hM, m_R0 hM, m_R1 hM, m_R2 hM, q_shl1, qb]
      · simp (disch := omega) only [l_0, l_1, l_2, l_3, l_4, l_5, l_6, l_7, l_8, l_9, l_10, l_11, l_12, l_13, l_14, l_15, l_16, l_17, l_18, l_19, l_20, l_21, l_22, l_23, l_24, l_25, l_26, l_27, l_30, l_31, l_32, l_40, l_48, l_57, l_59, l_60, l_61, l_62, l_64, l_83, l_90, l_97, l_99, l_100, l_108, l_115, l_122, l_123, l_127, l_128, l_131, l_135, l_200, l_255, l_256, l_300, l_487, l_495, l_900, l_999, l_1000, l_1700, l_1792, l_1980, l_2048, l_2475, l_2970, l_3121, l_9999, l_10000, l_11351, l_65536, l_100000, l_1000000, ↓l_m1, l_neg, nI_add, pk_mul, pk_sub, q_leT, q_leF, q_ltT, q_ltF, q_eqT, q_eqF, q_m1e, q_m1e2, q_m1lt, q_m1le, q_m1nl, q_m1nle, q_m1s, q_ix, q_jat, q_jput, q_min1, q_min2, q_max1, q_max2, q_or0, q_0or, q_bs, if_true, if_false, true_and, and_true, false_and, and_false, not_true_eq_false, not_false_eq_true, eq_self, Bool.false_eq_true, q_z0, q_z1, m_0 hM, m_E hM, m_Es hM, m_Er hM, m_H hM, m_W hM, m_R0 hM, m_R1 hM, m_R2 hM, q_shl1, qb, mo]
    | false =>
      rw [t, zb_f] at mo
      by_cases q : M ≤ popc s
      · rw [Nat.min_eq_left q]
        simp (disch := omega) only [l_0, l_1, l_2, l_3, l_4, l_5, l_6, l_7, l_8, l_9, l_10, l_11, l_12, l_13, l_14, l_15, l_16, l_17, l_18, l_19, l_20, l_21, l_22, l_23, l_24, l_25, l_26, l_27, l_30, l_31, l_32, l_40, l_48, l_57, l_59, l_60, l_61, l_62, l_64, l_83, l_90, l_97, l_99, l_100, l_108, l_115, l_122, l_123, l_127, l_128, l_131, l_135, l_200, l_255, l_256, l_300, l_487, l_495, l_900, l_999, l_1000, l_1700, l_1792, l_1980, l_2048, l_2475, l_2970, l_3121, l_9999, l_10000, l_11351, l_65536, l_100000, l_1000000, ↓l_m1, l_neg, nI_add, pk_mul, pk_sub, q_leT, q_leF, q_ltT, q_ltF, q_eqT, q_eqF, q_m1e, q_m1e2, q_m1lt, q_m1le, q_m1nl, q_m1nle, q_m1s, q_ix, q_jat, q_jput, q_min1, q_min2, q_max1, q_max2, q_or0, q_0or, q_bs, if_true, if_false, true_and, and_true, false_and, and_false, not_true_eq_false, not_false_eq_true, eq_self, Bool.false_eq_true, q_z0, q_z1, m_0 hM, m_E hM, m_Es hM, m_Er hM, m_H hM, m_W hM, m_R0 hM, m_R1 hM, m_R2 hM, q_shl1, qb]
      · rw [Nat.min_eq_right (by omega)]
        simp (disch := omega) only [l_0, l_1, l_2, l_3, l_4, l_5, l_6, l_7, l_8, l_9, l_10, l_11, l_12, l_13, l_14, l_15, l_16, l_17, l_18, l_19, l_20, l_21, l_22, l_23, l_24, l_25, l_26, l_27, l_30, l_31, l_32, l_40, l_48, l_57, l_59, l_60, l_61, l_62, l_64, l_83, l_90, l_97, l_99, l_100, l_108, l_115, l_122, l_123, l_127, l_128, l_131, l_135, l_200, l_255, l_256, l_300, l_487, l_495, l_900, l_999, l_1000, l_1700, l_1792, l_1980, l_2048, l_2475, l_2970, l_3121, l_9999, l_10000, l_11351, l_65536, l_100000, l_1000000, ↓l_m1, l_neg, nI_add, pk_mul, pk_sub, q_leT, q_leF, q_ltT, q_ltF, q_eqT, q_eqF, q_m1e, q_m1e2, q_m1lt, q_m1le, q_m1nl, q_m1nle, q_m1s, q_ix, q_jat, q_jput, q_min1, q_min2, q_max1, q_max2, q_or0, q_0or, q_bs, if_true, if_false, true_and, and_true, false_and, and_false, not_true_eq_false, not_false_eq_true, eq_self, Bool.false_eq_true, q_z0, q_z1, m_0 hM, m_E hM, m_Es hM, m_Er hM, m_H hM, m_W hM, m_R0 hM, m_R1 hM, m_R2 hM, q_shl1, qb, mo]
  · unfold X12_cut_b41
    simp (disch := omega) only [l_0, l_1, l_2, l_3, l_4, l_5, l_6, l_7, l_8, l_9, l_10, l_11, l_12, l_13, l_14, l_15, l_16, l_17, l_18, l_19, l_20, l_21, l_22, l_23, l_24, l_25, l_26, l_27, l_30, l_31, l_32, l_40, l_48, l_57, l_59, l_60, l_61, l_62, l_64, l_83, l_90, l_97, l_99, l_100, l_108, l_115, l_122, l_123, l_127, l_128, l_131, l_135, l_200, l_255, l_256, l_300, l_487, l_495, l_900, l_999, l_1000, l_1700, l_1792, l_1980, l_2048, l_2475, l_2970, l_3121, l_9999, l_10000, l_11351, l_65536, l_100000, l_1000000, ↓l_m1, l_neg, nI_add, pk_mul, pk_sub, q_leT, q_leF, q_ltT, q_ltF, q_eqT, q_eqF, q_m1e, q_m1e2, q_m1lt, q_m1le, q_m1nl, q_m1nle, q_m1s, q_ix, q_jat, q_jput, q_min1, q_min2, q_max1, q_max2, q_or0, q_0or, q_bs, if_true, if_false, true_and, and_true, false_and, and_false, not_true_eq_false, not_false_eq_true, eq_self, Bool.false_eq_true, q_z0, q_z1, m_0 hM, m_E hM, m_Es hM, m_Er hM, m_H hM, m_W hM, m_R0 hM, m_R1 hM, m_R2 hM, q_shl1]
theorem ok_cut' {F : Nat} (hF : 5000 < F) : ok_cut F Rel := fun S T v w h => by
  obtain ⟨C, ok, h8, wb, ⟨⟨c0, c1, c2, c3, c5, c6, c8, c9, c10⟩, cR, cT, cF, cX, cH, cW⟩, hM, nr, wr⟩ := Rel_city h
  have c0 : S.1 6 = nI (C 0 0 5) := c0; have c1 : S.1 7 = nI (C 0 0 6) := c1; have c2 : S.1 8 = nI (C 0 0 7) := c2; have c3 : S.1 9 = nI (C 0 0 8) := c3; have c5 : S.1 11 = nI (C 0 0 0) := c5; have c6 : S.1 12 = nI (C 0 0 1) := c6; have c8 : S.1 14 = nI (C 0 0 2) := c8; have c9 : S.1 15 = nI (C 0 0 3) := c9; have c10 : S.1 16 = nI (C 0 0 4) := c10; have cT : CT C (S.2.2.1 1) := cT; have cF : CF C (S.2.2.1 2) := cF; have cX : CX C (S.2.2.1 5) := cX; have cH : CH C (S.2.2.1 6) := cH; have cW : CW C (S.2.2.1 7) := cW
  have o0 := ok.1
  refine ask_lift h ?_
  rw [c5, c6]
  unfold X11_cut X12_cut X11_cut_j16 X12_cut_j16 X11_none X11_answer X12_refuse X12_gives
  rcases rng v (n := C 0 0 0) (by omega) with ⟨x, hx, rfl⟩ | hv
  case inr => exact ⟨m1, nI 1, by simp (disch := omega) only [l_0, l_1, l_2, l_3, l_4, l_5, l_6, l_7, l_8, l_9, l_10, l_11, l_12, l_13, l_14, l_15, l_16, l_17, l_18, l_19, l_20, l_21, l_22, l_23, l_24, l_25, l_26, l_27, l_30, l_31, l_32, l_40, l_48, l_57, l_59, l_60, l_61, l_62, l_64, l_83, l_90, l_97, l_99, l_100, l_108, l_115, l_122, l_123, l_127, l_128, l_131, l_135, l_200, l_255, l_256, l_300, l_487, l_495, l_900, l_999, l_1000, l_1700, l_1792, l_1980, l_2048, l_2475, l_2970, l_3121, l_9999, l_10000, l_11351, l_65536, l_100000, l_1000000, ↓l_m1, l_neg, nI_add, pk_mul, pk_sub, q_leT, q_leF, q_ltT, q_ltF, q_eqT, q_eqF, q_m1e, q_m1e2, q_m1lt, q_m1le, q_m1nl, q_m1nle, q_m1s, q_ix, q_jat, q_jput, q_min1, q_min2, q_max1, q_max2, q_or0, q_0or, q_bs, if_true, if_false, true_and, and_true, false_and, and_false, not_true_eq_false, not_false_eq_true, eq_self, Bool.false_eq_true, q_z0, q_z1, q_iCF hv], by simp (disch := omega) only [l_0, l_1, l_2, l_3, l_4, l_5, l_6, l_7, l_8, l_9, l_10, l_11, l_12, l_13, l_14, l_15, l_16, l_17, l_18, l_19, l_20, l_21, l_22, l_23, l_24, l_25, l_26, l_27, l_30, l_31, l_32, l_40, l_48, l_57, l_59, l_60, l_61, l_62, l_64, l_83, l_90, l_97, l_99, l_100, l_108, l_115, l_122, l_123, l_127, l_128, l_131, l_135, l_200, l_255, l_256, l_300, l_487, l_495, l_900, l_999, l_1000, l_1700, l_1792, l_1980, l_2048, l_2475, l_2970, l_3121, l_9999, l_10000, l_11351, l_65536, l_100000, l_1000000, ↓l_m1, l_neg, nI_add, pk_mul, pk_sub, q_leT, q_leF, q_ltT, q_ltF, q_eqT, q_eqF, q_m1e, q_m1e2, q_m1lt, q_m1le, q_m1nl, q_m1nle, q_m1s, q_ix, q_jat, q_jput, q_min1, q_min2, q_max1, q_max2, q_or0, q_0or, q_bs, if_true, if_false, true_and, and_true, false_and, and_false, not_true_eq_false, not_false_eq_true, eq_self, Bool.false_eq_true, q_z0, q_z1, m_iCF hM hv]⟩
  rcases rng w (n := C 0 0 0) (by omega) with ⟨y, hy, rfl⟩ | hw
  case inr => exact ⟨m1, nI 1, by simp (disch := omega) only [l_0, l_1, l_2, l_3, l_4, l_5, l_6, l_7, l_8, l_9, l_10, l_11, l_12, l_13, l_14, l_15, l_16, l_17, l_18, l_19, l_20, l_21, l_22, l_23, l_24, l_25, l_26, l_27, l_30, l_31, l_32, l_40, l_48, l_57, l_59, l_60, l_61, l_62, l_64, l_83, l_90, l_97, l_99, l_100, l_108, l_115, l_122, l_123, l_127, l_128, l_131, l_135, l_200, l_255, l_256, l_300, l_487, l_495, l_900, l_999, l_1000, l_1700, l_1792, l_1980, l_2048, l_2475, l_2970, l_3121, l_9999, l_10000, l_11351, l_65536, l_100000, l_1000000, ↓l_m1, l_neg, nI_add, pk_mul, pk_sub, q_leT, q_leF, q_ltT, q_ltF, q_eqT, q_eqF, q_m1e, q_m1e2, q_m1lt, q_m1le, q_m1nl, q_m1nle, q_m1s, q_ix, q_jat, q_jput, q_min1, q_min2, q_max1, q_max2, q_or0, q_0or, q_bs, if_true, if_false, true_and, and_true, false_and, and_false, not_true_eq_false, not_false_eq_true, eq_self, Bool.false_eq_true, q_z0, q_z1, q_iCT hx, q_iCF hw], by simp (disch := omega) only [l_0, l_1, l_2, l_3, l_4, l_5, l_6, l_7, l_8, l_9, l_10, l_11, l_12, l_13, l_14, l_15, l_16, l_17, l_18, l_19, l_20, l_21, l_22, l_23, l_24, l_25, l_26, l_27, l_30, l_31, l_32, l_40, l_48, l_57, l_59, l_60, l_61, l_62, l_64, l_83, l_90, l_97, l_99, l_100, l_108, l_115, l_122, l_123, l_127, l_128, l_131, l_135, l_200, l_255, l_256, l_300, l_487, l_495, l_900, l_999, l_1000, l_1700, l_1792, l_1980, l_2048, l_2475, l_2970, l_3121, l_9999, l_10000, l_11351, l_65536, l_100000, l_1000000, ↓l_m1, l_neg, nI_add, pk_mul, pk_sub, q_leT, q_leF, q_ltT, q_ltF, q_eqT, q_eqF, q_m1e, q_m1e2, q_m1lt, q_m1le, q_m1nl, q_m1nle, q_m1s, q_ix, q_jat, q_jput, q_min1, q_min2, q_max1, q_max2, q_or0, q_0or, q_bs, if_true, if_false, true_and, and_true, false_and, and_false, not_true_eq_false, not_false_eq_true, eq_self, Bool.false_eq_true, q_z0, q_z1, m_iCT hM, m_iCF hM hw]⟩
  by_cases e : x = y
  · exact ⟨m1, nI 7, by simp (disch := omega) only [l_0, l_1, l_2, l_3, l_4, l_5, l_6, l_7, l_8, l_9, l_10, l_11, l_12, l_13, l_14, l_15, l_16, l_17, l_18, l_19, l_20, l_21, l_22, l_23, l_24, l_25, l_26, l_27, l_30, l_31, l_32, l_40, l_48, l_57, l_59, l_60, l_61, l_62, l_64, l_83, l_90, l_97, l_99, l_100, l_108, l_115, l_122, l_123, l_127, l_128, l_131, l_135, l_200, l_255, l_256, l_300, l_487, l_495, l_900, l_999, l_1000, l_1700, l_1792, l_1980, l_2048, l_2475, l_2970, l_3121, l_9999, l_10000, l_11351, l_65536, l_100000, l_1000000, ↓l_m1, l_neg, nI_add, pk_mul, pk_sub, q_leT, q_leF, q_ltT, q_ltF, q_eqT, q_eqF, q_m1e, q_m1e2, q_m1lt, q_m1le, q_m1nl, q_m1nle, q_m1s, q_ix, q_jat, q_jput, q_min1, q_min2, q_max1, q_max2, q_or0, q_0or, q_bs, if_true, if_false, true_and, and_true, false_and, and_false, not_true_eq_false, not_false_eq_true, eq_self, Bool.false_eq_true, q_z0, q_z1, q_iCT], by simp (disch := omega) only [l_0, l_1, l_2, l_3, l_4, l_5, l_6, l_7, l_8, l_9, l_10, l_11, l_12, l_13, l_14, l_15, l_16, l_17, l_18, l_19, l_20, l_21, l_22, l_23, l_24, l_25, l_26, l_27, l_30, l_31, l_32, l_40, l_48, l_57, l_59, l_60, l_61, l_62, l_64, l_83, l_90, l_97, l_99, l_100, l_108, l_115, l_122, l_123, l_127, l_128, l_131, l_135, l_200, l_255, l_256, l_300, l_487, l_495, l_900, l_999, l_1000, l_1700, l_1792, l_1980, l_2048, l_2475, l_2970, l_3121, l_9999, l_10000, l_11351, l_65536, l_100000, l_1000000, ↓l_m1, l_neg, nI_add, pk_mul, pk_sub, q_leT, q_leF, q_ltT, q_ltF, q_eqT, q_eqF, q_m1e, q_m1e2, q_m1lt, q_m1le, q_m1nl, q_m1nle, q_m1s, q_ix, q_jat, q_jput, q_min1, q_min2, q_max1, q_max2, q_or0, q_0or, q_bs, if_true, if_false, true_and, and_true, false_and, and_false, not_true_eq_false, not_false_eq_true, eq_self, Bool.false_eq_true, q_z0, q_z1, m_iCT hM]⟩
  · have r1 := c_cut (F := F) ok cR hx hy (by omega)
    have r2 := m_cut (F := F) (T.1 0) ok hM hx hy hF
    rw [← cut_eq ok hx e] at r2
    exact ⟨nI (cutC C x y (2 ^ C 0 0 0)), nI 0, by simp (disch := omega) only [l_0, l_1, l_2, l_3, l_4, l_5, l_6, l_7, l_8, l_9, l_10, l_11, l_12, l_13, l_14, l_15, l_16, l_17, l_18, l_19, l_20, l_21, l_22, l_23, l_24, l_25, l_26, l_27, l_30, l_31, l_32, l_40, l_48, l_57, l_59, l_60, l_61, l_62, l_64, l_83, l_90, l_97, l_99, l_100, l_108, l_115, l_122, l_123, l_127, l_128, l_131, l_135, l_200, l_255, l_256, l_300, l_487, l_495, l_900, l_999, l_1000, l_1700, l_1792, l_1980, l_2048, l_2475, l_2970, l_3121, l_9999, l_10000, l_11351, l_65536, l_100000, l_1000000, ↓l_m1, l_neg, nI_add, pk_mul, pk_sub, q_leT, q_leF, q_ltT, q_ltF, q_eqT, q_eqF, q_m1e, q_m1e2, q_m1lt, q_m1le, q_m1nl, q_m1nle, q_m1s, q_ix, q_jat, q_jput, q_min1, q_min2, q_max1, q_max2, q_or0, q_0or, q_bs, if_true, if_false, true_and, and_true, false_and, and_false, not_true_eq_false, not_false_eq_true, eq_self, Bool.false_eq_true, q_z0, q_z1, q_iCT, r1], by simp (disch := omega) only [l_0, l_1, l_2, l_3, l_4, l_5, l_6, l_7, l_8, l_9, l_10, l_11, l_12, l_13, l_14, l_15, l_16, l_17, l_18, l_19, l_20, l_21, l_22, l_23, l_24, l_25, l_26, l_27, l_30, l_31, l_32, l_40, l_48, l_57, l_59, l_60, l_61, l_62, l_64, l_83, l_90, l_97, l_99, l_100, l_108, l_115, l_122, l_123, l_127, l_128, l_131, l_135, l_200, l_255, l_256, l_300, l_487, l_495, l_900, l_999, l_1000, l_1700, l_1792, l_1980, l_2048, l_2475, l_2970, l_3121, l_9999, l_10000, l_11351, l_65536, l_100000, l_1000000, ↓l_m1, l_neg, nI_add, pk_mul, pk_sub, q_leT, q_leF, q_ltT, q_ltF, q_eqT, q_eqF, q_m1e, q_m1e2, q_m1lt, q_m1le, q_m1nl, q_m1nle, q_m1s, q_ix, q_jat, q_jput, q_min1, q_min2, q_max1, q_max2, q_or0, q_0or, q_bs, if_true, if_false, true_and, and_true, false_and, and_false, not_true_eq_false, not_false_eq_true, eq_self, Bool.false_eq_true, q_z0, q_z1, m_iCT hM, r2]⟩
