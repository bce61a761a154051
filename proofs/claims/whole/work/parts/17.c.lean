/-! ===== PURE 17.c: canAttend on both sides; attends ===== -/
theorem q_xm1 (x : Nat) : nI x ^^^ m1 = nI (4294967295 ^^^ x) := by
  rw [show m1 = nI 4294967295 from by decide, fb_xorI, Nat.xor_comm]
theorem tb32 (d i : Nat) : (4294967295 ^^^ d).testBit i = (decide (i < 32) ^^ d.testBit i) := by
  rw [Nat.testBit_xor, show (4294967295 : Nat) = 2 ^ 32 - 1 from rfl, Nat.testBit_two_pow_sub_one]
theorem bit_lt {s i : Nat} (hs : s < 256) (h : s.testBit i = true) : i < 8 := by
  refine Nat.lt_of_not_le fun z => ?_
  have : s.testBit i = false := Nat.testBit_lt_two_pow (Nat.lt_of_lt_of_le hs (show 2 ^ 8 ≤ 2 ^ i from Nat.pow_le_pow_right (by omega) z))
  rw [this] at h; cases h
theorem m_can_it {F : Nat} {C : Cy} {g f : Nat → Int32} {n s : Nat} {L : Nat → Nat} (ok : Ok C) (hM : MS C g) (hf : FB C f) (hL : LineOK C (C 0 0 3) n L) (hF : 100 < F) :
    ∀ d p c u left G, p + d = n → LeftOK L n s p left → left < 256 → c < 8 → u < 2 ^ 20 → d < G → iter (X12_canAttend_b43 F g f) G (nI c, hI u, nI left) = some (if canA C L s d p c u then .inr () else .inl ()) := by
  have o0 := ok.1
  intro d
  induction d with
  | zero =>
    intro p c u left G hp hl hl2 hc hu hG
    obtain ⟨G, rfl⟩ : ∃ G', G = G' + 1 := ⟨G - 1, by omega⟩
    have l0 : left = 0 := by
      refine Nat.eq_of_testBit_eq (fun i => ?_)
      rw [Nat.zero_testBit]
      cases hb : left.testBit i with
      | false => rfl
      | true => obtain ⟨j, j1, j2, _⟩ := (hl i).mp hb; omega
    subst l0
    have b : X12_canAttend_b43 F g f (nI c, hI u, nI 0) = some (.inr (.inr ())) := by
      unfold X12_canAttend_b43; simp (disch := omega) only [l_0, l_1, l_2, l_3, l_4, l_5, l_6, l_7, l_8, l_9, l_10, l_11, l_12, l_13, l_14, l_15, l_16, l_17, l_18, l_19, l_20, l_21, l_22, l_23, l_24, l_25, l_26, l_27, l_30, l_31, l_32, l_40, l_48, l_57, l_59, l_60, l_61, l_62, l_64, l_83, l_90, l_97, l_99, l_100, l_108, l_115, l_122, l_123, l_127, l_128, l_131, l_135, l_200, l_255, l_256, l_300, l_487, l_495, l_900, l_999, l_1000, l_1700, l_1792, l_1980, l_2048, l_2475, l_2970, l_3121, l_9999, l_10000, l_11351, l_65536, l_100000, l_1000000, ↓l_m1, l_neg, nI_add, pk_mul, pk_sub, q_leT, q_leF, q_ltT, q_ltF, q_eqT, q_eqF, q_m1e, q_m1e2, q_m1lt, q_m1le, q_m1nl, q_m1nle, q_m1s, q_ix, q_jat, q_jput, q_min1, q_min2, q_max1, q_max2, q_or0, q_0or, q_bs, if_true, if_false, true_and, and_true, false_and, and_false, not_true_eq_false, not_false_eq_true, eq_self, Bool.false_eq_true, q_z0, q_z1]
    rw [iter, b]; rfl
  | succ d ih =>
    intro p c u left G hp hl hl2 hc hu hG
    rw [canA]
    cases hb : s.testBit (L p) with
    | false =>
      refine ih (p + 1) c u left G (by omega) (fun h => ?_) hl2 hc hu (by omega)
      rw [hl h]
      constructor
      · rintro ⟨j, j1, j2, j3, j4⟩
        refine ⟨j, ?_, j2, j3, j4⟩
        by_cases e : j = p
        · rw [← j3, e, hb] at j4; cases j4
        · omega
      · rintro ⟨j, j1, j2, j3, j4⟩; exact ⟨j, by omega, j2, j3, j4⟩
    | true =>
      obtain ⟨G, rfl⟩ : ∃ G', G = G' + 1 := ⟨G - 1, by omega⟩
      have hLp := (hL.2.1 p (by omega)).1
      have e1 := ok.2.2.2.1 (L p) hLp
      have sl := soon_left ok hL (show p < n by omega) hl hb
      have ms := m_soonest (F := F) (s := left) ok hM (by omega) hF
      rw [sl, oI_s] at ms
      have lb : left.testBit (L p) = true := (hl _).mpr ⟨p, Nat.le_refl _, by omega, rfl, hb⟩
      have ln : left ≠ 0 := fun z => by rw [z, Nat.zero_testBit] at lb; cases lb
      have fl := far_le C c (C 3 (L p) 0)
      have ff := hf c (C 3 (L p) 0) hc (by omega)
      cases hm : cmT C c u (L p) with
      | false =>
        have hm' : (far C c (C 3 (L p) 0) + u ≤ C 3 (L p) 1 + 1) = False := eq_false (of_decide_eq_false hm)
        have b : X12_canAttend_b43 F g f (nI c, hI u, nI left) = some (.inr (.inl ())) := by
          unfold X12_canAttend_b43; simp (disch := omega) only [l_0, l_1, l_2, l_3, l_4, l_5, l_6, l_7, l_8, l_9, l_10, l_11, l_12, l_13, l_14, l_15, l_16, l_17, l_18, l_19, l_20, l_21, l_22, l_23, l_24, l_25, l_26, l_27, l_30, l_31, l_32, l_40, l_48, l_57, l_59, l_60, l_61, l_62, l_64, l_83, l_90, l_97, l_99, l_100, l_108, l_115, l_122, l_123, l_127, l_128, l_131, l_135, l_200, l_255, l_256, l_300, l_487, l_495, l_900, l_999, l_1000, l_1700, l_1792, l_1980, l_2048, l_2475, l_2970, l_3121, l_9999, l_10000, l_11351, l_65536, l_100000, l_1000000, ↓l_m1, l_neg, nI_add, pk_mul, pk_sub, q_leT, q_leF, q_ltT, q_ltF, q_eqT, q_eqF, q_m1e, q_m1e2, q_m1lt, q_m1le, q_m1nl, q_m1nle, q_m1s, q_ix, q_jat, q_jput, q_min1, q_min2, q_max1, q_max2, q_or0, q_0or, q_bs, if_true, if_false, true_and, and_true, false_and, and_false, not_true_eq_false, not_false_eq_true, eq_self, Bool.false_eq_true, q_z0, q_z1, m_0 hM, m_E hM, m_Es hM, m_Er hM, m_H hM, m_W hM, m_R0 hM, m_R1 hM, m_R2 hM, ms, ff, hr_le, hm']
        rw [iter, b]; rfl
      | true =>
        have hm' : (far C c (C 3 (L p) 0) + u ≤ C 3 (L p) 1 + 1) = True := eq_true (of_decide_eq_true hm)
        have b : X12_canAttend_b43 F g f (nI c, hI u, nI left) = some (.inl (nI (C 3 (L p) 0), nI (C 3 (L p) 1), nI (left &&& (4294967295 ^^^ 2 ^ L p)))) := by
          unfold X12_canAttend_b43; simp (disch := omega) only [l_0, l_1, l_2, l_3, l_4, l_5, l_6, l_7, l_8, l_9, l_10, l_11, l_12, l_13, l_14, l_15, l_16, l_17, l_18, l_19, l_20, l_21, l_22, l_23, l_24, l_25, l_26, l_27, l_30, l_31, l_32, l_40, l_48, l_57, l_59, l_60, l_61, l_62, l_64, l_83, l_90, l_97, l_99, l_100, l_108, l_115, l_122, l_123, l_127, l_128, l_131, l_135, l_200, l_255, l_256, l_300, l_487, l_495, l_900, l_999, l_1000, l_1700, l_1792, l_1980, l_2048, l_2475, l_2970, l_3121, l_9999, l_10000, l_11351, l_65536, l_100000, l_1000000, ↓l_m1, l_neg, nI_add, pk_mul, pk_sub, q_leT, q_leF, q_ltT, q_ltF, q_eqT, q_eqF, q_m1e, q_m1e2, q_m1lt, q_m1le, q_m1nl, q_m1nle, q_m1s, q_ix, q_jat, q_jput, q_min1, q_min2, q_max1, q_max2, q_or0, q_0or, q_bs, if_true, if_false, true_and, and_true, false_and, and_false, not_true_eq_false, not_false_eq_true, eq_self, Bool.false_eq_true, q_z0, q_z1, m_0 hM, m_E hM, m_Es hM, m_Er hM, m_H hM, m_W hM, m_R0 hM, m_R1 hM, m_R2 hM, ms, ff, hr_le, hm', q_shl1, q_xm1, fa_and]
        rw [iter, b, hI_s (C 3 (L p) 1)]
        have le : left &&& (4294967295 ^^^ 2 ^ L p) ≤ left := Nat.and_le_left
        refine ih (p + 1) (C 3 (L p) 0) (C 3 (L p) 1 + 1) _ G (by omega) (fun h => ?_) (by omega) (by omega) (by omega) (by omega)
        rw [Nat.testBit_and, tb32, Nat.testBit_two_pow, Bool.and_eq_true]
        constructor
        · rintro ⟨x1, x2⟩
          obtain ⟨j, j1, j2, j3, j4⟩ := (hl h).mp x1
          refine ⟨j, ?_, j2, j3, j4⟩
          by_cases e : j = p
          · exfalso
            have h8 := bit_lt hl2 x1
            rw [decide_eq_true (show h < 32 by omega), decide_eq_true (show L p = h by rw [← e]; exact j3)] at x2
            cases x2
          · omega
        · rintro ⟨j, j1, j2, j3, j4⟩
          have x1 : left.testBit h = true := (hl h).mpr ⟨j, by omega, j2, j3, j4⟩
          have h8 := bit_lt hl2 x1
          refine ⟨x1, ?_⟩
          have ne : ¬ L p = h := fun e => by
            have := L_inj hL (show p < n by omega) j2 (e.trans j3.symm)
            omega
          rw [decide_eq_true (show h < 32 by omega), decide_eq_false ne]; rfl
def att (C : Cy) (L : Nat → Nat) (n x s : Nat) : Bool := canA C L s n 0 (C 2 x 0) (C 0 0 8 + C 2 x 1)
theorem c_canAttend {F : Nat} {C : Cy} {df xf hf lf : Nat → Int32} {n s x : Nat} {L : Nat → Nat} (ok : Ok C) (hD : CF C df) (hX : CX C xf) (hH : CH C hf) (hL : LineOK C (C 0 0 3) n L) (hl : ∀ j, j < n → lf j = nI (L j)) (hs : s < 2 ^ 31) (hx : x < C 0 0 2) (hF : 100 < F) : X4_canAttend F (nI n) lf (nI (C 0 0 8)) df (nI (C 0 0 2)) xf (nI (C 0 0 3)) hf (nI x) (nI s) = some (zb (att C L n x s)) := by
  have o0 := ok.1
  have e1 := ok.2.2.1 x hx
  have n8 := hL.1
  have it := c_can_it (F := F) (xf := xf) ok hD hH hL hl hs n 0 (C 2 x 0) (C 0 0 8 + C 2 x 1) F (by omega) (by omega) (by omega) (by omega)
  have r0 : X7_get 35 5 (nI (C 0 0 2)) xf (nI x) 0 = some (nI (C 2 x 0)) := by
    have := q_get (n := 35) (w := 5) (c := 0) (f := xf) hx (by omega) (by omega) (by omega)
    rw [hX x 0 hx (by omega)] at this; exact this
  have r1 : X4_stoodAt (nI (C 0 0 8)) (nI (C 0 0 2)) xf (nI x) = some (hI (C 0 0 8 + C 2 x 1)) := by
    have := q_get (n := 35) (w := 5) (c := 1) (f := xf) hx (by omega) (by omega) (by omega)
    rw [hX x 1 hx (by omega)] at this
    unfold X4_stoodAt
    rw [show X7_get 35 5 (nI (C 0 0 2)) xf (nI x) 1 = some (nI (C 2 x 1)) from this, q_bs, nI_add]; rfl
  unfold X4_canAttend
  rw [r0, q_bs, r1, q_bs, show (0 : Int32) = nI 0 from rfl, it, q_bs]
  unfold att
  cases canA C L s n 0 (C 2 x 0) (C 0 0 8 + C 2 x 1) <;> rfl
theorem left_0 {C : Cy} {n s : Nat} {L : Nat → Nat} (hL : LineOK C (C 0 0 3) n L) (hs : sub s (openS C) = true) : LeftOK L n s 0 s := by
  intro h
  constructor
  · intro hb
    have e := of_decide_eq_true hs
    have o : (openS C).testBit h = true := by
      have : (s &&& openS C).testBit h = true := by rw [e]; exact hb
      rw [Nat.testBit_and, Bool.and_eq_true] at this; exact this.2
    unfold openS at o
    rw [setOf_bit, Bool.and_eq_true] at o
    obtain ⟨j, hj, hl⟩ := hL.2.2.2 h (of_decide_eq_true o.1) o.2
    exact ⟨j, Nat.zero_le _, hj, hl, hb⟩
  · rintro ⟨j, _, _, _, h4⟩; exact h4
theorem m_canAttend {F : Nat} {C : Cy} {g f : Nat → Int32} {n s x : Nat} {L : Nat → Nat} (ok : Ok C) (hM : MS C g) (hf : FB C f) (hL : LineOK C (C 0 0 3) n L) (hs : s < 256) (hsub : sub s (openS C) = true) (hx : x < C 0 0 2) (hF : 100 < F) : X12_canAttend F g f (nI x) (nI s) = some (zb (att C L n x s)) := by
  have o0 := ok.1
  have e1 := ok.2.2.1 x hx
  have n8 := hL.1
  have it := m_can_it (F := F) (s := s) ok hM hf hL hF n 0 (C 2 x 0) (C 0 0 8 + C 2 x 1) s F (by omega) (left_0 hL hsub) hs (by omega) (by omega) (by omega)
  have y8 : g 8 = nI (C 0 0 8) := hM.1 8 (by omega)
  unfold X12_canAttend X12_canAttend_j35
  by_cases q : C 2 x 1 = 0
  · have k : X12_extraOf g (nI x) 0 = some (nI (C 2 x 0)) := m_Es hM hx (by omega) q
    have dm : jrem (nI (C 2 x 0)) 10 = nI (C 2 x 0) := by rw [show (10 : Int32) = nI 10 from rfl, q_rem (by omega) (by omega) (by omega), Nat.mod_eq_of_lt (by omega)]
    rw [q, Nat.add_zero] at it
    rw [k, q_bs, if_pos (show ¬ (10 : Int32) = 0 by decide), if_pos (show ix 8 3097 = true by decide), m_dsT hM hx (by omega) q (by omega), q_bs, if_neg (show ¬ nI 1 = (0 : Int32) by decide), dm, show jat g 8 = nI (C 0 0 8) from y8]
    rw [show nI (C 0 0 8) + 0 - 1 = hI (C 0 0 8) from (by rw [show (0 : Int32) = nI 0 from rfl, nI_add]; rfl), it, q_bs]
    unfold att
    rw [q, Nat.add_zero]
    cases canA C L s n 0 (C 2 x 0) (C 0 0 8) <;> rfl
  · have k : X12_extraOf g (nI x) 0 = some (nI (10 + C 2 x 0)) := m_Er hM hx (by omega) q
    have k1 : X12_extraOf g (nI x) 1 = some (nI (C 2 x 1)) := m_E (c := 1) hM hx (by omega) (by omega) (by omega)
    have dm : jrem (nI (10 + C 2 x 0)) 10 = nI (C 2 x 0) := by rw [show (10 : Int32) = nI 10 from rfl, q_rem (by omega) (by omega) (by omega)]; congr 1; omega
    rw [k, q_bs, if_pos (show ¬ (10 : Int32) = 0 by decide), if_pos (show ix 8 3097 = true by decide), m_dsF hM hx (by omega) q (by omega), q_bs, if_pos (show nI 0 = (0 : Int32) from rfl), k1, q_bs, dm, show jat g 8 = nI (C 0 0 8) from y8]
    rw [show nI (C 0 0 8) + nI (C 2 x 1) - 1 = hI (C 0 0 8 + C 2 x 1) from (by rw [nI_add]; rfl), it, q_bs]
    unfold att
    cases canA C L s n 0 (C 2 x 0) (C 0 0 8 + C 2 x 1) <;> rfl
