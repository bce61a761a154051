/-! ===== PURE 16.b: falls ===== -/
def ftm (s o k i : Nat) : Nat := chs s (k + i) (k + i) * o ^ (k + i) * (16 - o) ^ (s - (k + i))
def fsum (s o k : Nat) : Nat := fb_sm (ftm s o k) (s + 1 - k)
def dpS (o : Nat) (D : Nat → Nat) : Nat → Nat := fun i => D i * (16 - o) + (if i = 0 then 0 else D (i - 1) * o)
def dpN (o : Nat) : Nat → Nat → Nat
  | 0 => fun i => if i = 0 then 1 else 0
  | x + 1 => dpS o (dpN o x)
def msum (s o k : Nat) : Nat := fb_sm (fun i => dpN o s (k + i)) (8 - k)
theorem fm_eq : ∀ s, s < 8 → ∀ o, o < 17 → ∀ k, k < 8 → fsum s o k = msum s o k ∧ fsum s o k < 1099511627776 := by decide +kernel
theorem c_fsum {F s o k : Nat} {a : Int32} {t b : Int64} {e : Int32} {xf : Nat → Int32} (hs : s < 8) (ho : o ≤ 16) (hk : k < 8) (hF : 2000 < F) : iter (X11_falls_b43 F a t b (nI o) e xf (nI s)) F (0, nI k) = some (lN (fsum s o k)) := by
  refine iter_count (b := X11_falls_b43 F a t b (nI o) e xf (nI s)) (fun i => (lN (fb_sm (ftm s o k) i), nI (k + i))) (s + 1 - k) (fun i hi => ?_) ?_ F (by omega)
  · have c1 := c_choices (F := F) (s := s) (m := k + i) hs (by omega) hF
    have e1 : (nI o).toInt64 = lN o := nI_l (by omega)
    have e2 : (nI (16 - o)).toInt64 = lN (16 - o) := nI_l (by omega)
    have c2 := c_power (F := F) (b := o) (e := k + i) (by omega) hF
    have c3 := c_power (F := F) (b := 16 - o) (e := s - (k + i)) (by omega) hF
    have e3 : fb_sm (ftm s o k) i + chs s (k + i) (k + i) * o ^ (k + i) * (16 - o) ^ (s - (k + i)) = fb_sm (ftm s o k) (i + 1) := rfl
    unfold X11_falls_b43
    rw [show k + (i + 1) = k + i + 1 by omega]
    simp (disch := omega) only [l_0, l_1, l_2, l_3, l_4, l_5, l_6, l_7, l_8, l_9, l_10, l_11, l_12, l_13, l_14, l_15, l_16, l_17, l_18, l_19, l_20, l_21, l_22, l_23, l_24, l_25, l_26, l_27, l_30, l_31, l_32, l_40, l_48, l_57, l_59, l_60, l_61, l_62, l_64, l_83, l_90, l_97, l_99, l_100, l_108, l_115, l_122, l_123, l_127, l_128, l_131, l_135, l_200, l_255, l_256, l_300, l_487, l_495, l_900, l_999, l_1000, l_1700, l_1792, l_1980, l_2048, l_2475, l_2970, l_3121, l_9999, l_10000, l_11351, l_65536, l_100000, l_1000000, ↓l_m1, l_neg, nI_add, pk_mul, pk_sub, q_leT, q_leF, q_ltT, q_ltF, q_eqT, q_eqF, q_m1e, q_m1e2, q_m1lt, q_m1le, q_m1nl, q_m1nle, q_m1s, q_ix, q_jat, q_jput, q_min1, q_min2, q_max1, q_max2, q_or0, q_0or, q_bs, if_true, if_false, true_and, and_true, false_and, and_false, not_true_eq_false, not_false_eq_true, eq_self, Bool.false_eq_true, q_z0, q_z1, c1, e1, e2, c2, c3, lN_mul, lN_add, e3]
  · unfold X11_falls_b43
    simp (disch := omega) only [l_0, l_1, l_2, l_3, l_4, l_5, l_6, l_7, l_8, l_9, l_10, l_11, l_12, l_13, l_14, l_15, l_16, l_17, l_18, l_19, l_20, l_21, l_22, l_23, l_24, l_25, l_26, l_27, l_30, l_31, l_32, l_40, l_48, l_57, l_59, l_60, l_61, l_62, l_64, l_83, l_90, l_97, l_99, l_100, l_108, l_115, l_122, l_123, l_127, l_128, l_131, l_135, l_200, l_255, l_256, l_300, l_487, l_495, l_900, l_999, l_1000, l_1700, l_1792, l_1980, l_2048, l_2475, l_2970, l_3121, l_9999, l_10000, l_11351, l_65536, l_100000, l_1000000, ↓l_m1, l_neg, nI_add, pk_mul, pk_sub, q_leT, q_leF, q_ltT, q_ltF, q_eqT, q_eqF, q_m1e, q_m1e2, q_m1lt, q_m1le, q_m1nl, q_m1nle, q_m1s, q_ix, q_jat, q_jput, q_min1, q_min2, q_max1, q_max2, q_or0, q_0or, q_bs, if_true, if_false, true_and, and_true, false_and, and_false, not_true_eq_false, not_false_eq_true, eq_self, Bool.false_eq_true, q_z0, q_z1]
    rfl
def LR (D : Nat → Nat) (f : Nat → Int64) : Prop := ∀ i, i < 8 → f i = lN (D i)
theorem jl_e (f : Nat → Int64) {k : Nat} (x : Int64) (h : k < 2 ^ 31) : jputL f (nI k) x = vp_updL f k x := jputL_nI f x h
theorem m_dpS {F o : Nat} {s v1 v2 : Int32} {t b v3 : Int64} {v5 : Int32} {g : Nat → Int32} {f : Nat → Int64} {D : Nat → Nat} (ho : o ≤ 16) (h7 : g 7 = nI o) (hf : LR D f) (hF : 2000 < F) : ∃ f2, iter (X12_falls_b81 F s t b g v1 v2 v3 v5) F (7, f) = some f2 ∧ LR (dpS o D) f2 := by
  have e1 : (nI o).toInt64 = lN o := nI_l (by omega)
  have e2 : (nI (16 - o)).toInt64 = lN (16 - o) := nI_l (by omega)
  refine it_rel (b := X12_falls_b81 F s t b g v1 v2 v3 v5) 8 (fun j s => ∃ f, s = (if j < 8 then nI (7 - j) else m1, f) ∧ ∀ i, i < 8 → f i = lN (if 8 - j ≤ i then dpS o D i else D i)) (fun f2 => LR (dpS o D) f2) (fun j s' hj hs => ?_) (fun s' hs => ?_) ⟨f, rfl, fun i hi => by rw [if_neg (by omega)]; exact hf i hi⟩ (by omega)
  · obtain ⟨f1, rfl, h1⟩ := hs
    rw [if_pos hj]
    have g1 : f1 (7 - j) = lN (D (7 - j)) := by rw [h1 _ (by omega), if_neg (by omega)]
    refine Or.inl ⟨(if j + 1 < 8 then nI (7 - (j + 1)) else m1, vp_updL f1 (7 - j) (lN (dpS o D (7 - j)))), ?_, _, rfl, fun i hi => ?_⟩
    · unfold X12_falls_b81 X12_falls_j138
      by_cases q : j = 7
      · subst q
        have d0 : dpS o D (7 - 7) = D 0 * (16 - o) + 0 := rfl
        have g1' : f1 0 = lN (D 0) := g1
        have em2 : (if 7 + 1 < 8 then nI (7 - (7 + 1)) else m1) = m1 := if_neg (by omega)
        rw [d0, em2]
        have em : nI 0 + m1 = m1 := by decide
        have ez : (0 : Int64) = lN 0 := rfl
        simp (disch := omega) only [l_0, l_1, l_2, l_3, l_4, l_5, l_6, l_7, l_8, l_9, l_10, l_11, l_12, l_13, l_14, l_15, l_16, l_17, l_18, l_19, l_20, l_21, l_22, l_23, l_24, l_25, l_26, l_27, l_30, l_31, l_32, l_40, l_48, l_57, l_59, l_60, l_61, l_62, l_64, l_83, l_90, l_97, l_99, l_100, l_108, l_115, l_122, l_123, l_127, l_128, l_131, l_135, l_200, l_255, l_256, l_300, l_487, l_495, l_900, l_999, l_1000, l_1700, l_1792, l_1980, l_2048, l_2475, l_2970, l_3121, l_9999, l_10000, l_11351, l_65536, l_100000, l_1000000, ↓l_m1, l_neg, nI_add, pk_mul, pk_sub, q_leT, q_leF, q_ltT, q_ltF, q_eqT, q_eqF, q_m1e, q_m1e2, q_m1lt, q_m1le, q_m1nl, q_m1nle, q_m1s, q_ix, q_jat, q_jput, q_min1, q_min2, q_max1, q_max2, q_or0, q_0or, q_bs, if_true, if_false, true_and, and_true, false_and, and_false, not_true_eq_false, not_false_eq_true, eq_self, Bool.false_eq_true, q_z0, q_z1, h7, g1', e1, e2, lN_mul, lN_add, jl_e, em, ez, show 7 - 7 = 0 from rfl]
      · have g2 : f1 (7 - j - 1) = lN (D (7 - j - 1)) := by rw [h1 _ (by omega), if_neg (by omega)]
        have d0 : dpS o D (7 - j) = D (7 - j) * (16 - o) + D (7 - j - 1) * o := by unfold dpS; rw [if_neg (by omega)]
        have ed : nI (7 - j) + m1 = nI (7 - (j + 1)) := by rw [q_dec (by omega)]; congr 1
        have ep2 : (if j + 1 < 8 then nI (7 - (j + 1)) else m1) = nI (7 - (j + 1)) := if_pos (by omega)
        rw [d0, ep2]
        simp (disch := omega) only [l_0, l_1, l_2, l_3, l_4, l_5, l_6, l_7, l_8, l_9, l_10, l_11, l_12, l_13, l_14, l_15, l_16, l_17, l_18, l_19, l_20, l_21, l_22, l_23, l_24, l_25, l_26, l_27, l_30, l_31, l_32, l_40, l_48, l_57, l_59, l_60, l_61, l_62, l_64, l_83, l_90, l_97, l_99, l_100, l_108, l_115, l_122, l_123, l_127, l_128, l_131, l_135, l_200, l_255, l_256, l_300, l_487, l_495, l_900, l_999, l_1000, l_1700, l_1792, l_1980, l_2048, l_2475, l_2970, l_3121, l_9999, l_10000, l_11351, l_65536, l_100000, l_1000000, ↓l_m1, l_neg, nI_add, pk_mul, pk_sub, q_leT, q_leF, q_ltT, q_ltF, q_eqT, q_eqF, q_m1e, q_m1e2, q_m1lt, q_m1le, q_m1nl, q_m1nle, q_m1s, q_ix, q_jat, q_jput, q_min1, q_min2, q_max1, q_max2, q_or0, q_0or, q_bs, if_true, if_false, true_and, and_true, false_and, and_false, not_true_eq_false, not_false_eq_true, eq_self, Bool.false_eq_true, q_z0, q_z1, h7, g1, g2, e1, e2, lN_mul, lN_add, jl_e, ed]
    · by_cases e : i = 7 - j
      · rw [e, pk_uLs, if_pos (by omega)]
      · rw [pk_uLn e, h1 i hi]
        by_cases q : 8 - j ≤ i
        · rw [if_pos q, if_pos (by omega)]
        · rw [if_neg q, if_neg (by omega)]
  · obtain ⟨f1, rfl, h1⟩ := hs
    rw [if_neg (by omega)]
    refine ⟨f1, ?_, fun i hi => by rw [h1 i hi, if_pos (by omega)]⟩
    unfold X12_falls_b81
    rw [if_pos (show (m1, f1).1 < (0 : Int32) from (by show m1 < 0; decide))]
theorem m_dpN {F o n : Nat} {s v1 : Int32} {t b : Int64} {g : Nat → Int32} {f : Nat → Int64} (ho : o ≤ 16) (hn : n < 8) (h7 : g 7 = nI o) (hf : LR (dpN o 0) f) (hF : 2000 < F) : ∃ f2, iter (X12_falls_b71 F s t b g v1 (nI n)) F (1, 0, f) = some (lN (16 ^ n), f2) ∧ LR (dpN o n) f2 := by
  obtain ⟨e, h1, f2, rfl, h2⟩ := it_rel (b := X12_falls_b71 F s t b g v1 (nI n)) n (fun i s => ∃ f, s = (lN (16 ^ i), nI i, f) ∧ LR (dpN o i) f) (fun e => ∃ f, e = (lN (16 ^ n), f) ∧ LR (dpN o n) f) (fun i s' hi hs => by
      obtain ⟨f1, rfl, h1⟩ := hs
      obtain ⟨f2, a1, a2⟩ := m_dpS (F := F) (s := s) (v1 := v1) (v2 := nI n) (t := t) (b := b) (v3 := lN (16 ^ i)) (v5 := nI i) ho h7 h1 hF
      refine Or.inl ⟨(lN (16 ^ (i + 1)), nI (i + 1), f2), ?_, f2, rfl, a2⟩
      have a1' : iter (X12_falls_b81 F s t b g v1 (nI n) (lN (16 ^ i)) (nI i)) F (nI 7, f1) = some f2 := a1
      have ep : lN (16 ^ i) * 16 = lN (16 ^ (i + 1)) := by rw [show (16 : Int64) = lN 16 from rfl, lN_mul, Nat.pow_succ]
      unfold X12_falls_b71
      simp (disch := omega) only [l_0, l_1, l_2, l_3, l_4, l_5, l_6, l_7, l_8, l_9, l_10, l_11, l_12, l_13, l_14, l_15, l_16, l_17, l_18, l_19, l_20, l_21, l_22, l_23, l_24, l_25, l_26, l_27, l_30, l_31, l_32, l_40, l_48, l_57, l_59, l_60, l_61, l_62, l_64, l_83, l_90, l_97, l_99, l_100, l_108, l_115, l_122, l_123, l_127, l_128, l_131, l_135, l_200, l_255, l_256, l_300, l_487, l_495, l_900, l_999, l_1000, l_1700, l_1792, l_1980, l_2048, l_2475, l_2970, l_3121, l_9999, l_10000, l_11351, l_65536, l_100000, l_1000000, ↓l_m1, l_neg, nI_add, pk_mul, pk_sub, q_leT, q_leF, q_ltT, q_ltF, q_eqT, q_eqF, q_m1e, q_m1e2, q_m1lt, q_m1le, q_m1nl, q_m1nle, q_m1s, q_ix, q_jat, q_jput, q_min1, q_min2, q_max1, q_max2, q_or0, q_0or, q_bs, if_true, if_false, true_and, and_true, false_and, and_false, not_true_eq_false, not_false_eq_true, eq_self, Bool.false_eq_true, q_z0, q_z1, a1', ep]) (fun s' hs => by
      obtain ⟨f1, rfl, h1⟩ := hs
      refine ⟨_, ?_, f1, rfl, h1⟩
      unfold X12_falls_b71
      simp (disch := omega) only [l_0, l_1, l_2, l_3, l_4, l_5, l_6, l_7, l_8, l_9, l_10, l_11, l_12, l_13, l_14, l_15, l_16, l_17, l_18, l_19, l_20, l_21, l_22, l_23, l_24, l_25, l_26, l_27, l_30, l_31, l_32, l_40, l_48, l_57, l_59, l_60, l_61, l_62, l_64, l_83, l_90, l_97, l_99, l_100, l_108, l_115, l_122, l_123, l_127, l_128, l_131, l_135, l_200, l_255, l_256, l_300, l_487, l_495, l_900, l_999, l_1000, l_1700, l_1792, l_1980, l_2048, l_2475, l_2970, l_3121, l_9999, l_10000, l_11351, l_65536, l_100000, l_1000000, ↓l_m1, l_neg, nI_add, pk_mul, pk_sub, q_leT, q_leF, q_ltT, q_ltF, q_eqT, q_eqF, q_m1e, q_m1e2, q_m1lt, q_m1le, q_m1nl, q_m1nle, q_m1s, q_ix, q_jat, q_jput, q_min1, q_min2, q_max1, q_max2, q_or0, q_0or, q_bs, if_true, if_false, true_and, and_true, false_and, and_false, not_true_eq_false, not_false_eq_true, eq_self, Bool.false_eq_true, q_z0, q_z1]) (s0 := (1, 0, f)) ⟨f, rfl, hf⟩ (show n < F by omega)
  exact ⟨f2, h1, h2⟩
theorem ok_falls' {F : Nat} (hF : 2000 < F) : ok_falls F Rel := fun S T v h => by
  obtain ⟨C, ok, h8, wb, ⟨⟨c0, c1, c2, c3, c5, c6, c8, c9, c10⟩, cR, cT, cF, cX, cH, cW⟩, hM, nr, wr⟩ := Rel_city h
  have c0 : S.1 6 = nI (C 0 0 5) := c0; have c1 : S.1 7 = nI (C 0 0 6) := c1; have c2 : S.1 8 = nI (C 0 0 7) := c2; have c3 : S.1 9 = nI (C 0 0 8) := c3; have c5 : S.1 11 = nI (C 0 0 0) := c5; have c6 : S.1 12 = nI (C 0 0 1) := c6; have c8 : S.1 14 = nI (C 0 0 2) := c8; have c9 : S.1 15 = nI (C 0 0 3) := c9; have c10 : S.1 16 = nI (C 0 0 4) := c10; have cT : CT C (S.2.2.1 1) := cT; have cF : CF C (S.2.2.1 2) := cF; have cX : CX C (S.2.2.1 5) := cX; have cH : CH C (S.2.2.1 6) := cH; have cW : CW C (S.2.2.1 7) := cW
  have o0 := ok.1
  have efr := h.2.1
  unfold R_fr at efr
  have y7 : T.2.2.1 0 7 = nI (C 0 0 7) := hM.1 7 (by omega)
  have y2 : T.2.2.1 0 2 = nI (C 0 0 2) := hM.1 2 (by omega)
  have lift : ∀ (x : Option (Int32 × Int32 × Int64 × Int64)) (y : Option (Int32 × Int32 × Int64 × Int64 × (Nat → Int64))), (∃ r st p q f, x = some (r, st, p, q) ∧ y = some (r, st, p, q, f)) → ∃ (r : Int32) (S2 T2 : vS), x.map (fun u => (u.1, (sJ (sJ (sI S 5 u.2.1) 0 u.2.2.1) 1 u.2.2.2))) = some (r, S2) ∧ y.map (fun u => (u.1, (sB (sJ (sJ (sI T 0 u.2.1) 0 u.2.2.1) 1 u.2.2.2.1) 2 u.2.2.2.2))) = some (r, T2) ∧ Rel S2 T2 := by
    rintro x y ⟨r, st, p, q, f, rfl, rfl⟩
    refine ⟨r, _, _, rfl, rfl, ?_⟩
    have r1 := Rel_fr (x := p) (y := q) h st
    refine Rel_ask r1 ⟨fun _ _ => rfl, ⟨rfl, rfl⟩, fun _ _ => rfl, fun _ _ => rfl⟩ ⟨fun _ _ => rfl, ⟨rfl, rfl⟩, fun _ _ _ => rfl, fun _ _ => rfl, fun _ _ _ => rfl, rfl⟩ ⟨fun _ _ _ => rfl, fun _ _ => rfl, rfl⟩ ⟨fun _ _ => rfl, fun _ _ => rfl⟩ rfl
  unfold xx_falls xm_falls
  rw [c2, c8]
  refine lift _ _ ?_
  unfold X11_falls X12_falls X11_refused X11_accepted
  rcases rngw v (a := 0) (b := 7) (by omega) (by omega) with ⟨k, h1, h2, rfl⟩ | hv
  case inr =>
    have f := q_fF (show (0 : Int64) = (nI 0).toInt64 by decide) (show (7 : Int64) = (nI 7).toInt64 by decide) hv
    exact ⟨nI 0, nI 1, S.2.1 0, S.2.1 1, T.2.2.2 2, by simp (disch := omega) only [l_0, l_1, l_2, l_3, l_4, l_5, l_6, l_7, l_8, l_9, l_10, l_11, l_12, l_13, l_14, l_15, l_16, l_17, l_18, l_19, l_20, l_21, l_22, l_23, l_24, l_25, l_26, l_27, l_30, l_31, l_32, l_40, l_48, l_57, l_59, l_60, l_61, l_62, l_64, l_83, l_90, l_97, l_99, l_100, l_108, l_115, l_122, l_123, l_127, l_128, l_131, l_135, l_200, l_255, l_256, l_300, l_487, l_495, l_900, l_999, l_1000, l_1700, l_1792, l_1980, l_2048, l_2475, l_2970, l_3121, l_9999, l_10000, l_11351, l_65536, l_100000, l_1000000, ↓l_m1, l_neg, nI_add, pk_mul, pk_sub, q_leT, q_leF, q_ltT, q_ltF, q_eqT, q_eqF, q_m1e, q_m1e2, q_m1lt, q_m1le, q_m1nl, q_m1nle, q_m1s, q_ix, q_jat, q_jput, q_min1, q_min2, q_max1, q_max2, q_or0, q_0or, q_bs, if_true, if_false, true_and, and_true, false_and, and_false, not_true_eq_false, not_false_eq_true, eq_self, Bool.false_eq_true, q_z0, q_z1, q_wF hv], by rw [efr.1, efr.2]; simp (disch := omega) only [l_0, l_1, l_2, l_3, l_4, l_5, l_6, l_7, l_8, l_9, l_10, l_11, l_12, l_13, l_14, l_15, l_16, l_17, l_18, l_19, l_20, l_21, l_22, l_23, l_24, l_25, l_26, l_27, l_30, l_31, l_32, l_40, l_48, l_57, l_59, l_60, l_61, l_62, l_64, l_83, l_90, l_97, l_99, l_100, l_108, l_115, l_122, l_123, l_127, l_128, l_131, l_135, l_200, l_255, l_256, l_300, l_487, l_495, l_900, l_999, l_1000, l_1700, l_1792, l_1980, l_2048, l_2475, l_2970, l_3121, l_9999, l_10000, l_11351, l_65536, l_100000, l_1000000, ↓l_m1, l_neg, nI_add, pk_mul, pk_sub, q_leT, q_leF, q_ltT, q_ltF, q_eqT, q_eqF, q_m1e, q_m1e2, q_m1lt, q_m1le, q_m1nl, q_m1nle, q_m1s, q_ix, q_jat, q_jput, q_min1, q_min2, q_max1, q_max2, q_or0, q_0or, q_bs, if_true, if_false, true_and, and_true, false_and, and_false, not_true_eq_false, not_false_eq_true, eq_self, Bool.false_eq_true, q_z0, q_z1, f, q_isn]⟩
  have f := q_fT (k := k) (show (0 : Int64) = (nI 0).toInt64 by decide) (show (7 : Int64) = (nI 7).toInt64 by decide) h1 h2 (by omega)
  have ol : setOf (onr C) (C 0 0 2) < 128 := by
    have a := setOf_lt (onr C) (C 0 0 2)
    have b : 2 ^ C 0 0 2 ≤ 2 ^ 7 := Nat.pow_le_pow_right (by omega) (by omega)
    omega
  have pe : popc (setOf (onr C) (C 0 0 2)) = fb_ct (onr C) (C 0 0 2) := popc_setOf _ (by omega)
  have pl := fb_ct_le (onr C) (C 0 0 2)
  have r1 := c_onRoads (F := F) ok cX (by omega)
  have r2 := m_onRoads (F := F) ok hM (by omega)
  have p1 := q_popc (n := setOf (onr C) (C 0 0 2)) (by omega)
  have p2 := q_bits (n := setOf (onr C) (C 0 0 2)) (F := F) (by omega) (by omega)
  rw [pe] at p1 p2
  generalize fb_ct (onr C) (C 0 0 2) = z at pl p1 p2
  have fe := fm_eq (C 0 0 2 - z) (by omega) (C 0 0 7) (by omega) k (by omega)
  have i1 : iter (X11_falls_b43 F (S.1 5) (S.2.1 0) (S.2.1 1) (nI (C 0 0 7)) (nI (C 0 0 2)) (S.2.2.1 5) (nI (C 0 0 2 - z))) F (0, nI k) = some (lN (fsum (C 0 0 2 - z) (C 0 0 7) k)) := c_fsum (by omega) (by omega) (by omega) hF
  have pw : X11_power F 16 (nI (C 0 0 2 - z)) = some (lN (16 ^ (C 0 0 2 - z))) := c_power (F := F) (b := 16) (e := C 0 0 2 - z) (by omega) hF
  have pb : 16 ^ (C 0 0 2 - z) ≤ 16 ^ 7 := Nat.pow_le_pow_right (by omega) (by omega)
  have pp : 0 < 16 ^ (C 0 0 2 - z) := Nat.lt_of_lt_of_le (show 0 < 16 ^ 0 by decide) (Nat.pow_le_pow_right (by omega) (Nat.zero_le _))
  have cf := c_frac (F := F) (o1 := S.2.1 0) (o2 := S.2.1 1) (a := fsum (C 0 0 2 - z) (C 0 0 7) k) (b := 16 ^ (C 0 0 2 - z)) (by omega) pp (by omega) hF
  have mf := m_frac (F := F) (s := T.1 0) (o1 := T.2.1 0) (o2 := T.2.1 1) (a := fsum (C 0 0 2 - z) (C 0 0 7) k) (b := 16 ^ (C 0 0 2 - z)) (by omega) pp (by omega) hF
  obtain ⟨f1, j1, j2⟩ : ∃ f1, iter (X12_falls_b38 F (T.1 0) (T.2.1 0) (T.2.1 1) (T.2.2.1 0) (nI k) (nI (C 0 0 2 - z)) 1) F (nI 0, T.2.2.2 2) = some f1 ∧ LR (dpN (C 0 0 7) 0) f1 := by
    refine it_rel (b := X12_falls_b38 F (T.1 0) (T.2.1 0) (T.2.1 1) (T.2.2.1 0) (nI k) (nI (C 0 0 2 - z)) 1) 8 (fun i s => ∃ f, s = (nI i, f) ∧ ∀ j, j < i → f j = lN (if j = 0 then 1 else 0)) (fun f => LR (dpN (C 0 0 7) 0) f) (fun i s hi hs => ?_) (fun s hs => ?_) ⟨_, rfl, fun j hj => by omega⟩ (by omega)
    · obtain ⟨f1, rfl, hf1⟩ := hs
      refine Or.inl ⟨(nI (i + 1), vp_updL f1 i (lN (if i = 0 then 1 else 0))), ?_, _, rfl, fun j hj => ?_⟩
      · have ez : (0 : Int64) = lN 0 := rfl
        have eo : (1 : Int64) = lN 1 := rfl
        unfold X12_falls_b38 X12_falls_j61
        by_cases q : i = 0
        · rw [if_pos q]; simp (disch := omega) only [l_0, l_1, l_2, l_3, l_4, l_5, l_6, l_7, l_8, l_9, l_10, l_11, l_12, l_13, l_14, l_15, l_16, l_17, l_18, l_19, l_20, l_21, l_22, l_23, l_24, l_25, l_26, l_27, l_30, l_31, l_32, l_40, l_48, l_57, l_59, l_60, l_61, l_62, l_64, l_83, l_90, l_97, l_99, l_100, l_108, l_115, l_122, l_123, l_127, l_128, l_131, l_135, l_200, l_255, l_256, l_300, l_487, l_495, l_900, l_999, l_1000, l_1700, l_1792, l_1980, l_2048, l_2475, l_2970, l_3121, l_9999, l_10000, l_11351, l_65536, l_100000, l_1000000, ↓l_m1, l_neg, nI_add, pk_mul, pk_sub, q_leT, q_leF, q_ltT, q_ltF, q_eqT, q_eqF, q_m1e, q_m1e2, q_m1lt, q_m1le, q_m1nl, q_m1nle, q_m1s, q_ix, q_jat, q_jput, q_min1, q_min2, q_max1, q_max2, q_or0, q_0or, q_bs, if_true, if_false, true_and, and_true, false_and, and_false, not_true_eq_false, not_false_eq_true, eq_self, Bool.false_eq_true, q_z0, q_z1, jl_e, eo]
        · rw [if_neg q]; simp (disch := omega) only [l_0, l_1, l_2, l_3, l_4, l_5, l_6, l_7, l_8, l_9, l_10, l_11, l_12, l_13, l_14, l_15, l_16, l_17, l_18, l_19, l_20, l_21, l_22, l_23, l_24, l_25, l_26, l_27, l_30, l_31, l_32, l_40, l_48, l_57, l_59, l_60, l_61, l_62, l_64, l_83, l_90, l_97, l_99, l_100, l_108, l_115, l_122, l_123, l_127, l_128, l_131, l_135, l_200, l_255, l_256, l_300, l_487, l_495, l_900, l_999, l_1000, l_1700, l_1792, l_1980, l_2048, l_2475, l_2970, l_3121, l_9999, l_10000, l_11351, l_65536, l_100000, l_1000000, ↓l_m1, l_neg, nI_add, pk_mul, pk_sub, q_leT, q_leF, q_ltT, q_ltF, q_eqT, q_eqF, q_m1e, q_m1e2, q_m1lt, q_m1le, q_m1nl, q_m1nle, q_m1s, q_ix, q_jat, q_jput, q_min1, q_min2, q_max1, q_max2, q_or0, q_0or, q_bs, if_true, if_false, true_and, and_true, false_and, and_false, not_true_eq_false, not_false_eq_true, eq_self, Bool.false_eq_true, q_z0, q_z1, jl_e, ez]
      · by_cases q : j = i
        · rw [q, pk_uLs]
        · rw [pk_uLn q]; exact hf1 j (by omega)
    · obtain ⟨f1, rfl, hf1⟩ := hs
      refine ⟨f1, ?_, hf1⟩
      unfold X12_falls_b38
      simp (disch := omega) only [l_0, l_1, l_2, l_3, l_4, l_5, l_6, l_7, l_8, l_9, l_10, l_11, l_12, l_13, l_14, l_15, l_16, l_17, l_18, l_19, l_20, l_21, l_22, l_23, l_24, l_25, l_26, l_27, l_30, l_31, l_32, l_40, l_48, l_57, l_59, l_60, l_61, l_62, l_64, l_83, l_90, l_97, l_99, l_100, l_108, l_115, l_122, l_123, l_127, l_128, l_131, l_135, l_200, l_255, l_256, l_300, l_487, l_495, l_900, l_999, l_1000, l_1700, l_1792, l_1980, l_2048, l_2475, l_2970, l_3121, l_9999, l_10000, l_11351, l_65536, l_100000, l_1000000, ↓l_m1, l_neg, nI_add, pk_mul, pk_sub, q_leT, q_leF, q_ltT, q_ltF, q_eqT, q_eqF, q_m1e, q_m1e2, q_m1lt, q_m1le, q_m1nl, q_m1nle, q_m1s, q_ix, q_jat, q_jput, q_min1, q_min2, q_max1, q_max2, q_or0, q_0or, q_bs, if_true, if_false, true_and, and_true, false_and, and_false, not_true_eq_false, not_false_eq_true, eq_self, Bool.false_eq_true, q_z0, q_z1]
  obtain ⟨f2, k1, k2⟩ := m_dpN (F := F) (n := C 0 0 2 - z) (s := T.1 0) (v1 := nI k) (t := T.2.1 0) (b := T.2.1 1) (show C 0 0 7 ≤ 16 by omega) (by omega) y7 j2 hF
  have k1' : iter (X12_falls_b71 F (T.1 0) (T.2.1 0) (T.2.1 1) (T.2.2.1 0) (nI k) (nI (C 0 0 2 - z))) F (1, nI 0, f1) = some (lN (16 ^ (C 0 0 2 - z)), f2) := k1
  have i2 : iter (X12_falls_b164 F (T.1 0) (T.2.1 0) (T.2.1 1) (T.2.2.1 0) f2 (lN (16 ^ (C 0 0 2 - z)))) F (0, nI k) = some (lN (msum (C 0 0 2 - z) (C 0 0 7) k)) := by
    refine iter_count (b := X12_falls_b164 F (T.1 0) (T.2.1 0) (T.2.1 1) (T.2.2.1 0) f2 (lN (16 ^ (C 0 0 2 - z)))) (fun i => (lN (fb_sm (fun i => dpN (C 0 0 7) (C 0 0 2 - z) (k + i)) i), nI (k + i))) (8 - k) (fun i hi => ?_) ?_ F (by omega)
    · have g := k2 (k + i) (by omega)
      rw [fb_sm_succ, show k + (i + 1) = k + i + 1 by omega]
      unfold X12_falls_b164
      simp (disch := omega) only [l_0, l_1, l_2, l_3, l_4, l_5, l_6, l_7, l_8, l_9, l_10, l_11, l_12, l_13, l_14, l_15, l_16, l_17, l_18, l_19, l_20, l_21, l_22, l_23, l_24, l_25, l_26, l_27, l_30, l_31, l_32, l_40, l_48, l_57, l_59, l_60, l_61, l_62, l_64, l_83, l_90, l_97, l_99, l_100, l_108, l_115, l_122, l_123, l_127, l_128, l_131, l_135, l_200, l_255, l_256, l_300, l_487, l_495, l_900, l_999, l_1000, l_1700, l_1792, l_1980, l_2048, l_2475, l_2970, l_3121, l_9999, l_10000, l_11351, l_65536, l_100000, l_1000000, ↓l_m1, l_neg, nI_add, pk_mul, pk_sub, q_leT, q_leF, q_ltT, q_ltF, q_eqT, q_eqF, q_m1e, q_m1e2, q_m1lt, q_m1le, q_m1nl, q_m1nle, q_m1s, q_ix, q_jat, q_jput, q_min1, q_min2, q_max1, q_max2, q_or0, q_0or, q_bs, if_true, if_false, true_and, and_true, false_and, and_false, not_true_eq_false, not_false_eq_true, eq_self, Bool.false_eq_true, q_z0, q_z1, g, lN_add]
    · unfold X12_falls_b164
      simp (disch := omega) only [l_0, l_1, l_2, l_3, l_4, l_5, l_6, l_7, l_8, l_9, l_10, l_11, l_12, l_13, l_14, l_15, l_16, l_17, l_18, l_19, l_20, l_21, l_22, l_23, l_24, l_25, l_26, l_27, l_30, l_31, l_32, l_40, l_48, l_57, l_59, l_60, l_61, l_62, l_64, l_83, l_90, l_97, l_99, l_100, l_108, l_115, l_122, l_123, l_127, l_128, l_131, l_135, l_200, l_255, l_256, l_300, l_487, l_495, l_900, l_999, l_1000, l_1700, l_1792, l_1980, l_2048, l_2475, l_2970, l_3121, l_9999, l_10000, l_11351, l_65536, l_100000, l_1000000, ↓l_m1, l_neg, nI_add, pk_mul, pk_sub, q_leT, q_leF, q_ltT, q_ltF, q_eqT, q_eqF, q_m1e, q_m1e2, q_m1lt, q_m1le, q_m1nl, q_m1nle, q_m1s, q_ix, q_jat, q_jput, q_min1, q_min2, q_max1, q_max2, q_or0, q_0or, q_bs, if_true, if_false, true_and, and_true, false_and, and_false, not_true_eq_false, not_false_eq_true, eq_self, Bool.false_eq_true, q_z0, q_z1]
      rfl
  rw [← fe.1] at i2
  refine ⟨nI 1, nI 0, lN (fsum (C 0 0 2 - z) (C 0 0 7) k / Nat.gcd (fsum (C 0 0 2 - z) (C 0 0 7) k) (16 ^ (C 0 0 2 - z))), lN (16 ^ (C 0 0 2 - z) / Nat.gcd (fsum (C 0 0 2 - z) (C 0 0 7) k) (16 ^ (C 0 0 2 - z))), f2, ?_, ?_⟩
  · simp (disch := omega) only [l_0, l_1, l_2, l_3, l_4, l_5, l_6, l_7, l_8, l_9, l_10, l_11, l_12, l_13, l_14, l_15, l_16, l_17, l_18, l_19, l_20, l_21, l_22, l_23, l_24, l_25, l_26, l_27, l_30, l_31, l_32, l_40, l_48, l_57, l_59, l_60, l_61, l_62, l_64, l_83, l_90, l_97, l_99, l_100, l_108, l_115, l_122, l_123, l_127, l_128, l_131, l_135, l_200, l_255, l_256, l_300, l_487, l_495, l_900, l_999, l_1000, l_1700, l_1792, l_1980, l_2048, l_2475, l_2970, l_3121, l_9999, l_10000, l_11351, l_65536, l_100000, l_1000000, ↓l_m1, l_neg, nI_add, pk_mul, pk_sub, q_leT, q_leF, q_ltT, q_ltF, q_eqT, q_eqF, q_m1e, q_m1e2, q_m1lt, q_m1le, q_m1nl, q_m1nle, q_m1s, q_ix, q_jat, q_jput, q_min1, q_min2, q_max1, q_max2, q_or0, q_0or, q_bs, if_true, if_false, true_and, and_true, false_and, and_false, not_true_eq_false, not_false_eq_true, eq_self, Bool.false_eq_true, q_z0, q_z1, q_wT, r1, p1, i1, pw, cf]
  · simp (disch := omega) only [l_0, l_1, l_2, l_3, l_4, l_5, l_6, l_7, l_8, l_9, l_10, l_11, l_12, l_13, l_14, l_15, l_16, l_17, l_18, l_19, l_20, l_21, l_22, l_23, l_24, l_25, l_26, l_27, l_30, l_31, l_32, l_40, l_48, l_57, l_59, l_60, l_61, l_62, l_64, l_83, l_90, l_97, l_99, l_100, l_108, l_115, l_122, l_123, l_127, l_128, l_131, l_135, l_200, l_255, l_256, l_300, l_487, l_495, l_900, l_999, l_1000, l_1700, l_1792, l_1980, l_2048, l_2475, l_2970, l_3121, l_9999, l_10000, l_11351, l_65536, l_100000, l_1000000, ↓l_m1, l_neg, nI_add, pk_mul, pk_sub, q_leT, q_leF, q_ltT, q_ltF, q_eqT, q_eqF, q_m1e, q_m1e2, q_m1lt, q_m1le, q_m1nl, q_m1nle, q_m1s, q_ix, q_jat, q_jput, q_min1, q_min2, q_max1, q_max2, q_or0, q_0or, q_bs, if_true, if_false, true_and, and_true, false_and, and_false, not_true_eq_false, not_false_eq_true, eq_self, Bool.false_eq_true, q_z0, q_z1, f, r2, y2, p2, j1, k1', i2, mf]
