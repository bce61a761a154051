/-! ===== PURE 19.g: mean ===== -/
def MB (F : Nat) (S : vS) (v1 v2 : Int32) : vS → Option (vS ⊕ vS) := X11_mean_b60 F (S.1 5) (S.2.1 0) (S.2.1 1) (S.1 6) (S.1 7) (S.1 8) (S.1 9) (S.1 10) (S.1 11) (S.1 12) (S.2.2.1 0) (S.2.2.1 1) (S.2.2.1 2) (S.1 13) (S.2.2.2 0) (S.2.2.1 3) (S.2.2.1 4) (S.1 14) (S.2.2.1 5) (S.1 15) (S.2.2.1 6) (S.1 16) (S.2.2.1 7) (S.1 17) (S.2.2.1 8) v1 v2
def M0 (S : vS) : vS := mkS [0, S.1 18, S.1 19, S.1 20, S.1 21, S.1 22, S.1 23, S.1 24, S.1 25, S.1 26, S.1 27, S.1 28, S.1 29, S.1 91, S.1 92, S.1 93, S.1 94, S.1 95, S.1 96, S.1 97, S.1 98] [0] [S.2.2.1 9, S.2.2.1 10, S.2.2.1 11, S.2.2.1 12, S.2.2.1 13, S.2.2.1 14, S.2.2.1 15, S.2.2.1 16, S.2.2.1 17, S.2.2.1 62, S.2.2.1 63, S.2.2.1 64] [S.2.2.2 1]
def meanU (S : vS) (r st : Int32) : vS := mkS [r, st, S.1 18, S.1 19, S.1 20, S.1 21, S.1 22, S.1 23, S.1 24, S.1 25, S.1 26, S.1 27, S.1 28, S.1 29, S.1 91, S.1 92, S.1 93, S.1 94, S.1 95, S.1 96, S.1 97, S.1 98] [S.2.1 0, S.2.1 1] [S.2.2.1 9, S.2.2.1 10, S.2.2.1 11, S.2.2.1 12, S.2.2.1 13, S.2.2.1 14, S.2.2.1 15, S.2.2.1 16, S.2.2.1 17, S.2.2.1 62, S.2.2.1 63, S.2.2.1 64] [S.2.2.2 1]
theorem mean_lift {S T : vS} (h : Rel S T) {x : Option vS} {y : Option (Int32 × Int32 × Int64 × Int64 × Int32 × Int32 × (Nat → Int32) × (Nat → Int32) × (Nat → Int32) × (Nat → Int32))}
    (hxy : ∃ U d rs g f l rn, x = some U ∧ y = some (U.1 0, U.1 1, U.2.1 0, U.2.1 1, d, rs, g, f, l, rn) ∧ ∀ k, k < 1980 → g k = T.2.2.1 0 k) :
    ∃ (r : Int32) (S2 T2 : vS), x.map (fun u => ((u.1 0), (sA (sA (sA (sI (sI (sI (sI (sI (sI (sI (sI (sA (sI (sA (sI (sA (sI (sA (sI (sA (sA (sB (sI (sA (sA (sA (sI (sI (sI (sI (sI (sI (sI (sJ (sJ (sI S 5 (u.1 1)) 0 (u.2.1 0)) 1 (u.2.1 1)) 18 (u.1 2)) 19 (u.1 3)) 20 (u.1 4)) 21 (u.1 5)) 22 (u.1 6)) 23 (u.1 7)) 24 (u.1 8)) 9 (u.2.2.1 0)) 10 (u.2.2.1 1)) 11 (u.2.2.1 2)) 25 (u.1 9)) 1 (u.2.2.2 0)) 12 (u.2.2.1 3)) 13 (u.2.2.1 4)) 26 (u.1 10)) 14 (u.2.2.1 5)) 27 (u.1 11)) 15 (u.2.2.1 6)) 28 (u.1 12)) 16 (u.2.2.1 7)) 29 (u.1 13)) 17 (u.2.2.1 8)) 91 (u.1 14)) 92 (u.1 15)) 93 (u.1 16)) 94 (u.1 17)) 95 (u.1 18)) 96 (u.1 19)) 97 (u.1 20)) 98 (u.1 21)) 62 (u.2.2.1 9)) 63 (u.2.2.1 10)) 64 (u.2.2.1 11)))) = some (r, S2) ∧
      y.map (fun u => (u.1, (sA (sA (sA (sA (sI (sI (sJ (sJ (sI T 0 u.2.1) 0 u.2.2.1) 1 u.2.2.2.1) 16 u.2.2.2.2.1) 17 u.2.2.2.2.2.1) 0 u.2.2.2.2.2.2.1) 6 u.2.2.2.2.2.2.2.1) 11 u.2.2.2.2.2.2.2.2.1) 12 u.2.2.2.2.2.2.2.2.2))) = some (r, T2) ∧ Rel S2 T2 := by
  obtain ⟨U, d, rs, g, f, l, rn, rfl, rfl, hg⟩ := hxy
  have r1 := Rel_fr (x := U.2.1 0) (y := U.2.1 1) h (U.1 1)
  refine ⟨U.1 0, _, _, rfl, rfl, Rel_ask r1 ⟨fun k hk => ?_, ⟨rfl, rfl⟩, fun k hk => ?_, fun k hk => ?_⟩ ⟨fun k hk => ?_, ⟨rfl, rfl⟩, fun k h1 h2 => ?_, fun k hk => ?_, fun _ _ _ => rfl, rfl⟩ ⟨fun k h1 h2 => ?_, fun k hk => ?_, rfl⟩ ⟨fun k hk => ?_, fun _ _ => rfl⟩ rfl⟩
  · simp (disch := omega) only [sI, sA, sB, sJ, up_n]
  · simp (disch := omega) only [sI, sA, sB, sJ, up_n]
  · simp (disch := omega) only [sI, sA, sB, sJ, up_n]
  · simp (disch := omega) only [sI, sA, sB, sJ, up_n]
  · simp (disch := omega) only [sI, sA, sB, sJ, up_n, up_s]; exact hg k (by omega)
  · simp (disch := omega) only [sI, sA, sB, sJ, up_n]
  · simp (disch := omega) only [sI, sA, sB, sJ, up_n]
  · simp (disch := omega) only [sI, sA, sB, sJ, up_n]
  · simp (disch := omega) only [sI, sA, sB, sJ, up_n, up_s]; exact hg k (by omega)
def wgm (D : Cy) (n : Nat) : Nat := fb_sm (fun x => D 2 x 3) n
theorem sum_wgm (D : Cy) : ∀ n, sumI (fun x => nI (D 2 x 3)) n = nI (wgm D n)
  | 0 => rfl
  | n + 1 => by unfold wgm; rw [sumI, sum_wgm D n, fb_sm_succ, nI_add]; rfl
theorem m_allWages {F : Nat} {C : Cy} {g : Nat → Int32} (ok : Ok C) (hM : MS C g) (hF : 100 < F) : X12_allWages F g = some (nI (wgm C (C 0 0 2))) := by
  have o0 := ok.1
  rw [← sum_wgm]
  unfold X12_allWages
  rw [loop_sum (n := C 0 0 2) (fun x => nI (C 2 x 3)) ?_ ?_ (by omega)]; rfl
  · intro i x hi
    unfold X12_allWages_b4
    simp (disch := omega) only [l_0, l_1, l_2, l_3, l_4, l_5, l_6, l_7, l_8, l_9, l_10, l_11, l_12, l_13, l_14, l_15, l_16, l_17, l_18, l_19, l_20, l_21, l_22, l_23, l_24, l_25, l_26, l_27, l_30, l_31, l_32, l_40, l_48, l_57, l_59, l_60, l_61, l_62, l_64, l_83, l_90, l_97, l_99, l_100, l_108, l_115, l_122, l_123, l_127, l_128, l_131, l_135, l_200, l_255, l_256, l_300, l_487, l_495, l_900, l_999, l_1000, l_1700, l_1792, l_1980, l_2048, l_2475, l_2970, l_3121, l_9999, l_10000, l_11351, l_65536, l_100000, l_1000000, ↓l_m1, l_neg, nI_add, pk_mul, pk_sub, q_leT, q_leF, q_ltT, q_ltF, q_eqT, q_eqF, q_m1e, q_m1e2, q_m1lt, q_m1le, q_m1nl, q_m1nle, q_m1s, q_ix, q_jat, q_jput, q_min1, q_min2, q_max1, q_max2, q_or0, q_0or, q_bs, if_true, if_false, true_and, and_true, false_and, and_false, not_true_eq_false, not_false_eq_true, eq_self, Bool.false_eq_true, q_z0, q_z1, m_0 hM, m_E hM, m_Es hM, m_Er hM, m_H hM, m_W hM, m_R0 hM, m_R1 hM, m_R2 hM]
  · intro x
    unfold X12_allWages_b4
    simp (disch := omega) only [l_0, l_1, l_2, l_3, l_4, l_5, l_6, l_7, l_8, l_9, l_10, l_11, l_12, l_13, l_14, l_15, l_16, l_17, l_18, l_19, l_20, l_21, l_22, l_23, l_24, l_25, l_26, l_27, l_30, l_31, l_32, l_40, l_48, l_57, l_59, l_60, l_61, l_62, l_64, l_83, l_90, l_97, l_99, l_100, l_108, l_115, l_122, l_123, l_127, l_128, l_131, l_135, l_200, l_255, l_256, l_300, l_487, l_495, l_900, l_999, l_1000, l_1700, l_1792, l_1980, l_2048, l_2475, l_2970, l_3121, l_9999, l_10000, l_11351, l_65536, l_100000, l_1000000, ↓l_m1, l_neg, nI_add, pk_mul, pk_sub, q_leT, q_leF, q_ltT, q_ltF, q_eqT, q_eqF, q_m1e, q_m1e2, q_m1lt, q_m1le, q_m1nl, q_m1nle, q_m1s, q_ix, q_jat, q_jput, q_min1, q_min2, q_max1, q_max2, q_or0, q_0or, q_bs, if_true, if_false, true_and, and_true, false_and, and_false, not_true_eq_false, not_false_eq_true, eq_self, Bool.false_eq_true, q_z0, q_z1, m_0 hM, m_E hM, m_Es hM, m_Er hM, m_H hM, m_W hM, m_R0 hM, m_R1 hM, m_R2 hM]
theorem c_allWages {F : Nat} {C : Cy} {xf : Nat → Int32} (ok : Ok C) (hX : CX C xf) (hF : 100 < F) : X7_sum F 35 (nI 5) (nI (C 0 0 2)) xf (nI 3) = some (nI (wgm C (C 0 0 2))) := by
  have o0 := ok.1
  rw [← sum_wgm, tsum_e (w := 5) (c := 3) rfl rfl (by omega) (by omega) (by omega) (by omega) (by omega)]
  congr 1
  exact sumI_cong (fun k hk => hX k 3 hk (by omega))
theorem wgm_le {C : Cy} (ok : Ok C) (wb : WB C) : wgm C (C 0 0 2) ≤ 22176 := by
  have o0 := ok.1
  have a : wgm C (C 0 0 2) ≤ C 0 0 2 * 3168 := sm_le _ (fun x hx => by
    have w := wb x hx
    have f := fb_ct_le (fate C 1) (C 0 0 3)
    omega)
  have b : C 0 0 2 * 3168 ≤ 7 * 3168 := Nat.mul_le_mul_right _ (by omega)
  omega
theorem ClRow_cp {R : Nat → Nat → Nat} {wk o : Nat → Int32} {q : Nat} (h : ClRow R wk q) (hq : cls R q < 30) : ClRow R (cp 180 wk o) q := by
  unfold ClRow at h ⊢
  rw [cp_in (by omega), cp_in (by omega), cp_in (by omega), cp_in (by omega), cp_in (by omega), cp_in (by omega)]; exact h
theorem WK_cp {C : Cy} {R : Nat → Nat → Nat} {m : Nat} {wk o g g2 : Nat → Int32} {dep : Nat → Nat} {enc : Nat → Nat → Nat} (h : WK C R m wk g dep enc) (hg : ∀ k, k < 487 → g2 k = g k) : WK C R m (cp 180 wk o) g2 dep enc := by
  obtain ⟨a1, a2, a3, a4, a5, a6, a7, a8⟩ := h
  refine ⟨a1, a2, a3, fun q hq h19 => ClRow_cp (a4 q hq h19) ?_, by rw [hg 9 (by omega)]; exact a5, fun q c hq hc h3 => by rw [hg _ (by omega)]; exact a6 q c hq hc h3, a7, a8⟩
  have := cls_mono R (show q + 1 ≤ m by omega)
  rw [cls_s R h19] at this; omega
theorem mean_it {F : Nat} {S T : vS} {C : Cy} {R : Nat → Nat → Nat} {m sd many : Nat} {dep : Nat → Nat} {enc : Nat → Nat → Nat} (st : Int32) (o1 o2 : Int64) (hC : CityOK C (fun k => S.1 (6 + k)) (fun k => S.2.2.1 k) (S.2.2.2 0) (T.2.2.1 0) (T.2.2.2 0)) (nw : S.1 17 = nI (cls R m)) (hk : WK C R m (S.2.2.1 8) (T.2.2.1 0) dep enc) (hsd : sd + many ≤ 10000) (hm20 : many ≤ 20) (hF : 200000 < F) (d0 r0 : Int32) (f0 l0 n0 : Nat → Int32) :
    ∀ i, i ≤ many → ∃ (cs : vS) (d rs : Int32) (g f l rn : Nat → Int32) (W : Nat),
      (∀ G, iter (MB F S (nI sd) (nI many)) (G + i) (M0 S) = iter (MB F S (nI sd) (nI many)) G cs) ∧
      (∀ G, iter (X12_mean_b71 F st o1 o2 (nI sd) (nI many)) (G + i) (lN 0, nI 0, d0, r0, putN (T.2.2.1 0) (T.2.2.1 0) 2475 127, f0, l0, n0) = iter (X12_mean_b71 F st o1 o2 (nI sd) (nI many)) G (lN W, nI i, d, rs, g, f, l, rn)) ∧
      cs.1 0 = nI i ∧ cs.2.1 0 = lN W ∧ W ≤ i * 22176 ∧ ∀ k, g k = putN (T.2.2.1 0) (T.2.2.1 0) 2475 127 k
  | 0, _ => ⟨M0 S, d0, r0, putN (T.2.2.1 0) (T.2.2.1 0) 2475 127, f0, l0, n0, 0, fun G => (by rw [Nat.add_zero]), fun G => (by rw [Nat.add_zero]), rfl, rfl, Nat.zero_le _, fun _ => rfl⟩
  | i + 1, hi => by
    obtain ⟨cs, d, rs, g, f, l, rn, W, b1, b2, b3, b4, b5, b6⟩ := mean_it st o1 o2 hC nw hk hsd hm20 hF d0 r0 f0 l0 n0 i (by omega)
    obtain ⟨ok, h8, wb, ⟨⟨c0, c1, c2, c3, c5, c6, c8, c9, c10⟩, cR, cT, cF, cX, cH, cW⟩, hM, nr, wr⟩ := hC
    have c0 : S.1 6 = nI (C 0 0 5) := c0; have c1 : S.1 7 = nI (C 0 0 6) := c1; have c2 : S.1 8 = nI (C 0 0 7) := c2; have c3 : S.1 9 = nI (C 0 0 8) := c3; have c5 : S.1 11 = nI (C 0 0 0) := c5; have c6 : S.1 12 = nI (C 0 0 1) := c6; have c8 : S.1 14 = nI (C 0 0 2) := c8; have c9 : S.1 15 = nI (C 0 0 3) := c9; have c10 : S.1 16 = nI (C 0 0 4) := c10; have cT : CT C (S.2.2.1 1) := cT; have cF : CF C (S.2.2.1 2) := cF; have cX : CX C (S.2.2.1 5) := cX; have cH : CH C (S.2.2.1 6) := cH; have cW : CW C (S.2.2.1 7) := cW
    have o0 := ok.1
    have hz : isZ (S.1 10) = true := wr_z wr
    have low : ∀ k, k < 2475 → g k = T.2.2.1 0 k := fun k hk => by
      rw [b6]; unfold putN; rw [if_neg (by omega)]
    have hM' : MS C g := MS_cong ok hM (fun k hk => low k (by omega))
    have hk' : WK C R m (cp 180 (S.2.2.1 8) (cs.2.2.1 8)) g dep enc := WK_cp hk (fun k hk => low k (by omega))
    obtain ⟨D, s', n', b', e', t', xf', hf', wf', g', f', loops', ran', p1, p2, p3, p4, p5, p6, p7, p8⟩ := both_live (F := F) (f := f) (loops := l) (ran := rn) (b := cs.2.2.1 9) (e := cs.2.2.1 10) (t := cs.2.2.1 11) ok h8 wb (CT_cp (o := cs.2.2.1 1) cT) (CF_cp (o := cs.2.2.1 2) cF) (CX_cp (o := cs.2.2.1 5) ok cX) (CH_cp (o := cs.2.2.1 6) ok cH) (CW_cp (o := cs.2.2.1 7) ok cW) hM' hk' (show sd + i < 65536 by omega) hF (cs.1 13) (cs.1 14) (cs.1 15) (cs.1 16) (cs.1 17) (cs.1 18) (cs.1 19) (cs.1 20) d rs
    rw [← nw, ← c0, ← c1, ← c3, ← c5, ← c8, ← c9, ← c10] at p1
    have z2 := p8.2.2.2.2 2 (by omega)
    have w1 := c_allWages (F := F) p8.1 p3 (by omega)
    have w2 := m_allWages (F := F) p8.1 p6 (by omega)
    have wl := wgm_le p8.1 p8.2.2.1
    rw [z2] at w1 w2 wl
    have w1' := w1
    rw [← c8] at w1'
    have tl := nI_l (n := wgm D (C 0 0 2)) (by omega)
    have cstep : ∃ cs', MB F S (nI sd) (nI many) cs = some (.inl cs') ∧ cs'.1 0 = nI (i + 1) ∧ cs'.2.1 0 = lN (W + wgm D (C 0 0 2)) := by
      unfold MB X11_mean_b60
      rw [b3, if_neg (show ¬ nI many ≤ nI i from nI_ge (by omega) (by omega)), copy_e _ _ _ _ _ _ _ _ _ _ _ _ _ _ _ _ _ _ _ _ _ _ _ _ _ _ _ _ _ _ _ _ _ _ _ _ _ _ _ _ _ _ _ _ hz, q_bs]
      refine ⟨_, by
        show (X2_pass F (cs.1 13) (cs.1 14) (cs.1 15) (cs.1 16) (cs.1 17) (cs.1 18) (cs.1 19) (cs.1 20) (cs.2.2.1 9) (cs.2.2.1 10) (cs.2.2.1 11) (S.1 6) (S.1 7) (S.1 9) (S.1 11) (cp 64 (S.2.2.1 1) (cs.2.2.1 1)) (cp 64 (S.2.2.1 2) (cs.2.2.1 2)) (S.1 14) (cp 35 (S.2.2.1 5) (cs.2.2.1 5)) (S.1 15) (cp 40 (S.2.2.1 6) (cs.2.2.1 6)) (S.1 16) (cp 12 (S.2.2.1 7) (cs.2.2.1 7)) (S.1 17) (cp 180 (S.2.2.1 8) (cs.2.2.1 8)) (nI sd + nI i)).bind _ = _
        rw [nI_add, p1, q_bs]
        show (X7_sum F 35 (nI 5) (S.1 14) xf' (nI 3)).bind _ = _
        rw [w1', q_bs], ?_, ?_⟩
      · exact nI_1 i
      · show cs.2.1 0 + (nI (wgm D (C 0 0 2))).toInt64 = _
        rw [b4, tl, lN_add]
    obtain ⟨cs', s1, s2, s3⟩ := cstep
    have rest : ∀ k, putN g' (fun k => g' (2475 + k)) 0 127 k = putN (T.2.2.1 0) (T.2.2.1 0) 2475 127 k := fun k => by
      by_cases q : k < 127
      · have e1 : putN g' (fun k => g' (2475 + k)) 0 127 k = g' (2475 + k) := by unfold putN; rw [if_pos (by omega)]; rfl
        rw [e1, p7 (2475 + k) (by omega), b6]
        unfold putN
        rw [if_pos (by omega), if_neg (by omega), Nat.add_sub_cancel_left]
      · have e1 : putN g' (fun k => g' (2475 + k)) 0 127 k = g' k := by unfold putN; rw [if_neg (by omega)]
        rw [e1, p7 k (by omega), b6]
    have mstep : X12_mean_b71 F st o1 o2 (nI sd) (nI many) (lN W, nI i, d, rs, g, f, l, rn) = some (.inl (lN (W + wgm D (C 0 0 2)), nI (i + 1), nI s', nI n', putN g' (fun k => g' (2475 + k)) 0 127, f', loops', ran')) := by
      unfold X12_mean_b71
      simp (disch := omega) only [l_0, l_1, l_2, l_3, l_4, l_5, l_6, l_7, l_8, l_9, l_10, l_11, l_12, l_13, l_14, l_15, l_16, l_17, l_18, l_19, l_20, l_21, l_22, l_23, l_24, l_25, l_26, l_27, l_30, l_31, l_32, l_40, l_48, l_57, l_59, l_60, l_61, l_62, l_64, l_83, l_90, l_97, l_99, l_100, l_108, l_115, l_122, l_123, l_127, l_128, l_131, l_135, l_200, l_255, l_256, l_300, l_487, l_495, l_900, l_999, l_1000, l_1700, l_1792, l_1980, l_2048, l_2475, l_2970, l_3121, l_9999, l_10000, l_11351, l_65536, l_100000, l_1000000, ↓l_m1, l_neg, nI_add, pk_mul, pk_sub, q_leT, q_leF, q_ltT, q_ltF, q_eqT, q_eqF, q_m1e, q_m1e2, q_m1lt, q_m1le, q_m1nl, q_m1nle, q_m1s, q_ix, q_jat, q_jput, q_min1, q_min2, q_max1, q_max2, q_or0, q_0or, q_bs, if_true, if_false, true_and, and_true, false_and, and_false, not_true_eq_false, not_false_eq_true, eq_self, Bool.false_eq_true, q_z0, q_z1, p2, w2, restores_e, tl, lN_add]
    exact ⟨cs', _, _, _, _, _, _, W + wgm D (C 0 0 2), fun G => by rw [show G + (i + 1) = G + 1 + i by omega, b1, iter_l s1], fun G => by rw [show G + (i + 1) = G + 1 + i by omega, b2, iter_l mstep], s2, s3, by omega, rest⟩
theorem ok_mean' {F : Nat} (hF : 200000 < F) : ok_mean F Rel := fun S T v w h => by
  obtain ⟨C, hC⟩ := Rel_city h
  have hC' := hC
  obtain ⟨ok, h8, wb, ⟨⟨c0, c1, c2, c3, c5, c6, c8, c9, c10⟩, cR, cT, cF, cX, cH, cW⟩, hM, nr, wr⟩ := hC'
  have wr : WR C (S.1 10) (S.1 17) (S.2.2.1 8) (T.2.2.1 0) := wr
  have efr := h.2.1
  unfold R_fr at efr
  refine mean_lift h ?_
  have no : ∀ (x : Option vS) (y : Option (Int32 × Int32 × Int64 × Int64 × Int32 × Int32 × (Nat → Int32) × (Nat → Int32) × (Nat → Int32) × (Nat → Int32))) (st : Int32), x = some (meanU S (nI 0) st) → y = some (nI 0, st, T.2.1 0, T.2.1 1, T.1 16, T.1 17, T.2.2.1 0, T.2.2.1 6, T.2.2.1 11, T.2.2.1 12) → ∃ U d rs g f l rn, x = some U ∧ y = some (U.1 0, U.1 1, U.2.1 0, U.2.1 1, d, rs, g, f, l, rn) ∧ ∀ k, k < 1980 → g k = T.2.2.1 0 k := by
    rintro x y st rfl rfl
    refine ⟨meanU S (nI 0) st, T.1 16, T.1 17, T.2.2.1 0, T.2.2.1 6, T.2.2.1 11, T.2.2.1 12, rfl, ?_, fun _ _ => rfl⟩
    rw [← efr.1, ← efr.2]; rfl
  rcases rngw v (a := 0) (b := 9999) (by omega) (by omega) with ⟨sd, _, hs, rfl⟩ | hv
  case inr =>
    have f := q_fF (show (0 : Int64) = (nI 0).toInt64 by decide) (show (9999 : Int64) = (nI 9999).toInt64 by decide) hv
    refine no _ _ (nI 1) ?_ ?_
    · unfold X11_mean X11_mean_j32 X11_refused; simp (disch := omega) only [l_0, l_1, l_2, l_3, l_4, l_5, l_6, l_7, l_8, l_9, l_10, l_11, l_12, l_13, l_14, l_15, l_16, l_17, l_18, l_19, l_20, l_21, l_22, l_23, l_24, l_25, l_26, l_27, l_30, l_31, l_32, l_40, l_48, l_57, l_59, l_60, l_61, l_62, l_64, l_83, l_90, l_97, l_99, l_100, l_108, l_115, l_122, l_123, l_127, l_128, l_131, l_135, l_200, l_255, l_256, l_300, l_487, l_495, l_900, l_999, l_1000, l_1700, l_1792, l_1980, l_2048, l_2475, l_2970, l_3121, l_9999, l_10000, l_11351, l_65536, l_100000, l_1000000, ↓l_m1, l_neg, nI_add, pk_mul, pk_sub, q_leT, q_leF, q_ltT, q_ltF, q_eqT, q_eqF, q_m1e, q_m1e2, q_m1lt, q_m1le, q_m1nl, q_m1nle, q_m1s, q_ix, q_jat, q_jput, q_min1, q_min2, q_max1, q_max2, q_or0, q_0or, q_bs, if_true, if_false, true_and, and_true, false_and, and_false, not_true_eq_false, not_false_eq_true, eq_self, Bool.false_eq_true, q_z0, q_z1, q_wF hv]; rfl
    · unfold X12_mean X12_mean_j35; simp (disch := omega) only [l_0, l_1, l_2, l_3, l_4, l_5, l_6, l_7, l_8, l_9, l_10, l_11, l_12, l_13, l_14, l_15, l_16, l_17, l_18, l_19, l_20, l_21, l_22, l_23, l_24, l_25, l_26, l_27, l_30, l_31, l_32, l_40, l_48, l_57, l_59, l_60, l_61, l_62, l_64, l_83, l_90, l_97, l_99, l_100, l_108, l_115, l_122, l_123, l_127, l_128, l_131, l_135, l_200, l_255, l_256, l_300, l_487, l_495, l_900, l_999, l_1000, l_1700, l_1792, l_1980, l_2048, l_2475, l_2970, l_3121, l_9999, l_10000, l_11351, l_65536, l_100000, l_1000000, ↓l_m1, l_neg, nI_add, pk_mul, pk_sub, q_leT, q_leF, q_ltT, q_ltF, q_eqT, q_eqF, q_m1e, q_m1e2, q_m1lt, q_m1le, q_m1nl, q_m1nle, q_m1s, q_ix, q_jat, q_jput, q_min1, q_min2, q_max1, q_max2, q_or0, q_0or, q_bs, if_true, if_false, true_and, and_true, false_and, and_false, not_true_eq_false, not_false_eq_true, eq_self, Bool.false_eq_true, q_z0, q_z1, f, q_isn]
  have f1 := q_fT (k := sd) (show (0 : Int64) = (nI 0).toInt64 by decide) (show (9999 : Int64) = (nI 9999).toInt64 by decide) (Nat.zero_le _) hs (by omega)
  rcases rngw w (a := 1) (b := 20) (by omega) (by omega) with ⟨many, m1', m20, rfl⟩ | hw
  case inr =>
    have f := q_fF (show (1 : Int64) = (nI 1).toInt64 by decide) (show (20 : Int64) = (nI 20).toInt64 by decide) hw
    refine no _ _ (nI 1) ?_ ?_
    · unfold X11_mean X11_mean_j32 X11_refused; simp (disch := omega) only [l_0, l_1, l_2, l_3, l_4, l_5, l_6, l_7, l_8, l_9, l_10, l_11, l_12, l_13, l_14, l_15, l_16, l_17, l_18, l_19, l_20, l_21, l_22, l_23, l_24, l_25, l_26, l_27, l_30, l_31, l_32, l_40, l_48, l_57, l_59, l_60, l_61, l_62, l_64, l_83, l_90, l_97, l_99, l_100, l_108, l_115, l_122, l_123, l_127, l_128, l_131, l_135, l_200, l_255, l_256, l_300, l_487, l_495, l_900, l_999, l_1000, l_1700, l_1792, l_1980, l_2048, l_2475, l_2970, l_3121, l_9999, l_10000, l_11351, l_65536, l_100000, l_1000000, ↓l_m1, l_neg, nI_add, pk_mul, pk_sub, q_leT, q_leF, q_ltT, q_ltF, q_eqT, q_eqF, q_m1e, q_m1e2, q_m1lt, q_m1le, q_m1nl, q_m1nle, q_m1s, q_ix, q_jat, q_jput, q_min1, q_min2, q_max1, q_max2, q_or0, q_0or, q_bs, if_true, if_false, true_and, and_true, false_and, and_false, not_true_eq_false, not_false_eq_true, eq_self, Bool.false_eq_true, q_z0, q_z1, q_wT, q_wF hw]; rfl
    · unfold X12_mean X12_mean_j35; simp (disch := omega) only [l_0, l_1, l_2, l_3, l_4, l_5, l_6, l_7, l_8, l_9, l_10, l_11, l_12, l_13, l_14, l_15, l_16, l_17, l_18, l_19, l_20, l_21, l_22, l_23, l_24, l_25, l_26, l_27, l_30, l_31, l_32, l_40, l_48, l_57, l_59, l_60, l_61, l_62, l_64, l_83, l_90, l_97, l_99, l_100, l_108, l_115, l_122, l_123, l_127, l_128, l_131, l_135, l_200, l_255, l_256, l_300, l_487, l_495, l_900, l_999, l_1000, l_1700, l_1792, l_1980, l_2048, l_2475, l_2970, l_3121, l_9999, l_10000, l_11351, l_65536, l_100000, l_1000000, ↓l_m1, l_neg, nI_add, pk_mul, pk_sub, q_leT, q_leF, q_ltT, q_ltF, q_eqT, q_eqF, q_m1e, q_m1e2, q_m1lt, q_m1le, q_m1nl, q_m1nle, q_m1s, q_ix, q_jat, q_jput, q_min1, q_min2, q_max1, q_max2, q_or0, q_0or, q_bs, if_true, if_false, true_and, and_true, false_and, and_false, not_true_eq_false, not_false_eq_true, eq_self, Bool.false_eq_true, q_z0, q_z1, f1, f, q_isn]
  have f2 := q_fT (k := many) (show (1 : Int64) = (nI 1).toInt64 by decide) (show (20 : Int64) = (nI 20).toInt64 by decide) m1' m20 (by omega)
  by_cases q9 : sd + many - 1 ≤ 9999
  case neg =>
    refine no _ _ (nI 1) ?_ ?_
    · unfold X11_mean X11_mean_j32 X11_refused; simp (disch := omega) only [l_0, l_1, l_2, l_3, l_4, l_5, l_6, l_7, l_8, l_9, l_10, l_11, l_12, l_13, l_14, l_15, l_16, l_17, l_18, l_19, l_20, l_21, l_22, l_23, l_24, l_25, l_26, l_27, l_30, l_31, l_32, l_40, l_48, l_57, l_59, l_60, l_61, l_62, l_64, l_83, l_90, l_97, l_99, l_100, l_108, l_115, l_122, l_123, l_127, l_128, l_131, l_135, l_200, l_255, l_256, l_300, l_487, l_495, l_900, l_999, l_1000, l_1700, l_1792, l_1980, l_2048, l_2475, l_2970, l_3121, l_9999, l_10000, l_11351, l_65536, l_100000, l_1000000, ↓l_m1, l_neg, nI_add, pk_mul, pk_sub, q_leT, q_leF, q_ltT, q_ltF, q_eqT, q_eqF, q_m1e, q_m1e2, q_m1lt, q_m1le, q_m1nl, q_m1nle, q_m1s, q_ix, q_jat, q_jput, q_min1, q_min2, q_max1, q_max2, q_or0, q_0or, q_bs, if_true, if_false, true_and, and_true, false_and, and_false, not_true_eq_false, not_false_eq_true, eq_self, Bool.false_eq_true, q_z0, q_z1, q_wT]; rfl
    · unfold X12_mean X12_mean_j35; simp (disch := omega) only [l_0, l_1, l_2, l_3, l_4, l_5, l_6, l_7, l_8, l_9, l_10, l_11, l_12, l_13, l_14, l_15, l_16, l_17, l_18, l_19, l_20, l_21, l_22, l_23, l_24, l_25, l_26, l_27, l_30, l_31, l_32, l_40, l_48, l_57, l_59, l_60, l_61, l_62, l_64, l_83, l_90, l_97, l_99, l_100, l_108, l_115, l_122, l_123, l_127, l_128, l_131, l_135, l_200, l_255, l_256, l_300, l_487, l_495, l_900, l_999, l_1000, l_1700, l_1792, l_1980, l_2048, l_2475, l_2970, l_3121, l_9999, l_10000, l_11351, l_65536, l_100000, l_1000000, ↓l_m1, l_neg, nI_add, pk_mul, pk_sub, q_leT, q_leF, q_ltT, q_ltF, q_eqT, q_eqF, q_m1e, q_m1e2, q_m1lt, q_m1le, q_m1nl, q_m1nle, q_m1s, q_ix, q_jat, q_jput, q_min1, q_min2, q_max1, q_max2, q_or0, q_0or, q_bs, if_true, if_false, true_and, and_true, false_and, and_false, not_true_eq_false, not_false_eq_true, eq_self, Bool.false_eq_true, q_z0, q_z1, f1, f2, q_isn]
  rcases WK_of wr with ⟨w0, g9⟩ | ⟨w1, R, m, dep, enc, nw, hk⟩
  · refine no _ _ (nI 6) ?_ ?_
    · unfold X11_mean X11_refused; simp (disch := omega) only [l_0, l_1, l_2, l_3, l_4, l_5, l_6, l_7, l_8, l_9, l_10, l_11, l_12, l_13, l_14, l_15, l_16, l_17, l_18, l_19, l_20, l_21, l_22, l_23, l_24, l_25, l_26, l_27, l_30, l_31, l_32, l_40, l_48, l_57, l_59, l_60, l_61, l_62, l_64, l_83, l_90, l_97, l_99, l_100, l_108, l_115, l_122, l_123, l_127, l_128, l_131, l_135, l_200, l_255, l_256, l_300, l_487, l_495, l_900, l_999, l_1000, l_1700, l_1792, l_1980, l_2048, l_2475, l_2970, l_3121, l_9999, l_10000, l_11351, l_65536, l_100000, l_1000000, ↓l_m1, l_neg, nI_add, pk_mul, pk_sub, q_leT, q_leF, q_ltT, q_ltF, q_eqT, q_eqF, q_m1e, q_m1e2, q_m1lt, q_m1le, q_m1nl, q_m1nle, q_m1s, q_ix, q_jat, q_jput, q_min1, q_min2, q_max1, q_max2, q_or0, q_0or, q_bs, if_true, if_false, true_and, and_true, false_and, and_false, not_true_eq_false, not_false_eq_true, eq_self, Bool.false_eq_true, q_z0, q_z1, q_wT, w0]; rfl
    · unfold X12_mean; simp (disch := omega) only [l_0, l_1, l_2, l_3, l_4, l_5, l_6, l_7, l_8, l_9, l_10, l_11, l_12, l_13, l_14, l_15, l_16, l_17, l_18, l_19, l_20, l_21, l_22, l_23, l_24, l_25, l_26, l_27, l_30, l_31, l_32, l_40, l_48, l_57, l_59, l_60, l_61, l_62, l_64, l_83, l_90, l_97, l_99, l_100, l_108, l_115, l_122, l_123, l_127, l_128, l_131, l_135, l_200, l_255, l_256, l_300, l_487, l_495, l_900, l_999, l_1000, l_1700, l_1792, l_1980, l_2048, l_2475, l_2970, l_3121, l_9999, l_10000, l_11351, l_65536, l_100000, l_1000000, ↓l_m1, l_neg, nI_add, pk_mul, pk_sub, q_leT, q_leF, q_ltT, q_ltF, q_eqT, q_eqF, q_m1e, q_m1e2, q_m1lt, q_m1le, q_m1nl, q_m1nle, q_m1s, q_ix, q_jat, q_jput, q_min1, q_min2, q_max1, q_max2, q_or0, q_0or, q_bs, if_true, if_false, true_and, and_true, false_and, and_false, not_true_eq_false, not_false_eq_true, eq_self, Bool.false_eq_true, q_z0, q_z1, f1, f2, g9, q_isn]
  · have g9 := hk.2.2.2.2.1
    have m60 := hk.1
    obtain ⟨cs, d, rs, g, f, l, rn, W, b1, b2, b3, b4, b5, b6⟩ := mean_it (F := F) (S := S) (T := T) (sd := sd) (many := many) (T.1 0) (T.2.1 0) (T.2.1 1) hC nw hk (by omega) m20 hF (T.1 16) (T.1 17) (T.2.2.1 6) (T.2.2.1 11) (T.2.2.1 12) many (Nat.le_refl _)
    have tl := nI_l (n := many) (by omega)
    have fr1 := c_frac (F := F) (o1 := S.2.1 0) (o2 := S.2.1 1) (a := W) (b := many) (by omega) (by omega) (by omega) (by omega)
    have fr2 := m_frac (F := F) (s := T.1 0) (o1 := T.2.1 0) (o2 := T.2.1 1) (a := W) (b := many) (by omega) (by omega) (by omega) (by omega)
    obtain ⟨E, e1, e2⟩ : ∃ E, iter (MB F S (nI sd) (nI many)) F (M0 S) = some E ∧ E.2.1 0 = lN W := by
      obtain ⟨G, rfl⟩ : ∃ G, F = G + 1 + many := ⟨F - 1 - many, by omega⟩
      rw [b1]
      have : MB (G + 1 + many) S (nI sd) (nI many) cs = some (.inr (mkS [(cs.1 1), (cs.1 2), (cs.1 3), (cs.1 4), (cs.1 5), (cs.1 6), (cs.1 7), (cs.1 8), (cs.1 9), (cs.1 10), (cs.1 11), (cs.1 12), (cs.1 13), (cs.1 14), (cs.1 15), (cs.1 16), (cs.1 17), (cs.1 18), (cs.1 19), (cs.1 20)] [(cs.2.1 0)] [(cs.2.2.1 0), (cs.2.2.1 1), (cs.2.2.1 2), (cs.2.2.1 3), (cs.2.2.1 4), (cs.2.2.1 5), (cs.2.2.1 6), (cs.2.2.1 7), (cs.2.2.1 8), (cs.2.2.1 9), (cs.2.2.1 10), (cs.2.2.1 11)] [(cs.2.2.2 0)])) := by
        unfold MB X11_mean_b60
        rw [if_pos (by rw [b3]; exact Int32.le_refl _)]
      exact ⟨_, iter_r this G, b4⟩
    have e3 : iter (X12_mean_b71 F (T.1 0) (T.2.1 0) (T.2.1 1) (nI sd) (nI many)) F (lN 0, nI 0, T.1 16, T.1 17, putN (T.2.2.1 0) (T.2.2.1 0) 2475 127, T.2.2.1 6, T.2.2.1 11, T.2.2.1 12) = some (lN W, d, rs, g, f, l, rn) := by
      obtain ⟨G, rfl⟩ : ∃ G, F = G + 1 + many := ⟨F - 1 - many, by omega⟩
      rw [b2]
      refine iter_r ?_ G
      unfold X12_mean_b71
      simp (disch := omega) only [l_0, l_1, l_2, l_3, l_4, l_5, l_6, l_7, l_8, l_9, l_10, l_11, l_12, l_13, l_14, l_15, l_16, l_17, l_18, l_19, l_20, l_21, l_22, l_23, l_24, l_25, l_26, l_27, l_30, l_31, l_32, l_40, l_48, l_57, l_59, l_60, l_61, l_62, l_64, l_83, l_90, l_97, l_99, l_100, l_108, l_115, l_122, l_123, l_127, l_128, l_131, l_135, l_200, l_255, l_256, l_300, l_487, l_495, l_900, l_999, l_1000, l_1700, l_1792, l_1980, l_2048, l_2475, l_2970, l_3121, l_9999, l_10000, l_11351, l_65536, l_100000, l_1000000, ↓l_m1, l_neg, nI_add, pk_mul, pk_sub, q_leT, q_leF, q_ltT, q_ltF, q_eqT, q_eqF, q_m1e, q_m1e2, q_m1lt, q_m1le, q_m1nl, q_m1nle, q_m1s, q_ix, q_jat, q_jput, q_min1, q_min2, q_max1, q_max2, q_or0, q_0or, q_bs, if_true, if_false, true_and, and_true, false_and, and_false, not_true_eq_false, not_false_eq_true, eq_self, Bool.false_eq_true, q_z0, q_z1]
    refine ⟨mkS [nI 1, nI 0, (E.1 0), (E.1 1), (E.1 2), (E.1 3), (E.1 4), (E.1 5), (E.1 6), (E.1 7), (E.1 8), (E.1 9), (E.1 10), (E.1 11), (E.1 12), (E.1 13), (E.1 14), (E.1 15), (E.1 16), (E.1 17), (E.1 18), (E.1 19)] [lN (W / Nat.gcd W many), lN (many / Nat.gcd W many)] [(E.2.2.1 0), (E.2.2.1 1), (E.2.2.1 2), (E.2.2.1 3), (E.2.2.1 4), (E.2.2.1 5), (E.2.2.1 6), (E.2.2.1 7), (E.2.2.1 8), (E.2.2.1 9), (E.2.2.1 10), (E.2.2.1 11)] [(E.2.2.2 0)], d, rs, g, f, l, rn, ?_, ?_, fun k hk => by rw [b6]; unfold putN; rw [if_neg (by omega)]⟩
    · unfold X11_mean
      rw [show (0 : Int32) = nI 0 from rfl, show (9999 : Int32) = nI 9999 from rfl, show (1 : Int32) = nI 1 from rfl, show (20 : Int32) = nI 20 from rfl, q_wT (Nat.zero_le _) hs (by omega), q_bs, if_neg (show ¬ nI 1 = nI 0 by decide), q_wT m1' m20 (by omega), q_bs, if_neg (show ¬ nI 1 = nI 0 by decide), nI_add, pk_sub (by omega), if_pos (nI_le q9 (by omega)), if_neg (show ¬ S.1 10 = nI 0 by rw [w1]; decide)]
      show (iter (MB F S (nI sd) (nI many)) F (M0 S)).bind _ = _
      rw [e1, q_bs, e2, tl, fr1, q_bs]
      rfl
    · unfold X12_mean
      have lz : (0 : Int64) = lN 0 := rfl
      simp (disch := omega) only [l_0, l_1, l_2, l_3, l_4, l_5, l_6, l_7, l_8, l_9, l_10, l_11, l_12, l_13, l_14, l_15, l_16, l_17, l_18, l_19, l_20, l_21, l_22, l_23, l_24, l_25, l_26, l_27, l_30, l_31, l_32, l_40, l_48, l_57, l_59, l_60, l_61, l_62, l_64, l_83, l_90, l_97, l_99, l_100, l_108, l_115, l_122, l_123, l_127, l_128, l_131, l_135, l_200, l_255, l_256, l_300, l_487, l_495, l_900, l_999, l_1000, l_1700, l_1792, l_1980, l_2048, l_2475, l_2970, l_3121, l_9999, l_10000, l_11351, l_65536, l_100000, l_1000000, ↓l_m1, l_neg, nI_add, pk_mul, pk_sub, q_leT, q_leF, q_ltT, q_ltF, q_eqT, q_eqF, q_m1e, q_m1e2, q_m1lt, q_m1le, q_m1nl, q_m1nle, q_m1s, q_ix, q_jat, q_jput, q_min1, q_min2, q_max1, q_max2, q_or0, q_0or, q_bs, if_true, if_false, true_and, and_true, false_and, and_false, not_true_eq_false, not_false_eq_true, eq_self, Bool.false_eq_true, q_z0, q_z1, f1, f2, g9, keeps_e]
      rw [show (0 : Int64) = lN 0 from rfl, e3, q_bs, tl, fr2, q_bs]
      rfl
