/-! ===== PURE 19.f: live ===== -/
theorem nI_cg {x y : Nat} (h : x % 2 ^ 32 = y % 2 ^ 32) : nI x = nI y := Int32.toBitVec_inj.1 (by
  show BitVec.ofNat 32 x = BitVec.ofNat 32 y
  exact BitVec.eq_of_toNat_eq (by rw [BitVec.toNat_ofNat, BitVec.toNat_ofNat, h]))
theorem i_diff {a b : Nat} (h : a ≤ b) : nI 0 + m1 * nI a + nI 1 * nI b = nI (b - a) := by
  obtain ⟨c, rfl⟩ : ∃ c, b = c + a := ⟨b - a, by omega⟩
  rw [show m1 = nI 4294967295 from by decide, pk_mul, pk_mul, nI_add, nI_add]
  refine nI_cg ?_
  omega
theorem c_addT {F : Nat} {C : Cy} {hf wf : Nat → Int32} (h p w v : Int32) (ok : Ok C) (hH : CH C hf) (hW : CW C wf) (hF : 100 < F) : X2_addTallies F h p w (nI (C 0 0 8)) (nI (C 0 0 3)) hf (nI (C 0 0 4)) wf v = some (h + v * nI (C 0 0 8), p + v * nI (fct C), w + v * nI (wsm C)) := by
  have o0 := ok.1
  have w1 := c_withFate (f := 1) ok hH (by omega) hF
  have l1 := fateSet_lt ok 1
  have q1 := q_popc (n := setOf (fate C 1) (C 0 0 3)) (by omega)
  rw [popc_setOf _ (by omega)] at q1
  have aw := c_allW ok hW hF
  unfold X2_addTallies
  rw [show (1 : Int32) = nI 1 from rfl, w1, q_bs, q1, q_bs]
  show (X7_sum F 12 (nI 3) (nI (C 0 0 4)) wf (nI 2)).bind _ = _
  rw [aw, q_bs]; rfl
theorem both_live {F : Nat} {C : Cy} {R : Nat → Nat → Nat} {m s : Nat} {wk g f loops ran tf df xf hf wf b e t : Nat → Int32} {dep : Nat → Nat} {enc : Nat → Nat → Nat} (ok : Ok C) (h8 : C 0 0 8 ≤ 9999) (wb : WB C) (hT : CT C tf) (hD : CF C df) (hX : CX C xf) (hH : CH C hf) (hW : CW C wf) (hM : MS C g) (hk : WK C R m wk g dep enc) (hs : s < 65536) (hF : 200000 < F) (a1 a2 a3 a4 a5 a6 a7 a8 d0 r0 : Int32) :
    ∃ (D : Cy) (s' n' : Nat) (b' e' t' xf' hf' wf' g' f' loops' ran' : Nat → Int32),
      X2_pass F a1 a2 a3 a4 a5 a6 a7 a8 b e t (nI (C 0 0 5)) (nI (C 0 0 6)) (nI (C 0 0 8)) (nI (C 0 0 0)) tf df (nI (C 0 0 2)) xf (nI (C 0 0 3)) hf (nI (C 0 0 4)) wf (nI (cls R m)) wk (nI s) = some (mkS [nI n', nI s', nI n', nI 1, ran' 0, ran' 1, ran' 2, ran' 3, ran' 4, nI (D 0 0 8)] [] [b', e', t', xf', hf', wf'] []) ∧
      X12_lives F d0 r0 g f loops ran (nI s) = some (nI s', nI n', g', f', loops', ran') ∧ CX D xf' ∧ CH D hf' ∧ CW D wf' ∧ MS D g' ∧ Fr g g' ∧ Dv C D := by
  obtain ⟨rz, z1, z2⟩ := it_rel (b := X12_lives_b12 F (nI s) 0 g f loops) 5 (fun i s => ∃ f, s = (nI i, f) ∧ ∀ k, k < i → f k = nI 0) (fun f => ∀ k, k < 5 → f k = nI 0) (fun i s hi hs => by
      obtain ⟨f, rfl, hf⟩ := hs
      refine Or.inl ⟨(nI (i + 1), upd f i (nI 0)), ?_, _, rfl, fun k hk => ?_⟩
      · unfold X12_lives_b12
        simp (disch := omega) only [l_0, l_1, l_2, l_3, l_4, l_5, l_6, l_7, l_8, l_9, l_10, l_11, l_12, l_13, l_14, l_15, l_16, l_17, l_18, l_19, l_20, l_21, l_22, l_23, l_24, l_25, l_26, l_27, l_30, l_31, l_32, l_40, l_48, l_57, l_59, l_60, l_61, l_62, l_64, l_83, l_90, l_97, l_99, l_100, l_108, l_115, l_122, l_123, l_127, l_128, l_131, l_135, l_200, l_255, l_256, l_300, l_487, l_495, l_900, l_999, l_1000, l_1700, l_1792, l_1980, l_2048, l_2475, l_2970, l_3121, l_9999, l_10000, l_11351, l_65536, l_100000, l_1000000, ↓l_m1, l_neg, nI_add, pk_mul, pk_sub, q_leT, q_leF, q_ltT, q_ltF, q_eqT, q_eqF, q_m1e, q_m1e2, q_m1lt, q_m1le, q_m1nl, q_m1nle, q_m1s, q_ix, q_jat, q_jput, q_min1, q_min2, q_max1, q_max2, q_or0, q_0or, q_bs, if_true, if_false, true_and, and_true, false_and, and_false, not_true_eq_false, not_false_eq_true, eq_self, Bool.false_eq_true, q_z0, q_z1]
      · by_cases e : k = i
        · rw [e, pk_us]
        · rw [pk_un e]; exact hf k (by omega)) (fun s hs => by
      obtain ⟨f, rfl, hf⟩ := hs
      refine ⟨f, ?_, hf⟩
      unfold X12_lives_b12
      simp (disch := omega) only [l_0, l_1, l_2, l_3, l_4, l_5, l_6, l_7, l_8, l_9, l_10, l_11, l_12, l_13, l_14, l_15, l_16, l_17, l_18, l_19, l_20, l_21, l_22, l_23, l_24, l_25, l_26, l_27, l_30, l_31, l_32, l_40, l_48, l_57, l_59, l_60, l_61, l_62, l_64, l_83, l_90, l_97, l_99, l_100, l_108, l_115, l_122, l_123, l_127, l_128, l_131, l_135, l_200, l_255, l_256, l_300, l_487, l_495, l_900, l_999, l_1000, l_1700, l_1792, l_1980, l_2048, l_2475, l_2970, l_3121, l_9999, l_10000, l_11351, l_65536, l_100000, l_1000000, ↓l_m1, l_neg, nI_add, pk_mul, pk_sub, q_leT, q_leF, q_ltT, q_ltF, q_eqT, q_eqF, q_m1e, q_m1e2, q_m1lt, q_m1le, q_m1nl, q_m1nle, q_m1s, q_ix, q_jat, q_jput, q_min1, q_min2, q_max1, q_max2, q_or0, q_0or, q_bs, if_true, if_false, true_and, and_true, false_and, and_false, not_true_eq_false, not_false_eq_true, eq_self, Bool.false_eq_true, q_z0, q_z1]) (s0 := (nI 0, ran)) ⟨ran, rfl, fun k hk => by omega⟩ (show 5 < F by omega)
  have hN := hk.2.2.2.2.2.2.1
  have dv : Dv C C := ⟨ok, h8, wb, SameS_r C, fun _ _ => rfl⟩
  have tl : TL C C rz := ⟨Nat.le_refl _, Nat.le_refl _, Nat.le_refl _, by rw [z2 1 (by omega), Nat.sub_self], by rw [z2 2 (by omega), Nat.sub_self], by rw [z2 3 (by omega), Nat.sub_self]⟩
  have nc : 0 = m ∨ R 0 0 ≠ 19 := by
    by_cases q : 0 = m
    · exact Or.inl q
    · refine Or.inr (fun h19 => ?_)
      have := ((hN.2 0 (by omega)).2.2.1 h19).1
      rw [hN.1] at this; omega
  have ad1 := c_addT (F := F) 0 0 0 m1 ok hH hW (by omega)
  obtain ⟨D, s', n', N, mis', unf, b', e', t', xf', hf', wf', g', f', loops', ran', n1, n2, n3, n4, n5, n6, n7, n8, n9, n10, n11, n12⟩ := sim (F := F) (h0 := 0 + m1 * nI (C 0 0 8)) (p0 := 0 + m1 * nI (fct C)) (w0 := 0 + m1 * nI (wsm C)) hF hT hD 300 0 (by omega) C 0 s 0 b e t xf hf wf g f loops rz (fun _ => 0) (nI 0) hk (Nat.zero_le _) nc dv hX hH hW hM (Fr_r g) tl hs (z2 0 (by omega)) (z2 4 (by omega)) (fun d hd => by rw [hN.1] at hd; omega) (by rw [hN.1]; exact Nat.le_refl _)
  rw [hN.1] at n2
  have n2' := iter_mono N _ _ n2 F (by omega)
  have y3 := n9.2.2.2.2 3 (by omega)
  have y4 := n9.2.2.2.2 4 (by omega)
  have ad2 := c_addT (F := F) (0 + m1 * nI (C 0 0 8)) (0 + m1 * nI (fct C)) (0 + m1 * nI (wsm C)) (nI 1) n9.1 n5 n6 (by omega)
  rw [y3, y4] at ad2
  obtain ⟨t1, t2, t3, t4, t5, t6⟩ := n10
  have e1 := i_diff t1
  have e2 := i_diff t2
  have e3 := i_diff t3
  rw [← t4] at e1
  rw [← t5] at e2
  rw [← t6] at e3
  rw [show (0 : Int32) + m1 * nI (C 0 0 8) + nI 1 * nI (D 0 0 8) = ran' 1 from e1, show (0 : Int32) + m1 * nI (fct C) + nI 1 * nI (fct D) = ran' 2 from e2, show (0 : Int32) + m1 * nI (wsm C) + nI 1 * nI (wsm D) = ran' 3 from e3] at ad2
  refine ⟨D, s', n', b', e', t', xf', hf', wf', g', f', loops', ran', ?_, ?_, n4, n5, n6, n7, n8, n9⟩
  · unfold X2_pass X2_begin
    rw [show (-1 : Int32) = m1 from rfl, ad1, q_bs, q_bs]
    show (iter (B14 F (0 + m1 * nI (C 0 0 8)) (0 + m1 * nI (fct C)) (0 + m1 * nI (wsm C)) C tf df (cls R m) wk) F (lvS (nI (cls R 0)) (nI 0) (nI 0) (nI s) (nI 0) (nI 0) (nI 0) (nI 0) (nI (C 0 0 8)) b e t xf hf wf)).bind _ = _
    rw [n2', q_bs]
    show X2_pass_j222 F (nI s') (nI n') (nI 1) mis' (0 + m1 * nI (C 0 0 8)) (0 + m1 * nI (fct C)) (0 + m1 * nI (wsm C)) unf b' e' t' (nI (C 0 0 5)) (nI (C 0 0 6)) (nI (D 0 0 8)) (nI (C 0 0 0)) tf df (nI (C 0 0 2)) xf' (nI (C 0 0 3)) hf' (nI (C 0 0 4)) wf' (nI (cls R m)) wk = _
    unfold X2_pass_j222
    rw [show (1 : Int32) = nI 1 from rfl, ad2, q_bs, ← n11, ← n12]
  · unfold X12_lives
    rw [show ((0 : Int32), ran) = (nI 0, ran) from rfl, z1, q_bs]
    exact n3 F (by omega)
theorem City_dv {C D : Cy} {ci ci' : Nat → Int32} {ca ca' : Nat → Nat → Int32} {cl : Nat → Int64} {g g' : Nat → Int32} {nm : Nat → Int64} (h : CityOK C ci ca cl g nm) (dv : Dv C D)
    (h3 : ci' 3 = nI (D 0 0 8)) (h1 : ∀ k, k ≠ 3 → k < 12 → ci' k = ci k) (h2 : ∀ k, k < 9 → k ≠ 5 → k ≠ 6 → k ≠ 7 → ca' k = ca k)
    (hX : CX D (ca' 5)) (hH : CH D (ca' 6)) (hW : CW D (ca' 7)) (hM : MS D g') (hF : Fr g g') : CityOK D ci' ca' cl g' nm := by
  obtain ⟨a1, a2, a3, ⟨⟨c0, c1, c2, c3, c5, c6, c8, c9, c10⟩, cR, cT, cF, cX, cH, cW⟩, a5, a6, a7⟩ := h
  obtain ⟨d1, d2, d3, ss, z⟩ := dv
  refine ⟨d1, d2, d3, ⟨⟨?_, ?_, ?_, h3, ?_, ?_, ?_, ?_, ?_⟩, ?_, ?_, ?_, hX, hH, hW⟩, hM, ?_, ?_⟩
  · rw [h1 0 (by omega) (by omega), z 5 (by omega)]; exact c0
  · rw [h1 1 (by omega) (by omega), z 6 (by omega)]; exact c1
  · rw [h1 2 (by omega) (by omega), z 7 (by omega)]; exact c2
  · rw [h1 5 (by omega) (by omega), z 0 (by omega)]; exact c5
  · rw [h1 6 (by omega) (by omega), z 1 (by omega)]; exact c6
  · rw [h1 8 (by omega) (by omega), z 2 (by omega)]; exact c8
  · rw [h1 9 (by omega) (by omega), z 3 (by omega)]; exact c9
  · rw [h1 10 (by omega) (by omega), z 4 (by omega)]; exact c10
  · intro r c hr hc
    rw [z 1 (by omega)] at hr
    rw [h2 0 (by omega) (by omega) (by omega) (by omega), ss.2.2]; exact cR r c hr hc
  · rw [h2 1 (by omega) (by omega) (by omega) (by omega)]; exact CT_s cT ss
  · rw [h2 2 (by omega) (by omega) (by omega) (by omega)]; exact CF_s cF ss
  · rw [h1 7 (by omega) (by omega), h2 3 (by omega) (by omega) (by omega) (by omega), h2 4 (by omega) (by omega) (by omega) (by omega)]
    exact NR_same a6 (fun k hk => z k (by omega))
  · rw [h1 4 (by omega) (by omega), h1 11 (by omega) (by omega), h2 8 (by omega) (by omega) (by omega) (by omega)]
    exact WR_le (WR_cong a7 (fun k hk => hF k (by omega))) (by rw [z 0 (by omega)]; exact Nat.le_refl _) (by rw [z 2 (by omega)]; exact Nat.le_refl _) (by rw [z 3 (by omega)]; exact Nat.le_refl _) (by rw [z 4 (by omega)]; exact Nat.le_refl _)
theorem RelR_lv {S S' T T' : vS} (h : RelR S T) (s1 : ∀ k, (k = 0 ∨ (2 ≤ k ∧ k < 5) ∨ (30 ≤ k ∧ k < 67)) → S'.1 k = S.1 k) (s2 : S'.2.1 0 = S.2.1 0 ∧ S'.2.1 1 = S.2.1 1) (s3 : ∀ k, ((18 ≤ k ∧ k < 46) ∨ k = 57 ∨ k = 58) → S'.2.2.1 k = S.2.2.1 k) (s4 : ∀ k, ((2 ≤ k ∧ k < 5) ∨ k = 6) → S'.2.2.2 k = S.2.2.2 k)
    (t1 : ∀ k, (k = 1 ∨ k = 7 ∨ k = 8 ∨ k = 19) → T'.1 k = T.1 k) (t2 : T'.2.1 0 = T.2.1 0 ∧ T'.2.1 1 = T.2.1 1) (t3 : ∀ k, 495 ≤ k → k < 1980 → T'.2.2.1 0 k = T.2.2.1 0 k) (t4 : ∀ k, (k = 1 ∨ k = 2 ∨ k = 3) → T'.2.2.1 k = T.2.2.1 k) (t5 : ∀ k, 27 ≤ k → k < 108 → T'.2.2.2 0 k = T.2.2.2 0 k) (t6 : T'.2.2.2 1 = T.2.2.2 1) (lv : R_lv S' T') : RelR S' T' := by
  obtain ⟨a1, a2, a3, a4, a5, a6⟩ := h
  refine ⟨?_, ?_, ?_, ?_, lv, ?_⟩
  · unfold R_fr at a1 ⊢; rw [s2.1, s2.2, t2.1, t2.2]; exact a1
  · unfold R_tr at a2 ⊢; rw [s4 6 (by omega), s3 57 (by omega), s3 58 (by omega), t6, t4 1 (by omega), t4 2 (by omega)]; exact a2
  · unfold R_tp at a3 ⊢; rw [s1 66 (by omega), t1 1 (by omega), s3 45 (by omega), t4 3 (by omega)]; exact a3
  · unfold R_ft at a4 ⊢; rw [s1 2 (by omega), s1 3 (by omega), s1 4 (by omega), t1 7 (by omega), t1 8 (by omega)]; exact a4
  · obtain ⟨m, b1, b2, b3, b4⟩ := a6
    refine ⟨m, b1, by rw [s1 0 (by omega)]; exact b2, by rw [t1 19 (by omega)]; exact b3, fun i hi => ?_⟩
    obtain ⟨C, hc⟩ := b4 i hi
    exact ⟨C, CityOK_cong hc (fun k hk => s1 _ (by omega)) (fun k hk => s3 _ (by omega)) (s4 _ (by omega)) (fun k hk => t3 _ (by omega) (by omega)) (fun k hk => t5 _ (by omega) (by omega))⟩
theorem live_lift {S T : vS} (h : Rel S T) {x : Option vS} {y : Option (Int32 × Int32 × Int32 × Int32 × Int32 × (Nat → Int32) × (Nat → Int32) × (Nat → Int32) × (Nat → Int32) × (Nat → Int32))}
    (hxy : ∃ U d rs tl g f l rn t1 D, x = some U ∧ y = some (U.1 0, U.1 2, d, rs, tl, g, f, l, rn, t1) ∧ ((U.1 1 = 0 ∧ tl = 0) ∨ (U.1 1 = 1 ∧ tl = 1 ∧ ∀ k, k < 5 → U.2.2.1 6 k = t1 k)) ∧ CityOK D (va_up (fun k => S.1 (6 + k)) 3 (U.1 3)) (va_up (va_up (va_up S.2.2.1 5 (U.2.2.1 0)) 6 (U.2.2.1 1)) 7 (U.2.2.1 2)) (S.2.2.2 0) g (T.2.2.2 0) ∧ ∀ k, 495 ≤ k → k < 1980 → g k = T.2.2.1 0 k) :
    ∃ (r : Int32) (S2 T2 : vS), x.map (fun u => ((u.1 0), (sA (sA (sA (sA (sI (sI (sI (sI (sI (sI (sI (sI (sA (sA (sA (sI (sI (sI S 1 (u.1 1)) 5 (u.1 2)) 9 (u.1 3)) 5 (u.2.2.1 0)) 6 (u.2.2.1 1)) 7 (u.2.2.1 2)) 91 (u.1 4)) 92 (u.1 5)) 93 (u.1 6)) 94 (u.1 7)) 95 (u.1 8)) 96 (u.1 9)) 97 (u.1 10)) 98 (u.1 11)) 62 (u.2.2.1 3)) 63 (u.2.2.1 4)) 64 (u.2.2.1 5)) 65 (u.2.2.1 6)))) = some (r, S2) ∧ y.map (fun u => (u.1, (sA (sA (sA (sA (sA (sI (sI (sI (sI T 0 u.2.1) 16 u.2.2.1) 17 u.2.2.2.1) 18 u.2.2.2.2.1) 0 u.2.2.2.2.2.1) 6 u.2.2.2.2.2.2.1) 11 u.2.2.2.2.2.2.2.1) 12 u.2.2.2.2.2.2.2.2.1) 13 u.2.2.2.2.2.2.2.2.2))) = some (r, T2) ∧ Rel S2 T2 := by
  obtain ⟨U, d, rs, tl, g, f, l, rn, t1, D, rfl, rfl, hl, hc, hg⟩ := hxy
  refine ⟨U.1 0, _, _, rfl, rfl, Rel_of (RelR_lv (Rel_R h) (fun k hk => ?_) ⟨rfl, rfl⟩ (fun k hk => ?_) (fun _ _ => rfl) (fun k hk => ?_) ⟨rfl, rfl⟩ (fun k h1 h2 => ?_) (fun k hk => ?_) (fun _ _ _ => rfl) rfl ?_) ?_ (R_ci_of (C := D) (CityOK_cong hc (fun k hk => ?_) (fun k hk => ?_) rfl (fun k hk => ?_) (fun _ _ => rfl)))⟩
  · simp (disch := omega) only [sI, sA, sB, up_n]
  · simp (disch := omega) only [sI, sA, sB, up_n]
  · simp (disch := omega) only [sI, sA, sB, up_n]
  · simp (disch := omega) only [sI, sA, sB, up_n, up_s]; exact hg k h1 h2
  · simp (disch := omega) only [sI, sA, sB, up_n]
  · unfold R_lv
    simp (disch := omega) only [sI, sA, sB, up_n, up_s]
    exact hl
  · unfold R_st
    simp (disch := omega) only [sI, sA, sB, up_n, up_s]
  · by_cases e : k = 3
    · subst e; simp (disch := omega) only [sI, sA, sB, up_n, up_s]
    · simp (disch := omega) only [sI, sA, sB, up_n]
  · simp (disch := omega) only [sI, sA, sB, up_n]
  · simp (disch := omega) only [sI, sA, sB, up_n, up_s]
theorem tells_e {mi ho ha wa un : Int32} {r : Nat → Int32} (h0 : r 0 = mi) (h1 : r 1 = ho) (h2 : r 2 = ha) (h3 : r 3 = wa) (h4 : r 4 = un) {i : Nat} (hi : i < 5) : X2_tells mi ho ha wa un (nI i) = some (r i) := by
  unfold X2_tells
  rcases (show i = 0 ∨ i = 1 ∨ i = 2 ∨ i = 3 ∨ i = 4 by omega) with rfl | rfl | rfl | rfl | rfl
  · simp (disch := omega) only [l_0, l_1, l_2, l_3, l_4, l_5, l_6, l_7, l_8, l_9, l_10, l_11, l_12, l_13, l_14, l_15, l_16, l_17, l_18, l_19, l_20, l_21, l_22, l_23, l_24, l_25, l_26, l_27, l_30, l_31, l_32, l_40, l_48, l_57, l_59, l_60, l_61, l_62, l_64, l_83, l_90, l_97, l_99, l_100, l_108, l_115, l_122, l_123, l_127, l_128, l_131, l_135, l_200, l_255, l_256, l_300, l_487, l_495, l_900, l_999, l_1000, l_1700, l_1792, l_1980, l_2048, l_2475, l_2970, l_3121, l_9999, l_10000, l_11351, l_65536, l_100000, l_1000000, ↓l_m1, l_neg, nI_add, pk_mul, pk_sub, q_leT, q_leF, q_ltT, q_ltF, q_eqT, q_eqF, q_m1e, q_m1e2, q_m1lt, q_m1le, q_m1nl, q_m1nle, q_m1s, q_ix, q_jat, q_jput, q_min1, q_min2, q_max1, q_max2, q_or0, q_0or, q_bs, if_true, if_false, true_and, and_true, false_and, and_false, not_true_eq_false, not_false_eq_true, eq_self, Bool.false_eq_true, q_z0, q_z1, h0]
  · simp (disch := omega) only [l_0, l_1, l_2, l_3, l_4, l_5, l_6, l_7, l_8, l_9, l_10, l_11, l_12, l_13, l_14, l_15, l_16, l_17, l_18, l_19, l_20, l_21, l_22, l_23, l_24, l_25, l_26, l_27, l_30, l_31, l_32, l_40, l_48, l_57, l_59, l_60, l_61, l_62, l_64, l_83, l_90, l_97, l_99, l_100, l_108, l_115, l_122, l_123, l_127, l_128, l_131, l_135, l_200, l_255, l_256, l_300, l_487, l_495, l_900, l_999, l_1000, l_1700, l_1792, l_1980, l_2048, l_2475, l_2970, l_3121, l_9999, l_10000, l_11351, l_65536, l_100000, l_1000000, ↓l_m1, l_neg, nI_add, pk_mul, pk_sub, q_leT, q_leF, q_ltT, q_ltF, q_eqT, q_eqF, q_m1e, q_m1e2, q_m1lt, q_m1le, q_m1nl, q_m1nle, q_m1s, q_ix, q_jat, q_jput, q_min1, q_min2, q_max1, q_max2, q_or0, q_0or, q_bs, if_true, if_false, true_and, and_true, false_and, and_false, not_true_eq_false, not_false_eq_true, eq_self, Bool.false_eq_true, q_z0, q_z1, h1]
  · simp (disch := omega) only [l_0, l_1, l_2, l_3, l_4, l_5, l_6, l_7, l_8, l_9, l_10, l_11, l_12, l_13, l_14, l_15, l_16, l_17, l_18, l_19, l_20, l_21, l_22, l_23, l_24, l_25, l_26, l_27, l_30, l_31, l_32, l_40, l_48, l_57, l_59, l_60, l_61, l_62, l_64, l_83, l_90, l_97, l_99, l_100, l_108, l_115, l_122, l_123, l_127, l_128, l_131, l_135, l_200, l_255, l_256, l_300, l_487, l_495, l_900, l_999, l_1000, l_1700, l_1792, l_1980, l_2048, l_2475, l_2970, l_3121, l_9999, l_10000, l_11351, l_65536, l_100000, l_1000000, ↓l_m1, l_neg, nI_add, pk_mul, pk_sub, q_leT, q_leF, q_ltT, q_ltF, q_eqT, q_eqF, q_m1e, q_m1e2, q_m1lt, q_m1le, q_m1nl, q_m1nle, q_m1s, q_ix, q_jat, q_jput, q_min1, q_min2, q_max1, q_max2, q_or0, q_0or, q_bs, if_true, if_false, true_and, and_true, false_and, and_false, not_true_eq_false, not_false_eq_true, eq_self, Bool.false_eq_true, q_z0, q_z1, h2]
  · simp (disch := omega) only [l_0, l_1, l_2, l_3, l_4, l_5, l_6, l_7, l_8, l_9, l_10, l_11, l_12, l_13, l_14, l_15, l_16, l_17, l_18, l_19, l_20, l_21, l_22, l_23, l_24, l_25, l_26, l_27, l_30, l_31, l_32, l_40, l_48, l_57, l_59, l_60, l_61, l_62, l_64, l_83, l_90, l_97, l_99, l_100, l_108, l_115, l_122, l_123, l_127, l_128, l_131, l_135, l_200, l_255, l_256, l_300, l_487, l_495, l_900, l_999, l_1000, l_1700, l_1792, l_1980, l_2048, l_2475, l_2970, l_3121, l_9999, l_10000, l_11351, l_65536, l_100000, l_1000000, ↓l_m1, l_neg, nI_add, pk_mul, pk_sub, q_leT, q_leF, q_ltT, q_ltF, q_eqT, q_eqF, q_m1e, q_m1e2, q_m1lt, q_m1le, q_m1nl, q_m1nle, q_m1s, q_ix, q_jat, q_jput, q_min1, q_min2, q_max1, q_max2, q_or0, q_0or, q_bs, if_true, if_false, true_and, and_true, false_and, and_false, not_true_eq_false, not_false_eq_true, eq_self, Bool.false_eq_true, q_z0, q_z1, h3]
  · simp (disch := omega) only [l_0, l_1, l_2, l_3, l_4, l_5, l_6, l_7, l_8, l_9, l_10, l_11, l_12, l_13, l_14, l_15, l_16, l_17, l_18, l_19, l_20, l_21, l_22, l_23, l_24, l_25, l_26, l_27, l_30, l_31, l_32, l_40, l_48, l_57, l_59, l_60, l_61, l_62, l_64, l_83, l_90, l_97, l_99, l_100, l_108, l_115, l_122, l_123, l_127, l_128, l_131, l_135, l_200, l_255, l_256, l_300, l_487, l_495, l_900, l_999, l_1000, l_1700, l_1792, l_1980, l_2048, l_2475, l_2970, l_3121, l_9999, l_10000, l_11351, l_65536, l_100000, l_1000000, ↓l_m1, l_neg, nI_add, pk_mul, pk_sub, q_leT, q_leF, q_ltT, q_ltF, q_eqT, q_eqF, q_m1e, q_m1e2, q_m1lt, q_m1le, q_m1nl, q_m1nle, q_m1s, q_ix, q_jat, q_jput, q_min1, q_min2, q_max1, q_max2, q_or0, q_0or, q_bs, if_true, if_false, true_and, and_true, false_and, and_false, not_true_eq_false, not_false_eq_true, eq_self, Bool.false_eq_true, q_z0, q_z1, h4]
theorem WK_of {C : Cy} {hw nW : Int32} {wf g : Nat → Int32} (h : WR C hw nW wf g) : (hw = nI 0 ∧ g 9 = m1) ∨ (hw = nI 1 ∧ ∃ R m dep enc, nW = nI (cls R m) ∧ WK C R m wf g dep enc) := by
  rcases h with h | ⟨h, R, m, b1, b2, b3, b4, b5, b6, b7, dep, enc, b8, b9⟩
  · exact Or.inl h
  · exact Or.inr ⟨h, R, m, dep, enc, b4, b1, b2, b5, b6, b3, b7, b8, b9⟩
theorem ok_live' {F : Nat} (hF : 200000 < F) : ok_live F Rel := fun S T v h => by
  obtain ⟨C, hC⟩ := Rel_city h
  have hC' := hC
  obtain ⟨ok, h8, wb, ⟨⟨c0, c1, c2, c3, c5, c6, c8, c9, c10⟩, cR, cT, cF, cX, cH, cW⟩, hM, nr, wr⟩ := hC'
  have c0 : S.1 6 = nI (C 0 0 5) := c0; have c1 : S.1 7 = nI (C 0 0 6) := c1; have c2 : S.1 8 = nI (C 0 0 7) := c2; have c3 : S.1 9 = nI (C 0 0 8) := c3; have c5 : S.1 11 = nI (C 0 0 0) := c5; have c6 : S.1 12 = nI (C 0 0 1) := c6; have c8 : S.1 14 = nI (C 0 0 2) := c8; have c9 : S.1 15 = nI (C 0 0 3) := c9; have c10 : S.1 16 = nI (C 0 0 4) := c10; have cT : CT C (S.2.2.1 1) := cT; have cF : CF C (S.2.2.1 2) := cF; have cX : CX C (S.2.2.1 5) := cX; have cH : CH C (S.2.2.1 6) := cH; have cW : CW C (S.2.2.1 7) := cW
  have o0 := ok.1
  have wr : WR C (S.1 10) (S.1 17) (S.2.2.1 8) (T.2.2.1 0) := wr
  refine live_lift h ?_
  have lv := h.2.2.2.2.2.1
  have idC : CityOK C (va_up (fun k => S.1 (6 + k)) 3 (S.1 9)) (va_up (va_up (va_up S.2.2.1 5 (S.2.2.1 5)) 6 (S.2.2.1 6)) 7 (S.2.2.1 7)) (S.2.2.2 0) (T.2.2.1 0) (T.2.2.2 0) := by
    rw [up_id, up_id, up_id, up_id]
    exact hC
  have lv' : ∀ (U6 : Nat → Int32), (∀ k, U6 k = S.2.2.1 65 k) → ((S.1 1 = 0 ∧ T.1 18 = 0) ∨ (S.1 1 = 1 ∧ T.1 18 = 1 ∧ ∀ k, k < 5 → U6 k = T.2.2.1 13 k)) := fun U6 hU => by
    rcases lv with q | ⟨q1, q2, q3⟩
    · exact Or.inl q
    · exact Or.inr ⟨q1, q2, fun k hk => by rw [hU]; exact q3 k hk⟩
  rcases rngw v (a := 0) (b := 9999) (by omega) (by omega) with ⟨s, _, hs, rfl⟩ | hv
  case inr =>
    have f := q_fF (show (0 : Int64) = (nI 0).toInt64 by decide) (show (9999 : Int64) = (nI 9999).toInt64 by decide) hv
    refine ⟨mkS [m1, S.1 1, nI 1, S.1 9, S.1 91, S.1 92, S.1 93, S.1 94, S.1 95, S.1 96, S.1 97, S.1 98] [] [S.2.2.1 5, S.2.2.1 6, S.2.2.1 7, S.2.2.1 62, S.2.2.1 63, S.2.2.1 64, S.2.2.1 65] [], T.1 16, T.1 17, T.1 18, T.2.2.1 0, T.2.2.1 6, T.2.2.1 11, T.2.2.1 12, T.2.2.1 13, C, ?_, ?_, lv' _ (fun _ => rfl), idC, fun _ _ _ => rfl⟩
    · unfold X11_live X11_none; simp (disch := omega) only [l_0, l_1, l_2, l_3, l_4, l_5, l_6, l_7, l_8, l_9, l_10, l_11, l_12, l_13, l_14, l_15, l_16, l_17, l_18, l_19, l_20, l_21, l_22, l_23, l_24, l_25, l_26, l_27, l_30, l_31, l_32, l_40, l_48, l_57, l_59, l_60, l_61, l_62, l_64, l_83, l_90, l_97, l_99, l_100, l_108, l_115, l_122, l_123, l_127, l_128, l_131, l_135, l_200, l_255, l_256, l_300, l_487, l_495, l_900, l_999, l_1000, l_1700, l_1792, l_1980, l_2048, l_2475, l_2970, l_3121, l_9999, l_10000, l_11351, l_65536, l_100000, l_1000000, ↓l_m1, l_neg, nI_add, pk_mul, pk_sub, q_leT, q_leF, q_ltT, q_ltF, q_eqT, q_eqF, q_m1e, q_m1e2, q_m1lt, q_m1le, q_m1nl, q_m1nle, q_m1s, q_ix, q_jat, q_jput, q_min1, q_min2, q_max1, q_max2, q_or0, q_0or, q_bs, if_true, if_false, true_and, and_true, false_and, and_false, not_true_eq_false, not_false_eq_true, eq_self, Bool.false_eq_true, q_z0, q_z1, q_wF hv]
    · unfold X12_live X12_refuse; simp (disch := omega) only [l_0, l_1, l_2, l_3, l_4, l_5, l_6, l_7, l_8, l_9, l_10, l_11, l_12, l_13, l_14, l_15, l_16, l_17, l_18, l_19, l_20, l_21, l_22, l_23, l_24, l_25, l_26, l_27, l_30, l_31, l_32, l_40, l_48, l_57, l_59, l_60, l_61, l_62, l_64, l_83, l_90, l_97, l_99, l_100, l_108, l_115, l_122, l_123, l_127, l_128, l_131, l_135, l_200, l_255, l_256, l_300, l_487, l_495, l_900, l_999, l_1000, l_1700, l_1792, l_1980, l_2048, l_2475, l_2970, l_3121, l_9999, l_10000, l_11351, l_65536, l_100000, l_1000000, ↓l_m1, l_neg, nI_add, pk_mul, pk_sub, q_leT, q_leF, q_ltT, q_ltF, q_eqT, q_eqF, q_m1e, q_m1e2, q_m1lt, q_m1le, q_m1nl, q_m1nle, q_m1s, q_ix, q_jat, q_jput, q_min1, q_min2, q_max1, q_max2, q_or0, q_0or, q_bs, if_true, if_false, true_and, and_true, false_and, and_false, not_true_eq_false, not_false_eq_true, eq_self, Bool.false_eq_true, q_z0, q_z1, f]; rfl
  have f := q_fT (k := s) (show (0 : Int64) = (nI 0).toInt64 by decide) (show (9999 : Int64) = (nI 9999).toInt64 by decide) (Nat.zero_le _) hs (by omega)
  rcases WK_of wr with ⟨w0, g9⟩ | ⟨w1, R, m, dep, enc, nw, hk⟩
  · refine ⟨mkS [m1, S.1 1, nI 6, S.1 9, S.1 91, S.1 92, S.1 93, S.1 94, S.1 95, S.1 96, S.1 97, S.1 98] [] [S.2.2.1 5, S.2.2.1 6, S.2.2.1 7, S.2.2.1 62, S.2.2.1 63, S.2.2.1 64, S.2.2.1 65] [], T.1 16, T.1 17, T.1 18, T.2.2.1 0, T.2.2.1 6, T.2.2.1 11, T.2.2.1 12, T.2.2.1 13, C, ?_, ?_, lv' _ (fun _ => rfl), idC, fun _ _ _ => rfl⟩
    · unfold X11_live X11_none; simp (disch := omega) only [l_0, l_1, l_2, l_3, l_4, l_5, l_6, l_7, l_8, l_9, l_10, l_11, l_12, l_13, l_14, l_15, l_16, l_17, l_18, l_19, l_20, l_21, l_22, l_23, l_24, l_25, l_26, l_27, l_30, l_31, l_32, l_40, l_48, l_57, l_59, l_60, l_61, l_62, l_64, l_83, l_90, l_97, l_99, l_100, l_108, l_115, l_122, l_123, l_127, l_128, l_131, l_135, l_200, l_255, l_256, l_300, l_487, l_495, l_900, l_999, l_1000, l_1700, l_1792, l_1980, l_2048, l_2475, l_2970, l_3121, l_9999, l_10000, l_11351, l_65536, l_100000, l_1000000, ↓l_m1, l_neg, nI_add, pk_mul, pk_sub, q_leT, q_leF, q_ltT, q_ltF, q_eqT, q_eqF, q_m1e, q_m1e2, q_m1lt, q_m1le, q_m1nl, q_m1nle, q_m1s, q_ix, q_jat, q_jput, q_min1, q_min2, q_max1, q_max2, q_or0, q_0or, q_bs, if_true, if_false, true_and, and_true, false_and, and_false, not_true_eq_false, not_false_eq_true, eq_self, Bool.false_eq_true, q_z0, q_z1, q_wT, w0]
    · unfold X12_live X12_refuse; simp (disch := omega) only [l_0, l_1, l_2, l_3, l_4, l_5, l_6, l_7, l_8, l_9, l_10, l_11, l_12, l_13, l_14, l_15, l_16, l_17, l_18, l_19, l_20, l_21, l_22, l_23, l_24, l_25, l_26, l_27, l_30, l_31, l_32, l_40, l_48, l_57, l_59, l_60, l_61, l_62, l_64, l_83, l_90, l_97, l_99, l_100, l_108, l_115, l_122, l_123, l_127, l_128, l_131, l_135, l_200, l_255, l_256, l_300, l_487, l_495, l_900, l_999, l_1000, l_1700, l_1792, l_1980, l_2048, l_2475, l_2970, l_3121, l_9999, l_10000, l_11351, l_65536, l_100000, l_1000000, ↓l_m1, l_neg, nI_add, pk_mul, pk_sub, q_leT, q_leF, q_ltT, q_ltF, q_eqT, q_eqF, q_m1e, q_m1e2, q_m1lt, q_m1le, q_m1nl, q_m1nle, q_m1s, q_ix, q_jat, q_jput, q_min1, q_min2, q_max1, q_max2, q_or0, q_0or, q_bs, if_true, if_false, true_and, and_true, false_and, and_false, not_true_eq_false, not_false_eq_true, eq_self, Bool.false_eq_true, q_z0, q_z1, f, g9]; rfl
  · have g9 := hk.2.2.2.2.1
    have m60 := hk.1
    obtain ⟨D, s', n', b', e', t', xf', hf', wf', g', f', loops', ran', p1, p2, p3, p4, p5, p6, p7, p8⟩ := both_live (F := F) (f := T.2.2.1 6) (loops := T.2.2.1 11) (ran := T.2.2.1 12) (b := S.2.2.1 62) (e := S.2.2.1 63) (t := S.2.2.1 64) ok h8 wb cT cF cX cH cW hM hk (show s < 65536 by omega) hF (S.1 91) (S.1 92) (S.1 93) (S.1 94) (S.1 95) (S.1 96) (S.1 97) (S.1 98) (T.1 16) (T.1 17)
    rw [← nw, ← c0, ← c1, ← c3, ← c5, ← c8, ← c9, ← c10] at p1
    obtain ⟨l1, z1, z2⟩ := it_rel (b := X11_live_b49 F (S.1 1) (S.1 5) (S.1 6) (S.1 7) (nI (D 0 0 8)) (S.1 10) (S.1 11) (S.2.2.1 1) (S.2.2.1 2) (S.1 14) xf' (S.1 15) hf' (S.1 16) wf' (S.1 17) (S.2.2.1 8) (nI s') (nI n') (nI 1) (ran' 0) (ran' 1) (ran' 2) (ran' 3) (ran' 4) b' e' t' (nI n')) 5 (fun i s => ∃ f, s = (nI i, f) ∧ ∀ k, k < i → f k = ran' k) (fun f => ∀ k, k < 5 → f k = ran' k) (fun i s hi hs => by
        obtain ⟨f, rfl, hf⟩ := hs
        have te := tells_e (r := ran') rfl rfl rfl rfl rfl hi
        refine Or.inl ⟨(nI (i + 1), upd f i (ran' i)), ?_, _, rfl, fun k hk => ?_⟩
        · unfold X11_live_b49
          simp (disch := omega) only [l_0, l_1, l_2, l_3, l_4, l_5, l_6, l_7, l_8, l_9, l_10, l_11, l_12, l_13, l_14, l_15, l_16, l_17, l_18, l_19, l_20, l_21, l_22, l_23, l_24, l_25, l_26, l_27, l_30, l_31, l_32, l_40, l_48, l_57, l_59, l_60, l_61, l_62, l_64, l_83, l_90, l_97, l_99, l_100, l_108, l_115, l_122, l_123, l_127, l_128, l_131, l_135, l_200, l_255, l_256, l_300, l_487, l_495, l_900, l_999, l_1000, l_1700, l_1792, l_1980, l_2048, l_2475, l_2970, l_3121, l_9999, l_10000, l_11351, l_65536, l_100000, l_1000000, ↓l_m1, l_neg, nI_add, pk_mul, pk_sub, q_leT, q_leF, q_ltT, q_ltF, q_eqT, q_eqF, q_m1e, q_m1e2, q_m1lt, q_m1le, q_m1nl, q_m1nle, q_m1s, q_ix, q_jat, q_jput, q_min1, q_min2, q_max1, q_max2, q_or0, q_0or, q_bs, if_true, if_false, true_and, and_true, false_and, and_false, not_true_eq_false, not_false_eq_true, eq_self, Bool.false_eq_true, q_z0, q_z1, te]
        · by_cases e : k = i
          · rw [e, pk_us]
          · rw [pk_un e]; exact hf k (by omega)) (fun s hs => by
        obtain ⟨f, rfl, hf⟩ := hs
        refine ⟨f, ?_, hf⟩
        unfold X11_live_b49
        simp (disch := omega) only [l_0, l_1, l_2, l_3, l_4, l_5, l_6, l_7, l_8, l_9, l_10, l_11, l_12, l_13, l_14, l_15, l_16, l_17, l_18, l_19, l_20, l_21, l_22, l_23, l_24, l_25, l_26, l_27, l_30, l_31, l_32, l_40, l_48, l_57, l_59, l_60, l_61, l_62, l_64, l_83, l_90, l_97, l_99, l_100, l_108, l_115, l_122, l_123, l_127, l_128, l_131, l_135, l_200, l_255, l_256, l_300, l_487, l_495, l_900, l_999, l_1000, l_1700, l_1792, l_1980, l_2048, l_2475, l_2970, l_3121, l_9999, l_10000, l_11351, l_65536, l_100000, l_1000000, ↓l_m1, l_neg, nI_add, pk_mul, pk_sub, q_leT, q_leF, q_ltT, q_ltF, q_eqT, q_eqF, q_m1e, q_m1e2, q_m1lt, q_m1le, q_m1nl, q_m1nle, q_m1s, q_ix, q_jat, q_jput, q_min1, q_min2, q_max1, q_max2, q_or0, q_0or, q_bs, if_true, if_false, true_and, and_true, false_and, and_false, not_true_eq_false, not_false_eq_true, eq_self, Bool.false_eq_true, q_z0, q_z1]) (s0 := (nI 0, S.2.2.1 65)) ⟨_, rfl, fun k hk => by omega⟩ (show 5 < F by omega)
    obtain ⟨l2, y1, y2⟩ := it_rel (b := X12_live_b43 F (T.1 0) (nI s') (nI n') (T.1 18) g' f' loops' ran') 5 (fun i s => ∃ f, s = (nI i, f) ∧ ∀ k, k < i → f k = ran' k) (fun f => ∀ k, k < 5 → f k = ran' k) (fun i s hi hs => by
        obtain ⟨f, rfl, hf⟩ := hs
        refine Or.inl ⟨(nI (i + 1), upd f i (ran' i)), ?_, _, rfl, fun k hk => ?_⟩
        · unfold X12_live_b43
          simp (disch := omega) only [l_0, l_1, l_2, l_3, l_4, l_5, l_6, l_7, l_8, l_9, l_10, l_11, l_12, l_13, l_14, l_15, l_16, l_17, l_18, l_19, l_20, l_21, l_22, l_23, l_24, l_25, l_26, l_27, l_30, l_31, l_32, l_40, l_48, l_57, l_59, l_60, l_61, l_62, l_64, l_83, l_90, l_97, l_99, l_100, l_108, l_115, l_122, l_123, l_127, l_128, l_131, l_135, l_200, l_255, l_256, l_300, l_487, l_495, l_900, l_999, l_1000, l_1700, l_1792, l_1980, l_2048, l_2475, l_2970, l_3121, l_9999, l_10000, l_11351, l_65536, l_100000, l_1000000, ↓l_m1, l_neg, nI_add, pk_mul, pk_sub, q_leT, q_leF, q_ltT, q_ltF, q_eqT, q_eqF, q_m1e, q_m1e2, q_m1lt, q_m1le, q_m1nl, q_m1nle, q_m1s, q_ix, q_jat, q_jput, q_min1, q_min2, q_max1, q_max2, q_or0, q_0or, q_bs, if_true, if_false, true_and, and_true, false_and, and_false, not_true_eq_false, not_false_eq_true, eq_self, Bool.false_eq_true, q_z0, q_z1]
        · by_cases e : k = i
          · rw [e, pk_us]
          · rw [pk_un e]; exact hf k (by omega)) (fun s hs => by
        obtain ⟨f, rfl, hf⟩ := hs
        refine ⟨f, ?_, hf⟩
        unfold X12_live_b43
        simp (disch := omega) only [l_0, l_1, l_2, l_3, l_4, l_5, l_6, l_7, l_8, l_9, l_10, l_11, l_12, l_13, l_14, l_15, l_16, l_17, l_18, l_19, l_20, l_21, l_22, l_23, l_24, l_25, l_26, l_27, l_30, l_31, l_32, l_40, l_48, l_57, l_59, l_60, l_61, l_62, l_64, l_83, l_90, l_97, l_99, l_100, l_108, l_115, l_122, l_123, l_127, l_128, l_131, l_135, l_200, l_255, l_256, l_300, l_487, l_495, l_900, l_999, l_1000, l_1700, l_1792, l_1980, l_2048, l_2475, l_2970, l_3121, l_9999, l_10000, l_11351, l_65536, l_100000, l_1000000, ↓l_m1, l_neg, nI_add, pk_mul, pk_sub, q_leT, q_leF, q_ltT, q_ltF, q_eqT, q_eqF, q_m1e, q_m1e2, q_m1lt, q_m1le, q_m1nl, q_m1nle, q_m1s, q_ix, q_jat, q_jput, q_min1, q_min2, q_max1, q_max2, q_or0, q_0or, q_bs, if_true, if_false, true_and, and_true, false_and, and_false, not_true_eq_false, not_false_eq_true, eq_self, Bool.false_eq_true, q_z0, q_z1]) (s0 := (nI 0, T.2.2.1 13)) ⟨_, rfl, fun k hk => by omega⟩ (show 5 < F by omega)
    refine ⟨mkS [nI n', nI 1, nI 0, nI (D 0 0 8), nI s', nI n', nI 1, ran' 0, ran' 1, ran' 2, ran' 3, ran' 4] [] [xf', hf', wf', b', e', t', l1] [], nI s', nI n', nI 1, g', f', loops', ran', l2, D, ?_, ?_, Or.inr ⟨rfl, rfl, fun k hk => (z2 k hk).trans (y2 k hk).symm⟩, City_dv hC p8 rfl (fun k h1 h2 => up_n _ _ h1) (fun k _ h5 h6 h7 => by rw [up_n _ _ h7, up_n _ _ h6, up_n _ _ h5]) p3 p4 p5 p6 p7, fun k h1 h2 => p7 k (by omega)⟩
    · unfold X11_live X11_answer
      rw [show (0 : Int32) = nI 0 from rfl, show (9999 : Int32) = nI 9999 from rfl, q_wT (Nat.zero_le _) hs (by omega), q_bs, if_neg (show ¬ nI 1 = nI 0 by decide), if_neg (show ¬ S.1 10 = nI 0 by rw [w1]; decide), p1, q_bs]
      show (iter (X11_live_b49 F (S.1 1) (S.1 5) (S.1 6) (S.1 7) (nI (D 0 0 8)) (S.1 10) (S.1 11) (S.2.2.1 1) (S.2.2.1 2) (S.1 14) xf' (S.1 15) hf' (S.1 16) wf' (S.1 17) (S.2.2.1 8) (nI s') (nI n') (nI 1) (ran' 0) (ran' 1) (ran' 2) (ran' 3) (ran' 4) b' e' t' (nI n')) F (nI 0, S.2.2.1 65)).bind _ = _
      rw [z1, q_bs]; rfl
    · unfold X12_live X12_gives
      simp (disch := omega) only [l_0, l_1, l_2, l_3, l_4, l_5, l_6, l_7, l_8, l_9, l_10, l_11, l_12, l_13, l_14, l_15, l_16, l_17, l_18, l_19, l_20, l_21, l_22, l_23, l_24, l_25, l_26, l_27, l_30, l_31, l_32, l_40, l_48, l_57, l_59, l_60, l_61, l_62, l_64, l_83, l_90, l_97, l_99, l_100, l_108, l_115, l_122, l_123, l_127, l_128, l_131, l_135, l_200, l_255, l_256, l_300, l_487, l_495, l_900, l_999, l_1000, l_1700, l_1792, l_1980, l_2048, l_2475, l_2970, l_3121, l_9999, l_10000, l_11351, l_65536, l_100000, l_1000000, ↓l_m1, l_neg, nI_add, pk_mul, pk_sub, q_leT, q_leF, q_ltT, q_ltF, q_eqT, q_eqF, q_m1e, q_m1e2, q_m1lt, q_m1le, q_m1nl, q_m1nle, q_m1s, q_ix, q_jat, q_jput, q_min1, q_min2, q_max1, q_max2, q_or0, q_0or, q_bs, if_true, if_false, true_and, and_true, false_and, and_false, not_true_eq_false, not_false_eq_true, eq_self, Bool.false_eq_true, q_z0, q_z1, f, g9, p2, y1]
      rfl
