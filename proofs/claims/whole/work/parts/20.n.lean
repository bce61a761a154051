/-! ===== PURE 20.n: one PART; all PARTs ===== -/
theorem p_no {F n q kd e v rt mt' N : Nat} {C : Cy} {xr xt so nu xx xh xw at0 f g : Nat → Int32} {co names : Nat → Int64} {B : Nat → Nat} {cs : cSt} {ms : mTk} {fp mfp k0 iw : Int32} (h : TkR n B q kd e v cs ms) (hk : k0 ≠ 1 ∧ k0 ≠ 2 ∧ k0 ≠ 3 ∧ k0 ≠ 4 ∧ k0 ≠ 5 ∧ k0 ≠ 7 ∧ k0 ≠ 9 ∧ k0 ≠ 12 ∧ k0 ≠ 14) (hw : X12_inWords F (nI n) ms.1 ms.2.1 ms.2.2.1 g = some iw) (hi : iw = m1 ∨ ∃ i, iw = nI i ∧ 8 < i ∧ i < 100) :
    PartR n B q fp mfp xt at0 names (X1_takePart_j22 F (nI rt) (nI n) cs.1 cs.2.1 cs.2.2.1 cs.2.2.2.1 cs.2.2.2.2 (nI 0) fp f (nI (C 0 0 5)) (nI (C 0 0 6)) (nI (C 0 0 7)) (nI (C 0 0 0)) (nI (C 0 0 1)) xr xt (nI N) co so nu (nI (C 0 0 2)) xx (nI (C 0 0 3)) xh (nI (C 0 0 4)) xw k0) (X12_cityPart F (nI n) ms.1 ms.2.1 ms.2.2.1 ms.2.2.2 mfp (nI 0) (nI mt') at0 names g) := by
  have b := tk_bnd h
  obtain ⟨⟨p, tk⟩, h1, h2, h3, h4, h5, h6⟩ := h
  have fl := q_fails (fp := mfp) (k := 2) h4 h5 b.2.1 (by omega)
  have fh := q_here (fp := fp) h1 h2 b.2.1
  have f7 := fk_b (kd := kd) (k := 2) (by omega) (by omega)
  have f71 := f7.1
  have f72 := f7.2
  obtain ⟨y1, y2, y3, y4, y5, y7, y9, y12, y14⟩ := hk
  refine Or.inr ⟨fk kd 2, q, _, _, f71, f72, by unfold X1_takePart_j22; rw [if_neg y1, if_neg y2, if_neg y3, if_neg y4, if_neg y5, if_neg y7, if_neg y9, if_neg y12, if_neg y14, fh, q_bs], ?_, ?_, ?_, (show X12_cityPart F (nI n) ms.1 ms.2.1 ms.2.2.1 ms.2.2.2 mfp (nI 0) (nI mt') at0 names g = some (nI 0, ms.1, ms.2.1, ms.2.2.1, ms.2.2.2, nI q, nI (fk kd 2), nI mt', at0, names) from ?_), ?_, ?_, ?_, ?_, ?_⟩
  · rfl
  · rfl
  · rfl
  · unfold X12_cityPart X12_cityPart_j17
    rcases hi with rfl | ⟨i, rfl, i8, i9⟩
    · simp (maxSteps := 4000000) (disch := omega) only [↓reduceIte, l_0, l_1, l_2, l_3, l_4, l_5, l_6, l_7, l_8, l_9, l_10, l_11, l_12, l_13, l_14, l_15, l_16, l_17, l_18, l_19, l_20, l_21, l_22, l_23, l_24, l_25, l_26, l_27, l_30, l_31, l_32, l_40, l_48, l_57, l_59, l_60, l_61, l_62, l_64, l_83, l_90, l_97, l_99, l_100, l_108, l_115, l_122, l_123, l_127, l_128, l_131, l_135, l_200, l_255, l_256, l_300, l_487, l_495, l_900, l_999, l_1000, l_1700, l_1792, l_1980, l_2048, l_2475, l_2970, l_3121, l_9999, l_10000, l_11351, l_65536, l_100000, l_1000000, ↓l_m1, l_neg, nI_add, pk_mul, pk_sub, q_leT, q_leF, q_ltT, q_ltF, q_eqT, q_eqF, q_m1e, q_m1e2, q_m1lt, q_m1le, q_m1nl, q_m1nle, q_m1s, q_ix, q_jat, q_jput, q_min1, q_min2, q_max1, q_max2, q_or0, q_0or, q_bs, if_true, if_false, true_and, and_true, false_and, and_false, not_true_eq_false, not_false_eq_true, eq_self, Bool.false_eq_true, q_z0, q_z1, hw, fl]
    · simp (maxSteps := 4000000) (disch := omega) only [↓reduceIte, l_0, l_1, l_2, l_3, l_4, l_5, l_6, l_7, l_8, l_9, l_10, l_11, l_12, l_13, l_14, l_15, l_16, l_17, l_18, l_19, l_20, l_21, l_22, l_23, l_24, l_25, l_26, l_27, l_30, l_31, l_32, l_40, l_48, l_57, l_59, l_60, l_61, l_62, l_64, l_83, l_90, l_97, l_99, l_100, l_108, l_115, l_122, l_123, l_127, l_128, l_131, l_135, l_200, l_255, l_256, l_300, l_487, l_495, l_900, l_999, l_1000, l_1700, l_1792, l_1980, l_2048, l_2475, l_2970, l_3121, l_9999, l_10000, l_11351, l_65536, l_100000, l_1000000, ↓l_m1, l_neg, nI_add, pk_mul, pk_sub, q_leT, q_leF, q_ltT, q_ltF, q_eqT, q_eqF, q_m1e, q_m1e2, q_m1lt, q_m1le, q_m1nl, q_m1nle, q_m1s, q_ix, q_jat, q_jput, q_min1, q_min2, q_max1, q_max2, q_or0, q_0or, q_bs, if_true, if_false, true_and, and_true, false_and, and_false, not_true_eq_false, not_false_eq_true, eq_self, Bool.false_eq_true, q_z0, q_z1, hw, fl]
  · rfl
  · rfl
  · rfl
  · exact fun j hj => rfl
  · exact fun j hj => rfl
section PT
variable {F n q kd e v rt mt' N : Nat} {C : Cy} {nm : Nat → Nat → Nat} {xr xt so nu xx xh xw at0 f g : Nat → Int32} {co names : Nat → Int64} {B : Nat → Nat} {cs : cSt} {ms : mTk} {fp mfp : Int32}
theorem p_part (dr : DR C N nm xr xt co so nu xx xh xw at0 names) (tr : TR rt mt') (hx : TX n B f g) (h : TkR n B q kd e v cs ms) (hF : 2000 < F) :
    PartR n B q fp mfp xt at0 names (X1_takePart F (nI rt) (nI n) cs.1 cs.2.1 cs.2.2.1 cs.2.2.2.1 cs.2.2.2.2 (nI 0) fp f (nI (C 0 0 5)) (nI (C 0 0 6)) (nI (C 0 0 7)) (nI (C 0 0 0)) (nI (C 0 0 1)) xr xt (nI N) co so nu (nI (C 0 0 2)) xx (nI (C 0 0 3)) xh (nI (C 0 0 4)) xw) (X12_cityPart F (nI n) ms.1 ms.2.1 ms.2.2.1 ms.2.2.2 mfp (nI 0) (nI mt') at0 names g) := by
  have b := tk_bnd h
  have h' := h
  obtain ⟨⟨p, tk⟩, h1, h2, h3, h4, h5, h6⟩ := h'
  have m512 := tr.2.1
  by_cases k1 : kd = 1
  · subst k1
    have en := (b.2.2.1 (by omega)).1
    have qe := b.2.2.2.1 (by omega) (by omega)
    have iw := m_inWords (F := F) hx (show q ≤ e by omega) en hF
    rw [← h5, ← h6.1 (by omega)] at iw
    have iw' : X12_inWords F (nI n) ms.1 ms.2.1 ms.2.2.1 g = some (oI (pm (wno B q e))) := by rw [h4]; exact iw
    have wl : wno B q e ≤ 25 := words_le _
    have wv := (h3.2.1 rfl).1
    have cls : ∀ k0, cs.2.2.2.1 = k0 → X1_takePart F (nI rt) (nI n) cs.1 cs.2.1 cs.2.2.1 cs.2.2.2.1 cs.2.2.2.2 (nI 0) fp f (nI (C 0 0 5)) (nI (C 0 0 6)) (nI (C 0 0 7)) (nI (C 0 0 0)) (nI (C 0 0 1)) xr xt (nI N) co so nu (nI (C 0 0 2)) xx (nI (C 0 0 3)) xh (nI (C 0 0 4)) xw = X1_takePart_j22 F (nI rt) (nI n) cs.1 cs.2.1 cs.2.2.1 cs.2.2.2.1 cs.2.2.2.2 (nI 0) fp f (nI (C 0 0 5)) (nI (C 0 0 6)) (nI (C 0 0 7)) (nI (C 0 0 0)) (nI (C 0 0 1)) xr xt (nI N) co so nu (nI (C 0 0 2)) xx (nI (C 0 0 3)) xh (nI (C 0 0 4)) xw k0 := fun k0 hk => by
      subst hk
      unfold X1_takePart
      rw [if_pos (show cs.2.2.1 = 1 from h2)]
    have mdl : ∀ i, 3 ≤ i → i ≤ 8 → X12_inWords F (nI n) ms.1 ms.2.1 ms.2.2.1 g = some (nI i) → X12_cityPart F (nI n) ms.1 ms.2.1 ms.2.2.1 ms.2.2.2 mfp (nI 0) (nI mt') at0 names g = X12_cityPart_j67 F (nI n) ms.1 ms.2.1 ms.2.2.1 ms.2.2.2 mfp (nI 0) (nI (mt' ||| 2 ^ i)) at0 names g (nI i) := fun i i3 i8 hi => by
      unfold X12_cityPart X12_cityPart_j46
      simp (maxSteps := 4000000) (disch := omega) only [↓reduceIte, l_0, l_1, l_2, l_3, l_4, l_5, l_6, l_7, l_8, l_9, l_10, l_11, l_12, l_13, l_14, l_15, l_16, l_17, l_18, l_19, l_20, l_21, l_22, l_23, l_24, l_25, l_26, l_27, l_30, l_31, l_32, l_40, l_48, l_57, l_59, l_60, l_61, l_62, l_64, l_83, l_90, l_97, l_99, l_100, l_108, l_115, l_122, l_123, l_127, l_128, l_131, l_135, l_200, l_255, l_256, l_300, l_487, l_495, l_900, l_999, l_1000, l_1700, l_1792, l_1980, l_2048, l_2475, l_2970, l_3121, l_9999, l_10000, l_11351, l_65536, l_100000, l_1000000, ↓l_m1, l_neg, nI_add, pk_mul, pk_sub, q_leT, q_leF, q_ltT, q_ltF, q_eqT, q_eqF, q_m1e, q_m1e2, q_m1lt, q_m1le, q_m1nl, q_m1nle, q_m1s, q_ix, q_jat, q_jput, q_min1, q_min2, q_max1, q_max2, q_or0, q_0or, q_bs, if_true, if_false, true_and, and_true, false_and, and_false, not_true_eq_false, not_false_eq_true, eq_self, Bool.false_eq_true, q_z0, q_z1, hi, q_shl1, fa_or]
    have no : (pm (wno B q e) = none ∨ ∃ i, pm (wno B q e) = some i ∧ 8 < i ∧ i < 100) → (wno B q e ≠ 1 ∧ wno B q e ≠ 2 ∧ wno B q e ≠ 3 ∧ wno B q e ≠ 4 ∧ wno B q e ≠ 5 ∧ wno B q e ≠ 7 ∧ wno B q e ≠ 9 ∧ wno B q e ≠ 12 ∧ wno B q e ≠ 14) → PartR n B q fp mfp xt at0 names (X1_takePart F (nI rt) (nI n) cs.1 cs.2.1 cs.2.2.1 cs.2.2.2.1 cs.2.2.2.2 (nI 0) fp f (nI (C 0 0 5)) (nI (C 0 0 6)) (nI (C 0 0 7)) (nI (C 0 0 0)) (nI (C 0 0 1)) xr xt (nI N) co so nu (nI (C 0 0 2)) xx (nI (C 0 0 3)) xh (nI (C 0 0 4)) xw) (X12_cityPart F (nI n) ms.1 ms.2.1 ms.2.2.1 ms.2.2.2 mfp (nI 0) (nI mt') at0 names g) := fun hp hw => by
      rw [cls _ wv]
      have ne : ∀ k, k < 100 → wno B q e ≠ k → nI (wno B q e) ≠ nI k := fun k hk hne z => hne ((nI_eq (by omega) (by omega)).mp z)
      refine p_no h ⟨ne 1 (by omega) hw.1, ne 2 (by omega) hw.2.1, ne 3 (by omega) hw.2.2.1, ne 4 (by omega) hw.2.2.2.1, ne 5 (by omega) hw.2.2.2.2.1, ne 7 (by omega) hw.2.2.2.2.2.1, ne 9 (by omega) hw.2.2.2.2.2.2.1, ne 12 (by omega) hw.2.2.2.2.2.2.2.1, ne 14 (by omega) hw.2.2.2.2.2.2.2.2⟩ iw' ?_
      rcases hp with hp | ⟨i, hp, i8, i9⟩
      · left; rw [hp]; rfl
      · right; exact ⟨i, by rw [hp]; rfl, i8, i9⟩
    by_cases w1 : wno B q e = 1
    · rw [w1] at wv iw'
      rw [cls _ wv]; exact p_rule (i := 0) (Or.inl ⟨rfl, rfl, rfl⟩) dr tr hx h iw' hF
    by_cases w2 : wno B q e = 2
    · rw [w2] at wv iw'
      rw [cls _ wv]; exact p_rule (i := 1) (Or.inr (Or.inl ⟨rfl, rfl, rfl⟩)) dr tr hx h iw' hF
    by_cases w3 : wno B q e = 3
    · rw [w3] at wv iw'
      rw [cls _ wv]; exact p_rule (i := 2) (Or.inr (Or.inr ⟨rfl, rfl, rfl⟩)) dr tr hx h iw' hF
    by_cases w4 : wno B q e = 4
    · rw [w4] at wv iw'
      rw [cls _ wv, mdl 3 (by omega) (by omega) iw']; exact p_corner dr (TR_more tr (by omega) (by omega)) hx h hF
    by_cases w5 : wno B q e = 5
    · rw [w5] at wv iw'
      rw [cls _ wv, mdl 4 (by omega) (by omega) iw']; exact p_road dr (TR_more tr (by omega) (by omega)) hx h hF
    by_cases w7 : wno B q e = 7
    · rw [w7] at wv iw'
      rw [cls _ wv, mdl 5 (by omega) (by omega) iw']; exact p_extra dr (TR_more tr (by omega) (by omega)) hx h hF
    by_cases w9 : wno B q e = 9
    · rw [w9] at wv iw'
      rw [cls _ wv, mdl 6 (by omega) (by omega) iw']; exact p_hap dr (TR_more tr (by omega) (by omega)) hx h hF
    by_cases w12 : wno B q e = 12
    · rw [w12] at wv iw'
      rw [cls _ wv, mdl 7 (by omega) (by omega) iw']; exact p_wat dr (TR_more tr (by omega) (by omega)) hx h hF
    by_cases w14 : wno B q e = 14
    · rw [w14] at wv iw'
      rw [cls _ wv, mdl 8 (by omega) (by omega) iw']; exact p_roster dr (TR_more tr (by omega) (by omega)) hx h hF
    refine no ?_ ⟨w1, w2, w3, w4, w5, w7, w9, w12, w14⟩
    have key : ∀ w, w < 26 → (w = 1 ∨ w = 2 ∨ w = 3 ∨ w = 4 ∨ w = 5 ∨ w = 7 ∨ w = 9 ∨ w = 12 ∨ w = 14) ∨ w = 0 ∨ (8 < perm.getD (w - 1) 0 ∧ perm.getD (w - 1) 0 < 100) := by decide
    rcases key _ (show wno B q e < 26 by omega) with z | z | ⟨z1, z2⟩
    · omega
    · exact Or.inl (by rw [z]; rfl)
    · by_cases z0 : wno B q e = 0
      · exact Or.inl (by rw [z0]; rfl)
      · exact Or.inr ⟨_, by unfold pm; rw [if_neg z0], z1, z2⟩
  · have m2 : ms.1 ≠ 2 := by
      rw [h4]
      unfold mtk
      intro y
      rcases (show kd = 0 ∨ kd = 2 ∨ kd = 3 ∨ kd = 4 by omega) with rfl | rfl | rfl | rfl <;> exact absurd y (by decide)
    have iw := m_inWords0 (F := F) (sz := nI n) (fr := ms.2.1) (en := ms.2.2.1) (g := g) m2
    have cls : X1_takePart F (nI rt) (nI n) cs.1 cs.2.1 cs.2.2.1 cs.2.2.2.1 cs.2.2.2.2 (nI 0) fp f (nI (C 0 0 5)) (nI (C 0 0 6)) (nI (C 0 0 7)) (nI (C 0 0 0)) (nI (C 0 0 1)) xr xt (nI N) co so nu (nI (C 0 0 2)) xx (nI (C 0 0 3)) xh (nI (C 0 0 4)) xw = X1_takePart_j22 F (nI rt) (nI n) cs.1 cs.2.1 cs.2.2.1 cs.2.2.2.1 cs.2.2.2.2 (nI 0) fp f (nI (C 0 0 5)) (nI (C 0 0 6)) (nI (C 0 0 7)) (nI (C 0 0 0)) (nI (C 0 0 1)) xr xt (nI N) co so nu (nI (C 0 0 2)) xx (nI (C 0 0 3)) xh (nI (C 0 0 4)) xw 0 := by
      unfold X1_takePart
      rw [if_neg (show ¬ cs.2.2.1 = 1 from fun z => by rw [h2] at z; exact k1 ((nI_eq (a := kd) (b := 1) (by omega) (by omega)).mp z))]
    rw [cls]
    exact p_no h (by decide) iw (Or.inl rfl)
end PT
