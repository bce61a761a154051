/-! ===== PURE 20.o: all PARTs ===== -/
theorem bd_st {α β : Type} {x : Option α} {a : α} {k : α → Option β} {r : Option β} (h : x = some a) (h2 : k a = r) : x.bind k = r := by rw [h]; exact h2
def lpS (i rt N : Nat) (cs : cSt) (fp : Int32) (C : Cy) (xr xt so nu xx xh xw : Nat → Int32) (co : Nat → Int64) : vS := mkS [nI i, nI rt, cs.1, cs.2.1, cs.2.2.1, cs.2.2.2.1, nI 0, fp, nI (C 0 0 5), nI (C 0 0 6), nI (C 0 0 7), nI (C 0 0 0), nI (C 0 0 1), nI N, nI (C 0 0 2), nI (C 0 0 3), nI (C 0 0 4)] [cs.2.2.2.2] [xr, xt, so, nu, xx, xh, xw] [co]
def lpE (rt N : Nat) (cs : cSt) (fp : Int32) (C : Cy) (xr xt so nu xx xh xw : Nat → Int32) (co : Nat → Int64) : vS := mkS [nI rt, cs.1, cs.2.1, cs.2.2.1, cs.2.2.2.1, nI 0, fp, nI (C 0 0 5), nI (C 0 0 6), nI (C 0 0 7), nI (C 0 0 0), nI (C 0 0 1), nI N, nI (C 0 0 2), nI (C 0 0 3), nI (C 0 0 4)] [cs.2.2.2.2] [xr, xt, so, nu, xx, xh, xw] [co]
section LP
variable {F n : Nat} {B : Nat → Nat} {f g : Nat → Int32} (hd ck hw wk : Int32) (hs : Nat → Int32) (fp mfp : Int32)
theorem b22_end {i rt N : Nat} {cs : cSt} {C : Cy} {xr xt so nu xx xh xw : Nat → Int32} {co : Nat → Int64} (h2 : cs.2.2.1 = nI 0) : X1_parse_b22 F hd (nI n) f ck hw hs wk (nI n) (lpS i rt N cs fp C xr xt so nu xx xh xw co) = some (.inr (lpE rt N cs fp C xr xt so nu xx xh xw co)) := by
  have op : X8_isOpen cs.2.2.1 (nI 0) = some (nI 0) := by
    unfold X8_isOpen X8_isOpen_j18
    rw [h2]; rfl
  unfold X1_parse_b22
  by_cases y : nI n ≤ (lpS i rt N cs fp C xr xt so nu xx xh xw co).1 0
  · exact (if_pos y).trans rfl
  · refine (if_neg y).trans (bd_st op ?_)
    exact (if_pos rfl).trans rfl
theorem b22_go {i rt N k : Nat} {cs : cSt} {C : Cy} {xr xt so nu xx xh xw : Nat → Int32} {co : Nat → Int64} {u : vS} (hi : i < n) (hn : n ≤ 900) (h2 : cs.2.2.1 = nI k) (k0 : k ≠ 0) (k9 : k < 9) (ht : X1_takePart F (nI rt) (nI n) cs.1 cs.2.1 cs.2.2.1 cs.2.2.2.1 cs.2.2.2.2 (nI 0) fp f (nI (C 0 0 5)) (nI (C 0 0 6)) (nI (C 0 0 7)) (nI (C 0 0 0)) (nI (C 0 0 1)) xr xt (nI N) co so nu (nI (C 0 0 2)) xx (nI (C 0 0 3)) xh (nI (C 0 0 4)) xw = some u) : X1_parse_b22 F hd (nI n) f ck hw hs wk (nI n) (lpS i rt N cs fp C xr xt so nu xx xh xw co) = some (.inl (mkS [nI (i + 1), u.1 0, u.1 1, u.1 2, u.1 3, u.1 4, u.1 5, u.1 6, u.1 7, u.1 8, u.1 9, u.1 10, u.1 11, u.1 12, u.1 13, u.1 14, u.1 15] [u.2.1 0] [u.2.2.1 0, u.2.2.1 1, u.2.2.1 2, u.2.2.1 3, u.2.2.1 4, u.2.2.1 5, u.2.2.1 6] [u.2.2.2 0])) := by
  have op : X8_isOpen cs.2.2.1 (nI 0) = some (nI 1) := by
    unfold X8_isOpen X8_isOpen_j18
    rw [h2]
    simp (maxSteps := 4000000) (disch := omega) only [↓reduceIte, l_0, l_1, l_2, l_3, l_4, l_5, l_6, l_7, l_8, l_9, l_10, l_11, l_12, l_13, l_14, l_15, l_16, l_17, l_18, l_19, l_20, l_21, l_22, l_23, l_24, l_25, l_26, l_27, l_30, l_31, l_32, l_40, l_48, l_57, l_59, l_60, l_61, l_62, l_64, l_83, l_90, l_97, l_99, l_100, l_108, l_115, l_122, l_123, l_127, l_128, l_131, l_135, l_200, l_255, l_256, l_300, l_487, l_495, l_900, l_999, l_1000, l_1700, l_1792, l_1980, l_2048, l_2475, l_2970, l_3121, l_9999, l_10000, l_11351, l_65536, l_100000, l_1000000, ↓l_m1, l_neg, nI_add, pk_mul, pk_sub, q_leT, q_leF, q_ltT, q_ltF, q_eqT, q_eqF, q_m1e, q_m1e2, q_m1lt, q_m1le, q_m1nl, q_m1nle, q_m1s, q_ix, q_jat, q_jput, q_min1, q_min2, q_max1, q_max2, q_or0, q_0or, q_bs, if_true, if_false, true_and, and_true, false_and, and_false, not_true_eq_false, not_false_eq_true, eq_self, Bool.false_eq_true, q_z0, q_z1]
  have e1 : nI i + 1 = nI (i + 1) := by rw [show (1 : Int32) = nI 1 from rfl, nI_add]
  unfold X1_parse_b22
  refine (if_neg (show ¬ nI n ≤ nI i from of_eq_false (q_leF (by omega) (by omega)))).trans (bd_st op ((if_neg (show ¬ nI 1 = 0 by decide)).trans (bd_st ht ?_)))
  rw [← e1]; rfl
theorem b22_stop {k : Nat} {st : vS} (h : st.1 6 = nI k) (k1 : 1 ≤ k) (k7 : k ≤ 7) : X1_parse_b22 F hd (nI n) f ck hw hs wk (nI n) st = some (.inr (mkS [(st.1 1), (st.1 2), (st.1 3), (st.1 4), (st.1 5), (st.1 6), (st.1 7), (st.1 8), (st.1 9), (st.1 10), (st.1 11), (st.1 12), (st.1 13), (st.1 14), (st.1 15), (st.1 16)] [(st.2.1 0)] [(st.2.2.1 0), (st.2.2.1 1), (st.2.2.1 2), (st.2.2.1 3), (st.2.2.1 4), (st.2.2.1 5), (st.2.2.1 6)] [(st.2.2.2 0)])) := by
  have op : X8_isOpen (st.1 4) (st.1 6) = some (nI 0) := by
    unfold X8_isOpen X8_isOpen_j18
    rw [h]
    simp (maxSteps := 4000000) (disch := omega) only [↓reduceIte, l_0, l_1, l_2, l_3, l_4, l_5, l_6, l_7, l_8, l_9, l_10, l_11, l_12, l_13, l_14, l_15, l_16, l_17, l_18, l_19, l_20, l_21, l_22, l_23, l_24, l_25, l_26, l_27, l_30, l_31, l_32, l_40, l_48, l_57, l_59, l_60, l_61, l_62, l_64, l_83, l_90, l_97, l_99, l_100, l_108, l_115, l_122, l_123, l_127, l_128, l_131, l_135, l_200, l_255, l_256, l_300, l_487, l_495, l_900, l_999, l_1000, l_1700, l_1792, l_1980, l_2048, l_2475, l_2970, l_3121, l_9999, l_10000, l_11351, l_65536, l_100000, l_1000000, ↓l_m1, l_neg, nI_add, pk_mul, pk_sub, q_leT, q_leF, q_ltT, q_ltF, q_eqT, q_eqF, q_m1e, q_m1e2, q_m1lt, q_m1le, q_m1nl, q_m1nle, q_m1s, q_ix, q_jat, q_jput, q_min1, q_min2, q_max1, q_max2, q_or0, q_0or, q_bs, if_true, if_false, true_and, and_true, false_and, and_false, not_true_eq_false, not_false_eq_true, eq_self, Bool.false_eq_true, q_z0, q_z1]
  unfold X1_parse_b22
  by_cases y : nI n ≤ st.1 0
  · exact if_pos y
  · exact (if_neg y).trans (bd_st op ((if_pos rfl).trans rfl))
theorem lp {a b c d x : Int32} {tp : Nat → Int32} (hx : TX n B f g) (hF : 2000 < F) : ∀ (j i q kd e v rt mt' N : Nat) (C : Cy) (nm : Nat → Nat → Nat) (xr xt so nu xx xh xw at0 : Nat → Int32) (co names : Nat → Int64) (cs : cSt) (ms : mTk) (G : Nat), n - q ≤ j → j + 2 ≤ G → i ≤ q → TkR n B q kd e v cs ms → TR rt mt' → DR C N nm xr xt co so nu xx xh xw at0 names →
    (∃ (rt' mt2 N' : Nat) (cs' : cSt) (ms' : mTk) (C' : Cy) (nm' : Nat → Nat → Nat) (xr' xt' so' nu' xx' xh' xw' at1 : Nat → Int32) (co' names1 : Nat → Int64),
      iter (X1_parse_b22 F hd (nI n) f ck hw hs wk (nI n)) G (lpS i rt N cs fp C xr xt so nu xx xh xw co) = some (lpE rt' N' cs' fp C' xr' xt' so' nu' xx' xh' xw' co') ∧
      iter (X12_city_b31 F a b (nI n) c d tp g) G (nI 1, ms.1, ms.2.1, ms.2.2.1, ms.2.2.2, mfp, nI 0, nI mt', at0, names) = some (ms'.1, ms'.2.1, ms'.2.2.1, ms'.2.2.2, mfp, nI 0, nI mt2, at1, names1) ∧ DR C' N' nm' xr' xt' co' so' nu' xx' xh' xw' at1 names1 ∧ (∀ j, j < 1980 → at1 j = at0 j) ∧ (∀ j, j < 108 → names1 j = names j)) ∨
    (∃ (k p : Nat) (u : vS) (w : Int32 × Int32 × Int32 × Int32 × Int32 × Int32 × Int32 × (Nat → Int32) × (Nat → Int64)) (C' : Cy), 1 ≤ k ∧ k ≤ 7 ∧ iter (X1_parse_b22 F hd (nI n) f ck hw hs wk (nI n)) G (lpS i rt N cs fp C xr xt so nu xx xh xw co) = some u ∧ u.1 5 = nI k ∧ u.1 6 = nI p ∧ Ok C' ∧ CT C' (u.2.2.1 1) ∧
      iter (X12_city_b31 F a b (nI n) c d tp g) G (nI 1, ms.1, ms.2.1, ms.2.2.1, ms.2.2.2, mfp, nI 0, nI mt', at0, names) = some w ∧ w.2.2.2.2.1 = nI p ∧ w.2.2.2.2.2.1 = nI k ∧ (∀ j, j < 1980 → w.2.2.2.2.2.2.2.1 j = at0 j) ∧ (∀ j, j < 108 → w.2.2.2.2.2.2.2.2 j = names j)) := by
  intro j
  induction j using Nat.strongRecOn with
  | ind j ih =>
  intro i q kd e v rt mt' N C nm xr xt so nu xx xh xw at0 co names cs ms G hj hG hi h tr dr
  have n9 := hx.1
  have tb := tk_bnd h
  have h' := h
  obtain ⟨⟨p, tk⟩, h1, h2, h3, h4, h5, h6⟩ := h'
  obtain ⟨G, rfl⟩ : ∃ G', G = G' + 1 := ⟨G - 1, by omega⟩
  by_cases k0 : kd = 0
  · subst k0
    left
    refine ⟨rt, mt', N, cs, ms, C, nm, xr, xt, so, nu, xx, xh, xw, at0, co, names, iter_r (b22_end hd ck hw wk hs fp h2) G, iter_r ?_ G, dr, fun _ _ => rfl, fun _ _ => rfl⟩
    unfold X12_city_b31
    rw [show mtk 0 = 0 from rfl] at h4
    have w0 : (ms.1 = nI 0) = True := eq_true h4
    simp (maxSteps := 4000000) (disch := omega) only [↓reduceIte, l_0, l_1, l_2, l_3, l_4, l_5, l_6, l_7, l_8, l_9, l_10, l_11, l_12, l_13, l_14, l_15, l_16, l_17, l_18, l_19, l_20, l_21, l_22, l_23, l_24, l_25, l_26, l_27, l_30, l_31, l_32, l_40, l_48, l_57, l_59, l_60, l_61, l_62, l_64, l_83, l_90, l_97, l_99, l_100, l_108, l_115, l_122, l_123, l_127, l_128, l_131, l_135, l_200, l_255, l_256, l_300, l_487, l_495, l_900, l_999, l_1000, l_1700, l_1792, l_1980, l_2048, l_2475, l_2970, l_3121, l_9999, l_10000, l_11351, l_65536, l_100000, l_1000000, ↓l_m1, l_neg, nI_add, pk_mul, pk_sub, q_leT, q_leF, q_ltT, q_ltF, q_eqT, q_eqF, q_m1e, q_m1e2, q_m1lt, q_m1le, q_m1nl, q_m1nle, q_m1s, q_ix, q_jat, q_jput, q_min1, q_min2, q_max1, q_max2, q_or0, q_0or, q_bs, if_true, if_false, true_and, and_true, false_and, and_false, not_true_eq_false, not_false_eq_true, eq_self, Bool.false_eq_true, q_z0, q_z1, w0]
  have qn : q < n := by
    rcases tk.2.2 with z | z | z | z | z <;> omega
  have mz : (ms.1 = nI 0) = False := eq_false (by
    rw [h4]
    unfold mtk
    rcases (show kd = 1 ∨ kd = 2 ∨ kd = 3 ∨ kd = 4 by omega) with rfl | rfl | rfl | rfl <;> decide)
  rcases p_part (F := F) (fp := fp) (mfp := mfp) dr tr hx h hF with ⟨q', kd', e', v', N', rt', mt2, cs', ms', C', nm', xr', xt', so', nu', xx', xh', xw', at1, co', names1, p1, p2, t', ql, tr', dr', fr1, fr2⟩ | ⟨k, pp, u, w, k1, k7, p1, u5, u6, ux, p2, w0, w1, w2, fr1, fr2⟩
  · have c1 := (b22_go (F := F) hd ck hw wk hs fp (show i < n by omega) n9 h2 k0 (by omega) p1).trans (show _ = some (Sum.inl (lpS (i + 1) rt' N' cs' fp C' xr' xt' so' nu' xx' xh' xw' co')) from rfl)
    have m1' : X12_city_b31 F a b (nI n) c d tp g (nI 1, ms.1, ms.2.1, ms.2.2.1, ms.2.2.2, mfp, nI 0, nI mt', at0, names) = some (.inl (nI 1, ms'.1, ms'.2.1, ms'.2.2.1, ms'.2.2.2, mfp, nI 0, nI mt2, at1, names1)) := by
      unfold X12_city_b31
      simp (maxSteps := 4000000) (disch := omega) only [↓reduceIte, l_0, l_1, l_2, l_3, l_4, l_5, l_6, l_7, l_8, l_9, l_10, l_11, l_12, l_13, l_14, l_15, l_16, l_17, l_18, l_19, l_20, l_21, l_22, l_23, l_24, l_25, l_26, l_27, l_30, l_31, l_32, l_40, l_48, l_57, l_59, l_60, l_61, l_62, l_64, l_83, l_90, l_97, l_99, l_100, l_108, l_115, l_122, l_123, l_127, l_128, l_131, l_135, l_200, l_255, l_256, l_300, l_487, l_495, l_900, l_999, l_1000, l_1700, l_1792, l_1980, l_2048, l_2475, l_2970, l_3121, l_9999, l_10000, l_11351, l_65536, l_100000, l_1000000, ↓l_m1, l_neg, nI_add, pk_mul, pk_sub, q_leT, q_leF, q_ltT, q_ltF, q_eqT, q_eqF, q_m1e, q_m1e2, q_m1lt, q_m1le, q_m1nl, q_m1nle, q_m1s, q_ix, q_jat, q_jput, q_min1, q_min2, q_max1, q_max2, q_or0, q_0or, q_bs, if_true, if_false, true_and, and_true, false_and, and_false, not_true_eq_false, not_false_eq_true, eq_self, Bool.false_eq_true, q_z0, q_z1, mz, p2]
    rw [iter_l c1, iter_l m1']
    have tb' := tk_bnd t'
    rcases ih (j - 1) (by omega) (i + 1) q' kd' e' v' rt' mt2 N' C' nm' xr' xt' so' nu' xx' xh' xw' at1 co' names1 cs' ms' G (by omega) (by omega) (by omega) t' tr' dr' with ⟨rt3, mt3, N3, cs3, ms3, C3, nm3, xr3, xt3, so3, nu3, xx3, xh3, xw3, at3, co3, names3, r1, r2, r3, r4, r5⟩ | ⟨k, pp, u, w, C3, k1, k7, r1, r2, r3, r4, r5, r6, r7, r8, r9, r10⟩
    · exact Or.inl ⟨rt3, mt3, N3, cs3, ms3, C3, nm3, xr3, xt3, so3, nu3, xx3, xh3, xw3, at3, co3, names3, r1, r2, r3, fun j hj => by rw [r4 j hj, fr1 j hj], fun j hj => by rw [r5 j hj, fr2 j hj]⟩
    · exact Or.inr ⟨k, pp, u, w, C3, k1, k7, r1, r2, r3, r4, r5, r6, r7, r8, fun j hj => by rw [r9 j hj, fr1 j hj], fun j hj => by rw [r10 j hj, fr2 j hj]⟩
  · right
    obtain ⟨G, rfl⟩ : ∃ G', G = G' + 1 := ⟨G - 1, by omega⟩
    have c1 := b22_go (F := F) hd ck hw wk hs fp (show i < n by omega) n9 h2 k0 (by omega) p1
    have m1' : X12_city_b31 F a b (nI n) c d tp g (nI 1, ms.1, ms.2.1, ms.2.2.1, ms.2.2.2, mfp, nI 0, nI mt', at0, names) = some (.inl w) := by
      unfold X12_city_b31
      simp (maxSteps := 4000000) (disch := omega) only [↓reduceIte, l_0, l_1, l_2, l_3, l_4, l_5, l_6, l_7, l_8, l_9, l_10, l_11, l_12, l_13, l_14, l_15, l_16, l_17, l_18, l_19, l_20, l_21, l_22, l_23, l_24, l_25, l_26, l_27, l_30, l_31, l_32, l_40, l_48, l_57, l_59, l_60, l_61, l_62, l_64, l_83, l_90, l_97, l_99, l_100, l_108, l_115, l_122, l_123, l_127, l_128, l_131, l_135, l_200, l_255, l_256, l_300, l_487, l_495, l_900, l_999, l_1000, l_1700, l_1792, l_1980, l_2048, l_2475, l_2970, l_3121, l_9999, l_10000, l_11351, l_65536, l_100000, l_1000000, ↓l_m1, l_neg, nI_add, pk_mul, pk_sub, q_leT, q_leF, q_ltT, q_ltF, q_eqT, q_eqF, q_m1e, q_m1e2, q_m1lt, q_m1le, q_m1nl, q_m1nle, q_m1s, q_ix, q_jat, q_jput, q_min1, q_min2, q_max1, q_max2, q_or0, q_0or, q_bs, if_true, if_false, true_and, and_true, false_and, and_false, not_true_eq_false, not_false_eq_true, eq_self, Bool.false_eq_true, q_z0, q_z1, mz, p2]
    have m2 : X12_city_b31 F a b (nI n) c d tp g w = some (.inr (w.2.1, w.2.2.1, w.2.2.2.1, w.2.2.2.2.1, w.2.2.2.2.2.1, w.2.2.2.2.2.2.1, w.2.2.2.2.2.2.2.1, w.2.2.2.2.2.2.2.2.1, w.2.2.2.2.2.2.2.2.2)) := by
      unfold X12_city_b31
      exact if_pos w0
    refine ⟨k, pp, _, _, C, k1, k7, (iter_l c1 _).trans (iter_r (b22_stop (k := k) hd ck hw wk hs u5 k1 k7) G), u5, u6, dr.1, ?_, (iter_l m1' _).trans (iter_r m2 G), w1, w2, fr1, fr2⟩
    show CT C (u.2.2.1 1)
    rw [ux]; exact dr.2.2.2.2.2.1
end LP
