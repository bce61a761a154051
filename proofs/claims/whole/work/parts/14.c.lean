/-! ===== PURE 14.c: calls that change cells of the city ===== -/
def Chg (C D : Cy) : Prop := Ok D ∧ (∀ k, k < 5 ∨ k = 8 → D 0 0 k = C 0 0 k) ∧ (∀ r c, D 1 r c = C 1 r c) ∧ WB D
theorem Chg_same {C D : Cy} (h : Chg C D) : SameS C D := ⟨h.2.1 0 (by omega), h.2.1 1 (by omega), h.2.2.1⟩
theorem NR_same {C D : Cy} {nN : Int32} {co : Nat → Int64} {so nu : Nat → Int32} {mn : Nat → Int64} (h : NR C nN co so nu mn) (hc : ∀ k, k < 5 → D 0 0 k = C 0 0 k) : NR D nN co so nu mn := by
  have e : ∀ s, s ≤ 4 → cnt D s = cnt C s := by
    intro s hs; unfold cnt; rw [hc 0 (by omega), hc s (by omega)]
  obtain ⟨n, nm, a1, a2, a3, a4, a5, a6⟩ := h
  refine ⟨n, nm, a1, a2, fun i hi => ?_, fun s k h1 h4 hk => ?_, fun s k h1 h4 hk => ?_, fun s k s' k' h1 h2 hk h3 h4 hk' => ?_⟩
  · obtain ⟨s, k, b1, b2, b3, b4⟩ := a3 i hi
    exact ⟨s, k, b1, b2, by rw [e s b2]; exact b3, b4⟩
  · rw [e s h4] at hk; exact a4 s k h1 h4 hk
  · rw [e s h4] at hk; exact a5 s k h1 h4 hk
  · rw [e s h2] at hk; rw [e s' h4] at hk'; exact a6 s k s' k' h1 h2 hk h3 h4 hk'
theorem WR_le {C D : Cy} {hw nW : Int32} {wf g : Nat → Int32} (h : WR C hw nW wf g) (h0 : C 0 0 0 ≤ D 0 0 0) (h2 : C 0 0 2 ≤ D 0 0 2) (h3 : C 0 0 3 ≤ D 0 0 3) (h4 : C 0 0 4 ≤ D 0 0 4) : WR D hw nW wf g := by
  rcases h with h | ⟨a, R, m, b1, b2, b3, b4, b5, b6⟩
  · exact Or.inl h
  · refine Or.inr ⟨a, R, m, b1, b2, b3, b4, fun q hq => ?_, b6⟩
    have := b5 q hq
    unfold RowOk at this ⊢
    rcases this with z | z | z | z | z | z | z | z | z | z | z
    · exact Or.inl z
    · exact Or.inr (Or.inl ⟨z.1, by omega, by omega⟩)
    · exact Or.inr (Or.inr (Or.inl ⟨z.1, by omega, z.2.2⟩))
    · exact Or.inr (Or.inr (Or.inr (Or.inl z)))
    · exact Or.inr (Or.inr (Or.inr (Or.inr (Or.inl z))))
    · exact Or.inr (Or.inr (Or.inr (Or.inr (Or.inr (Or.inl z)))))
    · exact Or.inr (Or.inr (Or.inr (Or.inr (Or.inr (Or.inr (Or.inl z))))))
    · exact Or.inr (Or.inr (Or.inr (Or.inr (Or.inr (Or.inr (Or.inr (Or.inl ⟨z.1, by omega, z.2.2⟩)))))))
    · exact Or.inr (Or.inr (Or.inr (Or.inr (Or.inr (Or.inr (Or.inr (Or.inr (Or.inl ⟨z.1, by omega, by omega⟩))))))))
    · exact Or.inr (Or.inr (Or.inr (Or.inr (Or.inr (Or.inr (Or.inr (Or.inr (Or.inr (Or.inl ⟨z.1, by omega⟩)))))))))
    · exact Or.inr (Or.inr (Or.inr (Or.inr (Or.inr (Or.inr (Or.inr (Or.inr (Or.inr (Or.inr ⟨z.1, by omega, z.2.2⟩)))))))))
theorem City_new {C D : Cy} {ci ci' : Nat → Int32} {ca ca' : Nat → Nat → Int32} {cl : Nat → Int64} {g g' : Nat → Int32} {nm : Nat → Int64} (h : CityOK C ci ca cl g nm) (hD : Chg C D)
    (h0 : ci' 0 = nI (D 0 0 5) ∧ ci' 1 = nI (D 0 0 6) ∧ ci' 2 = nI (D 0 0 7)) (h1 : ∀ k, 3 ≤ k → k < 12 → ci' k = ci k) (h2 : ∀ k, k < 9 → k ≠ 5 → k ≠ 6 → k ≠ 7 → ca' k = ca k)
    (hX : CX D (ca' 5)) (hH : CH D (ca' 6)) (hW : CW D (ca' 7)) (hM : MS D g') (hF : Fr g g') : CityOK D ci' ca' cl g' nm := by
  obtain ⟨a1, a2, a3, ⟨⟨c0, c1, c2, c3, c5, c6, c8, c9, c10⟩, cR, cT, cF, cX, cH, cW⟩, a5, a6, a7⟩ := h
  have ss := Chg_same hD
  obtain ⟨d1, d2, d3, d4⟩ := hD
  refine ⟨d1, by rw [d2 8 (by omega)]; exact a2, d4, ⟨⟨h0.1, h0.2.1, h0.2.2, ?_, ?_, ?_, ?_, ?_, ?_⟩, ?_, ?_, ?_, hX, hH, hW⟩, hM, ?_, ?_⟩
  · rw [h1 3 (by omega) (by omega), d2 8 (by omega)]; exact c3
  · rw [h1 5 (by omega) (by omega), d2 0 (by omega)]; exact c5
  · rw [h1 6 (by omega) (by omega), d2 1 (by omega)]; exact c6
  · rw [h1 8 (by omega) (by omega), d2 2 (by omega)]; exact c8
  · rw [h1 9 (by omega) (by omega), d2 3 (by omega)]; exact c9
  · rw [h1 10 (by omega) (by omega), d2 4 (by omega)]; exact c10
  · intro r c hr hc
    rw [d2 1 (by omega)] at hr
    rw [h2 0 (by omega) (by omega) (by omega) (by omega), d3]; exact cR r c hr hc
  · rw [h2 1 (by omega) (by omega) (by omega) (by omega)]; exact CT_s cT ss
  · rw [h2 2 (by omega) (by omega) (by omega) (by omega)]; exact CF_s cF ss
  · rw [h1 7 (by omega) (by omega), h2 3 (by omega) (by omega) (by omega) (by omega), h2 4 (by omega) (by omega) (by omega) (by omega)]
    exact NR_same a6 (fun k hk => d2 k (by omega))
  · rw [h1 4 (by omega) (by omega), h1 11 (by omega) (by omega), h2 8 (by omega) (by omega) (by omega) (by omega)]
    exact WR_le (WR_cong a7 (fun k hk => hF k (by omega))) (by rw [d2 0 (by omega)]; exact Nat.le_refl _) (by rw [d2 2 (by omega)]; exact Nat.le_refl _) (by rw [d2 3 (by omega)]; exact Nat.le_refl _) (by rw [d2 4 (by omega)]; exact Nat.le_refl _)
theorem EqT_at {T : vS} {st : Int32} {g : Nat → Int32} (hF : ∀ k, 495 ≤ k → k < 1980 → g k = T.2.2.1 0 k) : EqT T (sA (sI T 0 st) 0 g) :=
  ⟨fun k hk => up_n _ _ (by omega), ⟨rfl, rfl⟩, fun k h1 h2 => hF k h1 h2, fun k hk => up_n _ _ (by omega), fun _ _ _ => rfl, rfl⟩
theorem EqS_ar {S : vS} {st : Int32} {k : Nat} {a : Nat → Int32} (hk : k < 9) : EqS S (sA (sI S 5 st) k a) :=
  ⟨fun j hj => up_n _ _ (by omega), ⟨rfl, rfl⟩, fun j hj => up_n _ _ (by omega), fun _ _ => rfl⟩
/-- one table of the class and the model's slot change -/
theorem chg_lift {S T : vS} (h : Rel S T) {k : Nat} (hk : k < 9) {x y : Option (Int32 × Int32 × (Nat → Int32))}
    (hxy : ∃ r st a g D, x = some (r, st, a) ∧ y = some (r, st, g) ∧ CityOK D (fun j => S.1 (6 + j)) (va_up S.2.2.1 k a) (S.2.2.2 0) g (T.2.2.2 0) ∧ Fr (T.2.2.1 0) g) :
    ∃ (r : Int32) (S2 T2 : vS), x.map (fun u => (u.1, sA (sI S 5 u.2.1) k u.2.2)) = some (r, S2) ∧ y.map (fun u => (u.1, sA (sI T 0 u.2.1) 0 u.2.2)) = some (r, T2) ∧ Rel S2 T2 := by
  obtain ⟨r, st, a, g, D, rfl, rfl, hc, hf⟩ := hxy
  refine ⟨r, _, _, rfl, rfl, Rel_of (RelR_eq (Rel_R h) (EqS_ar hk) (EqT_at (fun k h1 h2 => hf k (by omega)))) ?_ (R_ci_of (C := D) ?_)⟩
  · show va_up S.1 5 st 5 = va_up T.1 0 st 0; rw [up_s, up_s]
  · exact CityOK_cong hc (fun j _ => up_n _ _ (by omega)) (fun _ _ => rfl) rfl (fun _ _ => rfl) (fun _ _ => rfl)
theorem up_id {α : Type} (f : Nat → α) (k : Nat) : va_up f k (f k) = f := by
  funext j; unfold va_up
  by_cases e : j = k
  · rw [if_pos e, e]
  · rw [if_neg e]
theorem WB_o {C D : Cy} (h : WB C) (h2 : D 0 0 2 = C 0 0 2) (h3 : D 0 0 3 = C 0 0 3) (hw : ∀ x, D 2 x 3 = C 2 x 3) (hf : ∀ k, D 3 k 3 = C 3 k 3) : WB D := by
  intro x hx
  rw [h2] at hx
  have e : fb_ct (fate D 1) (D 0 0 3) = fb_ct (fate C 1) (C 0 0 3) := by rw [h3]; exact fb_ct_cong (fun k _ => by unfold fate; rw [hf])
  rw [hw, e]; exact h x hx
/-- cells other than wages, fates -/
theorem Chg_set {C : Cy} {t r c v : Nat} (h : Ok (setC C t r c v)) (wb : WB C) (ht : (t = 2 ∧ c ≠ 3) ∨ (t = 3 ∧ c ≠ 3) ∨ t = 4 ∨ (t = 0 ∧ 5 ≤ c ∧ c ≤ 7)) : Chg C (setC C t r c v) := by
  refine ⟨h, fun k hk => ?_, fun r' c' => ?_, WB_o wb ?_ ?_ (fun x => ?_) (fun x => ?_)⟩ <;> (unfold setC; rw [if_neg (by omega)])
theorem Ok_W {C : Cy} {x c v : Nat} (ok : Ok C) (h : (c = 0 ∧ v < C 0 0 0) ∨ (c = 1 ∧ 1 ≤ v ∧ v ≤ 7) ∨ c = 2) : Ok (setC C 4 x c v) := by
  obtain ⟨o0, oR, oE, oH, oW⟩ := ok
  refine ⟨?_, fun r hr => ?_, fun y hy => ?_, fun y hy => ?_, fun y hy => ?_⟩
  · simp only [setC_t C (show (0 : Nat) ≠ 4 by omega)]; exact o0
  · simp only [setC_t C (show (0 : Nat) ≠ 4 by omega), setC_t C (show (1 : Nat) ≠ 4 by omega)] at hr ⊢; exact oR r hr
  · simp only [setC_t C (show (0 : Nat) ≠ 4 by omega), setC_t C (show (2 : Nat) ≠ 4 by omega)] at hy ⊢; exact oE y hy
  · simp only [setC_t C (show (0 : Nat) ≠ 4 by omega), setC_t C (show (3 : Nat) ≠ 4 by omega)] at hy ⊢; exact oH y hy
  · simp only [setC_t C (show (0 : Nat) ≠ 4 by omega)] at hy ⊢
    have e := oW y hy
    unfold setC
    refine ⟨?_, ?_, ?_⟩
    · by_cases q : 4 = 4 ∧ y = x ∧ 0 = c
      · rw [if_pos q]; omega
      · rw [if_neg q]; omega
    · by_cases q : 4 = 4 ∧ y = x ∧ 1 = c
      · rw [if_pos q]; omega
      · rw [if_neg q]; omega
    · by_cases q : 4 = 4 ∧ y = x ∧ 1 = c
      · rw [if_pos q]; omega
      · rw [if_neg q]; omega
theorem Ok_ro {C : Cy} {x v : Nat} (ok : Ok C) (h : v < 256) : Ok (setC C 2 x 2 v) := by
  obtain ⟨o0, oR, oE, oH, oW⟩ := ok
  refine ⟨?_, fun r hr => ?_, fun y hy => ?_, fun y hy => ?_, fun y hy => ?_⟩
  · simp only [setC_t C (show (0 : Nat) ≠ 2 by omega)]; exact o0
  · simp only [setC_t C (show (0 : Nat) ≠ 2 by omega), setC_t C (show (1 : Nat) ≠ 2 by omega)] at hr ⊢; exact oR r hr
  · simp only [setC_t C (show (0 : Nat) ≠ 2 by omega), setC_c C (show (0 : Nat) ≠ 2 by omega), setC_c C (show (1 : Nat) ≠ 2 by omega)] at hy ⊢
    have e := oE y hy
    by_cases q : y = x
    · subst q; rw [setC_s]; exact ⟨e.1, e.2.1, h⟩
    · rw [setC_r C q]; exact e
  · simp only [setC_t C (show (0 : Nat) ≠ 2 by omega), setC_t C (show (3 : Nat) ≠ 2 by omega)] at hy ⊢; exact oH y hy
  · simp only [setC_t C (show (0 : Nat) ≠ 2 by omega), setC_t C (show (4 : Nat) ≠ 2 by omega)] at hy ⊢; exact oW y hy
theorem Ok_rule {C : Cy} {c v : Nat} (ok : Ok C) (h : (c = 5 ∧ v ≤ 99) ∨ (c = 6 ∧ 1 ≤ v ∧ v ≤ 24) ∨ (c = 7 ∧ v ≤ 16)) : Ok (setC C 0 0 c v) := by
  obtain ⟨o0, oR, oE, oH, oW⟩ := ok
  have z : ∀ k, k < 5 → setC C 0 0 c v 0 0 k = C 0 0 k := fun k hk => setC_c C (by omega)
  refine ⟨?_, fun r hr => ?_, fun y hy => ?_, fun y hy => ?_, fun y hy => ?_⟩
  · rw [z 0 (by omega), z 1 (by omega), z 2 (by omega), z 3 (by omega), z 4 (by omega)]
    rcases h with ⟨rfl, h⟩ | ⟨rfl, h⟩ | ⟨rfl, h⟩
    · rw [setC_s, setC_c C (show 6 ≠ 5 by omega), setC_c C (show 7 ≠ 5 by omega), setC_c C (show 8 ≠ 5 by omega)]; omega
    · rw [setC_s, setC_c C (show 5 ≠ 6 by omega), setC_c C (show 7 ≠ 6 by omega), setC_c C (show 8 ≠ 6 by omega)]; omega
    · rw [setC_s, setC_c C (show 5 ≠ 7 by omega), setC_c C (show 6 ≠ 7 by omega), setC_c C (show 8 ≠ 7 by omega)]; omega
  · rw [z 1 (by omega)] at hr
    simp only [z 0 (by omega), setC_t C (show (1 : Nat) ≠ 0 by omega)]; exact oR r hr
  · rw [z 2 (by omega)] at hy
    simp only [z 0 (by omega), setC_t C (show (2 : Nat) ≠ 0 by omega)]; exact oE y hy
  · rw [z 3 (by omega)] at hy
    simp only [z 0 (by omega), setC_t C (show (3 : Nat) ≠ 0 by omega)]; exact oH y hy
  · rw [z 4 (by omega)] at hy
    simp only [z 0 (by omega), setC_t C (show (4 : Nat) ≠ 0 by omega)]; exact oW y hy
theorem xor_lt {a b : Nat} (ha : a < 256) (hb : b < 8) : a ^^^ 2 ^ b < 256 := by
  have h : (2 : Nat) ^ b < 2 ^ 8 := Nat.pow_lt_pow_right (by omega) hb
  exact Nat.xor_lt_two_pow (n := 8) ha h
/-- the changed city from the changed parts -/
theorem City_X {C D : Cy} {S T : vS} {a g : Nat → Int32} (h : CityOK C (fun k => S.1 (6 + k)) (fun k => S.2.2.1 k) (S.2.2.2 0) (T.2.2.1 0) (T.2.2.2 0)) (hD : Chg C D) (h0 : ∀ k, D 0 0 k = C 0 0 k) (hX : CX D a) (hH : CH D (S.2.2.1 6)) (hW : CW D (S.2.2.1 7)) (hM : MS D g) (hF : Fr (T.2.2.1 0) g) : CityOK D (fun j => S.1 (6 + j)) (va_up S.2.2.1 5 a) (S.2.2.2 0) g (T.2.2.2 0) := by
  refine City_new h hD ?_ (fun _ _ _ => rfl) (fun k _ h5 _ _ => up_n _ _ h5) hX hH hW hM hF
  rw [h0, h0, h0]; exact ⟨h.2.2.2.1.1.1, h.2.2.2.1.1.2.1, h.2.2.2.1.1.2.2.1⟩
theorem City_H {C D : Cy} {S T : vS} {a g : Nat → Int32} (h : CityOK C (fun k => S.1 (6 + k)) (fun k => S.2.2.1 k) (S.2.2.2 0) (T.2.2.1 0) (T.2.2.2 0)) (hD : Chg C D) (h0 : ∀ k, D 0 0 k = C 0 0 k) (hX : CX D (S.2.2.1 5)) (hH : CH D a) (hW : CW D (S.2.2.1 7)) (hM : MS D g) (hF : Fr (T.2.2.1 0) g) : CityOK D (fun j => S.1 (6 + j)) (va_up S.2.2.1 6 a) (S.2.2.2 0) g (T.2.2.2 0) := by
  refine City_new h hD ?_ (fun _ _ _ => rfl) (fun k _ _ h6 _ => up_n _ _ h6) hX hH hW hM hF
  rw [h0, h0, h0]; exact ⟨h.2.2.2.1.1.1, h.2.2.2.1.1.2.1, h.2.2.2.1.1.2.2.1⟩
theorem City_W {C D : Cy} {S T : vS} {a g : Nat → Int32} (h : CityOK C (fun k => S.1 (6 + k)) (fun k => S.2.2.1 k) (S.2.2.2 0) (T.2.2.1 0) (T.2.2.2 0)) (hD : Chg C D) (h0 : ∀ k, D 0 0 k = C 0 0 k) (hX : CX D (S.2.2.1 5)) (hH : CH D (S.2.2.1 6)) (hW : CW D a) (hM : MS D g) (hF : Fr (T.2.2.1 0) g) : CityOK D (fun j => S.1 (6 + j)) (va_up S.2.2.1 7 a) (S.2.2.2 0) g (T.2.2.2 0) := by
  refine City_new h hD ?_ (fun _ _ _ => rfl) (fun k _ _ _ h7 => up_n _ _ h7) hX hH hW hM hF
  rw [h0, h0, h0]; exact ⟨h.2.2.2.1.1.1, h.2.2.2.1.1.2.1, h.2.2.2.1.1.2.2.1⟩
theorem City_id {C : Cy} {S T : vS} {k : Nat} (h : CityOK C (fun k => S.1 (6 + k)) (fun k => S.2.2.1 k) (S.2.2.2 0) (T.2.2.1 0) (T.2.2.2 0)) : CityOK C (fun j => S.1 (6 + j)) (va_up S.2.2.1 k (S.2.2.1 k)) (S.2.2.2 0) (T.2.2.1 0) (T.2.2.2 0) := by rw [up_id]; exact h
theorem q_is0 {s : Int32} : X12_is s (nI 0) = some (nI 1, nI 0) := rfl
theorem q_isn {s : Int32} {k : Nat} (h : k ≠ 0) (h2 : k < 2 ^ 31) : X12_is s (nI k) = some (nI 0, nI k) := by
  unfold X12_is; simp (disch := omega) only [l_0, l_1, l_2, l_3, l_4, l_5, l_6, l_7, l_8, l_9, l_10, l_11, l_12, l_13, l_14, l_15, l_16, l_17, l_18, l_19, l_20, l_21, l_22, l_23, l_24, l_25, l_26, l_27, l_30, l_31, l_32, l_40, l_48, l_57, l_59, l_60, l_61, l_62, l_64, l_83, l_90, l_97, l_99, l_100, l_108, l_115, l_122, l_123, l_127, l_128, l_131, l_135, l_200, l_255, l_256, l_300, l_487, l_495, l_900, l_999, l_1000, l_1700, l_1792, l_1980, l_2048, l_2475, l_2970, l_3121, l_9999, l_10000, l_11351, l_65536, l_100000, l_1000000, ↓l_m1, l_neg, nI_add, pk_mul, pk_sub, q_leT, q_leF, q_ltT, q_ltF, q_eqT, q_eqF, q_m1e, q_m1e2, q_m1lt, q_m1le, q_m1nl, q_m1nle, q_m1s, q_ix, q_jat, q_jput, q_min1, q_min2, q_max1, q_max2, q_or0, q_0or, q_bs, if_true, if_false, true_and, and_true, false_and, and_false, not_true_eq_false, not_false_eq_true, eq_self, Bool.false_eq_true, q_z0, q_z1]
theorem ok_order' {F : Nat} (hF : 2000 < F) : ok_order F Rel := fun S T v1 v2 v3 h _ => by
  obtain ⟨C, hC⟩ := Rel_city h
  have hC' := hC
  obtain ⟨ok, h8, wb, ⟨⟨c0, c1, c2, c3, c5, c6, c8, c9, c10⟩, cR, cT, cF, cX, cH, cW⟩, hM, nr, wr⟩ := hC'
  have c0 : S.1 6 = nI (C 0 0 5) := c0; have c1 : S.1 7 = nI (C 0 0 6) := c1; have c2 : S.1 8 = nI (C 0 0 7) := c2; have c3 : S.1 9 = nI (C 0 0 8) := c3; have c5 : S.1 11 = nI (C 0 0 0) := c5; have c6 : S.1 12 = nI (C 0 0 1) := c6; have c8 : S.1 14 = nI (C 0 0 2) := c8; have c9 : S.1 15 = nI (C 0 0 3) := c9; have c10 : S.1 16 = nI (C 0 0 4) := c10; have cT : CT C (S.2.2.1 1) := cT; have cF : CF C (S.2.2.1 2) := cF; have cX : CX C (S.2.2.1 5) := cX; have cH : CH C (S.2.2.1 6) := cH; have cW : CW C (S.2.2.1 7) := cW
  refine chg_lift (k := 5) h (by omega) ?_
  rw [c8, c9]
  have o0 := ok.1
  unfold X11_order X12_order X11_order_j16 X12_order_j16 X11_refused X11_accepted
  rcases rng v1 (n := C 0 0 2) (by omega) with ⟨x, hx, rfl⟩ | hv
  case inr =>
    refine ⟨nI 0, nI 1, S.2.2.1 5, T.2.2.1 0, C, ?_, ?_, City_id hC, Fr_r _⟩
    · simp (disch := omega) only [l_0, l_1, l_2, l_3, l_4, l_5, l_6, l_7, l_8, l_9, l_10, l_11, l_12, l_13, l_14, l_15, l_16, l_17, l_18, l_19, l_20, l_21, l_22, l_23, l_24, l_25, l_26, l_27, l_30, l_31, l_32, l_40, l_48, l_57, l_59, l_60, l_61, l_62, l_64, l_83, l_90, l_97, l_99, l_100, l_108, l_115, l_122, l_123, l_127, l_128, l_131, l_135, l_200, l_255, l_256, l_300, l_487, l_495, l_900, l_999, l_1000, l_1700, l_1792, l_1980, l_2048, l_2475, l_2970, l_3121, l_9999, l_10000, l_11351, l_65536, l_100000, l_1000000, ↓l_m1, l_neg, nI_add, pk_mul, pk_sub, q_leT, q_leF, q_ltT, q_ltF, q_eqT, q_eqF, q_m1e, q_m1e2, q_m1lt, q_m1le, q_m1nl, q_m1nle, q_m1s, q_ix, q_jat, q_jput, q_min1, q_min2, q_max1, q_max2, q_or0, q_0or, q_bs, if_true, if_false, true_and, and_true, false_and, and_false, not_true_eq_false, not_false_eq_true, eq_self, Bool.false_eq_true, q_z0, q_z1, q_iEF hv]
    · simp (disch := omega) only [l_0, l_1, l_2, l_3, l_4, l_5, l_6, l_7, l_8, l_9, l_10, l_11, l_12, l_13, l_14, l_15, l_16, l_17, l_18, l_19, l_20, l_21, l_22, l_23, l_24, l_25, l_26, l_27, l_30, l_31, l_32, l_40, l_48, l_57, l_59, l_60, l_61, l_62, l_64, l_83, l_90, l_97, l_99, l_100, l_108, l_115, l_122, l_123, l_127, l_128, l_131, l_135, l_200, l_255, l_256, l_300, l_487, l_495, l_900, l_999, l_1000, l_1700, l_1792, l_1980, l_2048, l_2475, l_2970, l_3121, l_9999, l_10000, l_11351, l_65536, l_100000, l_1000000, ↓l_m1, l_neg, nI_add, pk_mul, pk_sub, q_leT, q_leF, q_ltT, q_ltF, q_eqT, q_eqF, q_m1e, q_m1e2, q_m1lt, q_m1le, q_m1nl, q_m1nle, q_m1s, q_ix, q_jat, q_jput, q_min1, q_min2, q_max1, q_max2, q_or0, q_0or, q_bs, if_true, if_false, true_and, and_true, false_and, and_false, not_true_eq_false, not_false_eq_true, eq_self, Bool.false_eq_true, q_z0, q_z1, m_iEF hM hv, q_isn]
  rcases rng v2 (n := C 0 0 3) (by omega) with ⟨y, hy, rfl⟩ | hv
  case inr =>
    refine ⟨nI 0, nI 1, S.2.2.1 5, T.2.2.1 0, C, ?_, ?_, City_id hC, Fr_r _⟩
    · simp (disch := omega) only [l_0, l_1, l_2, l_3, l_4, l_5, l_6, l_7, l_8, l_9, l_10, l_11, l_12, l_13, l_14, l_15, l_16, l_17, l_18, l_19, l_20, l_21, l_22, l_23, l_24, l_25, l_26, l_27, l_30, l_31, l_32, l_40, l_48, l_57, l_59, l_60, l_61, l_62, l_64, l_83, l_90, l_97, l_99, l_100, l_108, l_115, l_122, l_123, l_127, l_128, l_131, l_135, l_200, l_255, l_256, l_300, l_487, l_495, l_900, l_999, l_1000, l_1700, l_1792, l_1980, l_2048, l_2475, l_2970, l_3121, l_9999, l_10000, l_11351, l_65536, l_100000, l_1000000, ↓l_m1, l_neg, nI_add, pk_mul, pk_sub, q_leT, q_leF, q_ltT, q_ltF, q_eqT, q_eqF, q_m1e, q_m1e2, q_m1lt, q_m1le, q_m1nl, q_m1nle, q_m1s, q_ix, q_jat, q_jput, q_min1, q_min2, q_max1, q_max2, q_or0, q_0or, q_bs, if_true, if_false, true_and, and_true, false_and, and_false, not_true_eq_false, not_false_eq_true, eq_self, Bool.false_eq_true, q_z0, q_z1, q_iET, q_iHF hv]
    · simp (disch := omega) only [l_0, l_1, l_2, l_3, l_4, l_5, l_6, l_7, l_8, l_9, l_10, l_11, l_12, l_13, l_14, l_15, l_16, l_17, l_18, l_19, l_20, l_21, l_22, l_23, l_24, l_25, l_26, l_27, l_30, l_31, l_32, l_40, l_48, l_57, l_59, l_60, l_61, l_62, l_64, l_83, l_90, l_97, l_99, l_100, l_108, l_115, l_122, l_123, l_127, l_128, l_131, l_135, l_200, l_255, l_256, l_300, l_487, l_495, l_900, l_999, l_1000, l_1700, l_1792, l_1980, l_2048, l_2475, l_2970, l_3121, l_9999, l_10000, l_11351, l_65536, l_100000, l_1000000, ↓l_m1, l_neg, nI_add, pk_mul, pk_sub, q_leT, q_leF, q_ltT, q_ltF, q_eqT, q_eqF, q_m1e, q_m1e2, q_m1lt, q_m1le, q_m1nl, q_m1nle, q_m1s, q_ix, q_jat, q_jput, q_min1, q_min2, q_max1, q_max2, q_or0, q_0or, q_bs, if_true, if_false, true_and, and_true, false_and, and_false, not_true_eq_false, not_false_eq_true, eq_self, Bool.false_eq_true, q_z0, q_z1, m_iET hM, m_iHF hM hv, q_isn]
  have e1 := ok.2.2.1 x hx
  have k2 : T.2.2.1 0 (48 + 5 * x + 2) = nI (C 2 x 2) := hM.2.2.2.2.1 x 2 hx (by omega) (by omega)
  have xl := xor_lt e1.2.2 (show y < 8 by omega)
  unfold X0_isOrdered X0_turnOrder X12_extraRow
  have key : ∀ b : Bool, (C 2 x 2).testBit y = b → ∃ r st a g D, (if v3 = zb b then some (nI 0, nI 7, S.2.2.1 5) else some (nI 1, nI 0, upd (S.2.2.1 5) (x * 5 + 2) (nI (C 2 x 2 ^^^ 2 ^ y)))) = some (r, st, a) ∧ (if zb b = v3 then some (nI 0, nI 7, T.2.2.1 0) else some (nI 1, nI 0, upd (T.2.2.1 0) (48 + 5 * x + 2) (nI (C 2 x 2 ^^^ 2 ^ y)))) = some (r, st, g) ∧ CityOK D (fun j => S.1 (6 + j)) (va_up S.2.2.1 5 a) (S.2.2.2 0) g (T.2.2.2 0) ∧ Fr (T.2.2.1 0) g := by
    intro b _
    by_cases q : v3 = zb b
    · exact ⟨_, _, _, _, C, if_pos q, if_pos q.symm, City_id hC, Fr_r _⟩
    · refine ⟨_, _, _, _, setC C 2 x 2 (C 2 x 2 ^^^ 2 ^ y), if_neg q, if_neg (fun z => q z.symm), City_X hC (Chg_set (Ok_ro ok xl) wb (by omega)) (fun k => setC_t C (by omega)) (CX_upd cX (by omega)) (CH_o cH (by omega) (by omega)) (CW_o cW (by omega) (by omega)) (MS_Ec ok hM hx (by omega) (by omega)) (Fr_upd (by omega) (by omega)), Fr_upd (by omega) (by omega)⟩
  cases hb : (C 2 x 2).testBit y with
  | false =>
    have kk := key false hb
    rw [zb_f] at kk
    simp (disch := omega) only [l_0, l_1, l_2, l_3, l_4, l_5, l_6, l_7, l_8, l_9, l_10, l_11, l_12, l_13, l_14, l_15, l_16, l_17, l_18, l_19, l_20, l_21, l_22, l_23, l_24, l_25, l_26, l_27, l_30, l_31, l_32, l_40, l_48, l_57, l_59, l_60, l_61, l_62, l_64, l_83, l_90, l_97, l_99, l_100, l_108, l_115, l_122, l_123, l_127, l_128, l_131, l_135, l_200, l_255, l_256, l_300, l_487, l_495, l_900, l_999, l_1000, l_1700, l_1792, l_1980, l_2048, l_2475, l_2970, l_3121, l_9999, l_10000, l_11351, l_65536, l_100000, l_1000000, ↓l_m1, l_neg, nI_add, pk_mul, pk_sub, q_leT, q_leF, q_ltT, q_ltF, q_eqT, q_eqF, q_m1e, q_m1e2, q_m1lt, q_m1le, q_m1nl, q_m1nle, q_m1s, q_ix, q_jat, q_jput, q_min1, q_min2, q_max1, q_max2, q_or0, q_0or, q_bs, if_true, if_false, true_and, and_true, false_and, and_false, not_true_eq_false, not_false_eq_true, eq_self, Bool.false_eq_true, q_z0, q_z1, q_get, q_set, q_raise, q_iET, q_iHT, m_iET hM, m_iHT hM, cX x, m_0 hM, m_E hM, m_Es hM, m_Er hM, m_H hM, m_W hM, m_R0 hM, m_R1 hM, m_R2 hM, q_bitF hb, q_isInF hb, q_isn, q_is0, q_shl1, fb_xorI, k2]
    exact kk
  | true =>
    have kk := key true hb
    rw [zb_t] at kk
    simp (disch := omega) only [l_0, l_1, l_2, l_3, l_4, l_5, l_6, l_7, l_8, l_9, l_10, l_11, l_12, l_13, l_14, l_15, l_16, l_17, l_18, l_19, l_20, l_21, l_22, l_23, l_24, l_25, l_26, l_27, l_30, l_31, l_32, l_40, l_48, l_57, l_59, l_60, l_61, l_62, l_64, l_83, l_90, l_97, l_99, l_100, l_108, l_115, l_122, l_123, l_127, l_128, l_131, l_135, l_200, l_255, l_256, l_300, l_487, l_495, l_900, l_999, l_1000, l_1700, l_1792, l_1980, l_2048, l_2475, l_2970, l_3121, l_9999, l_10000, l_11351, l_65536, l_100000, l_1000000, ↓l_m1, l_neg, nI_add, pk_mul, pk_sub, q_leT, q_leF, q_ltT, q_ltF, q_eqT, q_eqF, q_m1e, q_m1e2, q_m1lt, q_m1le, q_m1nl, q_m1nle, q_m1s, q_ix, q_jat, q_jput, q_min1, q_min2, q_max1, q_max2, q_or0, q_0or, q_bs, if_true, if_false, true_and, and_true, false_and, and_false, not_true_eq_false, not_false_eq_true, eq_self, Bool.false_eq_true, q_z0, q_z1, q_get, q_set, q_raise, q_iET, q_iHT, m_iET hM, m_iHT hM, cX x, m_0 hM, m_E hM, m_Es hM, m_Er hM, m_H hM, m_W hM, m_R0 hM, m_R1 hM, m_R2 hM, q_bitT hb, q_isInT hb, q_isn, q_is0, q_shl1, fb_xorI, k2]
    exact kk
theorem ok_put' {F : Nat} (hF : 2000 < F) : ok_put F Rel := fun S T v1 v2 h => by
  obtain ⟨C, hC⟩ := Rel_city h
  have hC' := hC
  obtain ⟨ok, h8, wb, ⟨⟨c0, c1, c2, c3, c5, c6, c8, c9, c10⟩, cR, cT, cF, cX, cH, cW⟩, hM, nr, wr⟩ := hC'
  have c0 : S.1 6 = nI (C 0 0 5) := c0; have c1 : S.1 7 = nI (C 0 0 6) := c1; have c2 : S.1 8 = nI (C 0 0 7) := c2; have c3 : S.1 9 = nI (C 0 0 8) := c3; have c5 : S.1 11 = nI (C 0 0 0) := c5; have c6 : S.1 12 = nI (C 0 0 1) := c6; have c8 : S.1 14 = nI (C 0 0 2) := c8; have c9 : S.1 15 = nI (C 0 0 3) := c9; have c10 : S.1 16 = nI (C 0 0 4) := c10; have cT : CT C (S.2.2.1 1) := cT; have cF : CF C (S.2.2.1 2) := cF; have cX : CX C (S.2.2.1 5) := cX; have cH : CH C (S.2.2.1 6) := cH; have cW : CW C (S.2.2.1 7) := cW
  refine chg_lift (k := 6) h (by omega) ?_
  rw [c9]
  have o0 := ok.1
  unfold X11_put X12_put X11_put_j18 X12_put_j20 X11_none X11_answer X12_refuse X12_gives
  rcases rng v1 (n := C 0 0 3) (by omega) with ⟨x, hx, rfl⟩ | hv
  case inr =>
    refine ⟨m1, nI 1, S.2.2.1 6, T.2.2.1 0, C, ?_, ?_, City_id hC, Fr_r _⟩
    · simp (disch := omega) only [l_0, l_1, l_2, l_3, l_4, l_5, l_6, l_7, l_8, l_9, l_10, l_11, l_12, l_13, l_14, l_15, l_16, l_17, l_18, l_19, l_20, l_21, l_22, l_23, l_24, l_25, l_26, l_27, l_30, l_31, l_32, l_40, l_48, l_57, l_59, l_60, l_61, l_62, l_64, l_83, l_90, l_97, l_99, l_100, l_108, l_115, l_122, l_123, l_127, l_128, l_131, l_135, l_200, l_255, l_256, l_300, l_487, l_495, l_900, l_999, l_1000, l_1700, l_1792, l_1980, l_2048, l_2475, l_2970, l_3121, l_9999, l_10000, l_11351, l_65536, l_100000, l_1000000, ↓l_m1, l_neg, nI_add, pk_mul, pk_sub, q_leT, q_leF, q_ltT, q_ltF, q_eqT, q_eqF, q_m1e, q_m1e2, q_m1lt, q_m1le, q_m1nl, q_m1nle, q_m1s, q_ix, q_jat, q_jput, q_min1, q_min2, q_max1, q_max2, q_or0, q_0or, q_bs, if_true, if_false, true_and, and_true, false_and, and_false, not_true_eq_false, not_false_eq_true, eq_self, Bool.false_eq_true, q_z0, q_z1, q_iHF hv]
    · simp (disch := omega) only [l_0, l_1, l_2, l_3, l_4, l_5, l_6, l_7, l_8, l_9, l_10, l_11, l_12, l_13, l_14, l_15, l_16, l_17, l_18, l_19, l_20, l_21, l_22, l_23, l_24, l_25, l_26, l_27, l_30, l_31, l_32, l_40, l_48, l_57, l_59, l_60, l_61, l_62, l_64, l_83, l_90, l_97, l_99, l_100, l_108, l_115, l_122, l_123, l_127, l_128, l_131, l_135, l_200, l_255, l_256, l_300, l_487, l_495, l_900, l_999, l_1000, l_1700, l_1792, l_1980, l_2048, l_2475, l_2970, l_3121, l_9999, l_10000, l_11351, l_65536, l_100000, l_1000000, ↓l_m1, l_neg, nI_add, pk_mul, pk_sub, q_leT, q_leF, q_ltT, q_ltF, q_eqT, q_eqF, q_m1e, q_m1e2, q_m1lt, q_m1le, q_m1nl, q_m1nle, q_m1s, q_ix, q_jat, q_jput, q_min1, q_min2, q_max1, q_max2, q_or0, q_0or, q_bs, if_true, if_false, true_and, and_true, false_and, and_false, not_true_eq_false, not_false_eq_true, eq_self, Bool.false_eq_true, q_z0, q_z1, m_iHF hM hv]
  rcases rngw v2 (a := 1) (b := 99) (by omega) (by omega) with ⟨k, h1, h2, rfl⟩ | hv
  case inr =>
    refine ⟨m1, nI 1, S.2.2.1 6, T.2.2.1 0, C, ?_, ?_, City_id hC, Fr_r _⟩
    · simp (disch := omega) only [l_0, l_1, l_2, l_3, l_4, l_5, l_6, l_7, l_8, l_9, l_10, l_11, l_12, l_13, l_14, l_15, l_16, l_17, l_18, l_19, l_20, l_21, l_22, l_23, l_24, l_25, l_26, l_27, l_30, l_31, l_32, l_40, l_48, l_57, l_59, l_60, l_61, l_62, l_64, l_83, l_90, l_97, l_99, l_100, l_108, l_115, l_122, l_123, l_127, l_128, l_131, l_135, l_200, l_255, l_256, l_300, l_487, l_495, l_900, l_999, l_1000, l_1700, l_1792, l_1980, l_2048, l_2475, l_2970, l_3121, l_9999, l_10000, l_11351, l_65536, l_100000, l_1000000, ↓l_m1, l_neg, nI_add, pk_mul, pk_sub, q_leT, q_leF, q_ltT, q_ltF, q_eqT, q_eqF, q_m1e, q_m1e2, q_m1lt, q_m1le, q_m1nl, q_m1nle, q_m1s, q_ix, q_jat, q_jput, q_min1, q_min2, q_max1, q_max2, q_or0, q_0or, q_bs, if_true, if_false, true_and, and_true, false_and, and_false, not_true_eq_false, not_false_eq_true, eq_self, Bool.false_eq_true, q_z0, q_z1, q_iHT, q_wF hv]
    · have f := q_fF (show (1 : Int64) = (nI 1).toInt64 by decide) (show (99 : Int64) = (nI 99).toInt64 by decide) hv
      simp (disch := omega) only [l_0, l_1, l_2, l_3, l_4, l_5, l_6, l_7, l_8, l_9, l_10, l_11, l_12, l_13, l_14, l_15, l_16, l_17, l_18, l_19, l_20, l_21, l_22, l_23, l_24, l_25, l_26, l_27, l_30, l_31, l_32, l_40, l_48, l_57, l_59, l_60, l_61, l_62, l_64, l_83, l_90, l_97, l_99, l_100, l_108, l_115, l_122, l_123, l_127, l_128, l_131, l_135, l_200, l_255, l_256, l_300, l_487, l_495, l_900, l_999, l_1000, l_1700, l_1792, l_1980, l_2048, l_2475, l_2970, l_3121, l_9999, l_10000, l_11351, l_65536, l_100000, l_1000000, ↓l_m1, l_neg, nI_add, pk_mul, pk_sub, q_leT, q_leF, q_ltT, q_ltF, q_eqT, q_eqF, q_m1e, q_m1e2, q_m1lt, q_m1le, q_m1nl, q_m1nle, q_m1s, q_ix, q_jat, q_jput, q_min1, q_min2, q_max1, q_max2, q_or0, q_0or, q_bs, if_true, if_false, true_and, and_true, false_and, and_false, not_true_eq_false, not_false_eq_true, eq_self, Bool.false_eq_true, q_z0, q_z1, m_iHT hM, f]
  have f := q_fT (k := k) (show (1 : Int64) = (nI 1).toInt64 by decide) (show (99 : Int64) = (nI 99).toInt64 by decide) h1 h2 (by omega)
  have e1 := ok.2.2.2.1 x hx
  have k1 : T.2.2.1 0 (83 + 4 * x + 1) = nI (C 3 x 1) := hM.2.2.2.2.2.1 x 1 hx (by omega)
  unfold X0_putOff X12_puts X12_happeningRow
  by_cases q1 : C 3 x 3 = 0
  case neg =>
    refine ⟨m1, nI 7, S.2.2.1 6, T.2.2.1 0, C, ?_, ?_, City_id hC, Fr_r _⟩
    · simp (disch := omega) only [l_0, l_1, l_2, l_3, l_4, l_5, l_6, l_7, l_8, l_9, l_10, l_11, l_12, l_13, l_14, l_15, l_16, l_17, l_18, l_19, l_20, l_21, l_22, l_23, l_24, l_25, l_26, l_27, l_30, l_31, l_32, l_40, l_48, l_57, l_59, l_60, l_61, l_62, l_64, l_83, l_90, l_97, l_99, l_100, l_108, l_115, l_122, l_123, l_127, l_128, l_131, l_135, l_200, l_255, l_256, l_300, l_487, l_495, l_900, l_999, l_1000, l_1700, l_1792, l_1980, l_2048, l_2475, l_2970, l_3121, l_9999, l_10000, l_11351, l_65536, l_100000, l_1000000, ↓l_m1, l_neg, nI_add, pk_mul, pk_sub, q_leT, q_leF, q_ltT, q_ltF, q_eqT, q_eqF, q_m1e, q_m1e2, q_m1lt, q_m1le, q_m1nl, q_m1nle, q_m1s, q_ix, q_jat, q_jput, q_min1, q_min2, q_max1, q_max2, q_or0, q_0or, q_bs, if_true, if_false, true_and, and_true, false_and, and_false, not_true_eq_false, not_false_eq_true, eq_self, Bool.false_eq_true, q_z0, q_z1, q_iHT, q_wT, c_tcF cH]
    · simp (disch := omega) only [l_0, l_1, l_2, l_3, l_4, l_5, l_6, l_7, l_8, l_9, l_10, l_11, l_12, l_13, l_14, l_15, l_16, l_17, l_18, l_19, l_20, l_21, l_22, l_23, l_24, l_25, l_26, l_27, l_30, l_31, l_32, l_40, l_48, l_57, l_59, l_60, l_61, l_62, l_64, l_83, l_90, l_97, l_99, l_100, l_108, l_115, l_122, l_123, l_127, l_128, l_131, l_135, l_200, l_255, l_256, l_300, l_487, l_495, l_900, l_999, l_1000, l_1700, l_1792, l_1980, l_2048, l_2475, l_2970, l_3121, l_9999, l_10000, l_11351, l_65536, l_100000, l_1000000, ↓l_m1, l_neg, nI_add, pk_mul, pk_sub, q_leT, q_leF, q_ltT, q_ltF, q_eqT, q_eqF, q_m1e, q_m1e2, q_m1lt, q_m1le, q_m1nl, q_m1nle, q_m1s, q_ix, q_jat, q_jput, q_min1, q_min2, q_max1, q_max2, q_or0, q_0or, q_bs, if_true, if_false, true_and, and_true, false_and, and_false, not_true_eq_false, not_false_eq_true, eq_self, Bool.false_eq_true, q_z0, q_z1, m_iHT hM, f, m_tcF hM]
  by_cases q2 : C 3 x 1 + k ≤ 9999
  case neg =>
    refine ⟨m1, nI 7, S.2.2.1 6, T.2.2.1 0, C, ?_, ?_, City_id hC, Fr_r _⟩
    · simp (disch := omega) only [l_0, l_1, l_2, l_3, l_4, l_5, l_6, l_7, l_8, l_9, l_10, l_11, l_12, l_13, l_14, l_15, l_16, l_17, l_18, l_19, l_20, l_21, l_22, l_23, l_24, l_25, l_26, l_27, l_30, l_31, l_32, l_40, l_48, l_57, l_59, l_60, l_61, l_62, l_64, l_83, l_90, l_97, l_99, l_100, l_108, l_115, l_122, l_123, l_127, l_128, l_131, l_135, l_200, l_255, l_256, l_300, l_487, l_495, l_900, l_999, l_1000, l_1700, l_1792, l_1980, l_2048, l_2475, l_2970, l_3121, l_9999, l_10000, l_11351, l_65536, l_100000, l_1000000, ↓l_m1, l_neg, nI_add, pk_mul, pk_sub, q_leT, q_leF, q_ltT, q_ltF, q_eqT, q_eqF, q_m1e, q_m1e2, q_m1lt, q_m1le, q_m1nl, q_m1nle, q_m1s, q_ix, q_jat, q_jput, q_min1, q_min2, q_max1, q_max2, q_or0, q_0or, q_bs, if_true, if_false, true_and, and_true, false_and, and_false, not_true_eq_false, not_false_eq_true, eq_self, Bool.false_eq_true, q_z0, q_z1, q_get, q_set, q_raise, q_iHT, q_wT, c_tcT cH, cH x]
    · simp (disch := omega) only [l_0, l_1, l_2, l_3, l_4, l_5, l_6, l_7, l_8, l_9, l_10, l_11, l_12, l_13, l_14, l_15, l_16, l_17, l_18, l_19, l_20, l_21, l_22, l_23, l_24, l_25, l_26, l_27, l_30, l_31, l_32, l_40, l_48, l_57, l_59, l_60, l_61, l_62, l_64, l_83, l_90, l_97, l_99, l_100, l_108, l_115, l_122, l_123, l_127, l_128, l_131, l_135, l_200, l_255, l_256, l_300, l_487, l_495, l_900, l_999, l_1000, l_1700, l_1792, l_1980, l_2048, l_2475, l_2970, l_3121, l_9999, l_10000, l_11351, l_65536, l_100000, l_1000000, ↓l_m1, l_neg, nI_add, pk_mul, pk_sub, q_leT, q_leF, q_ltT, q_ltF, q_eqT, q_eqF, q_m1e, q_m1e2, q_m1lt, q_m1le, q_m1nl, q_m1nle, q_m1s, q_ix, q_jat, q_jput, q_min1, q_min2, q_max1, q_max2, q_or0, q_0or, q_bs, if_true, if_false, true_and, and_true, false_and, and_false, not_true_eq_false, not_false_eq_true, eq_self, Bool.false_eq_true, q_z0, q_z1, m_iHT hM, f, m_tcT hM, m_0 hM, m_E hM, m_Es hM, m_Er hM, m_H hM, m_W hM, m_R0 hM, m_R1 hM, m_R2 hM]
  have hM2 : MS (setC C 3 x 1 (C 3 x 1 + k)) (upd (T.2.2.1 0) (83 + 4 * x + 1) (nI (C 3 x 1 + k))) := MS_H ok hM hx (by omega)
  refine ⟨nI (C 3 x 1 + k), nI 0, upd (S.2.2.1 6) (x * 5 + 1) (nI (C 3 x 1 + k)), upd (T.2.2.1 0) (83 + 4 * x + 1) (nI (C 3 x 1 + k)), setC C 3 x 1 (C 3 x 1 + k), ?_, ?_, City_H hC (Chg_set (Ok_H ok (by omega)) wb (by omega)) (fun k => setC_t C (by omega)) (CX_o cX (by omega) (by omega)) (CH_upd cH (by omega)) (CW_o cW (by omega) (by omega)) hM2 (Fr_upd (by omega) (by omega)), Fr_upd (by omega) (by omega)⟩
  · simp (disch := omega) only [l_0, l_1, l_2, l_3, l_4, l_5, l_6, l_7, l_8, l_9, l_10, l_11, l_12, l_13, l_14, l_15, l_16, l_17, l_18, l_19, l_20, l_21, l_22, l_23, l_24, l_25, l_26, l_27, l_30, l_31, l_32, l_40, l_48, l_57, l_59, l_60, l_61, l_62, l_64, l_83, l_90, l_97, l_99, l_100, l_108, l_115, l_122, l_123, l_127, l_128, l_131, l_135, l_200, l_255, l_256, l_300, l_487, l_495, l_900, l_999, l_1000, l_1700, l_1792, l_1980, l_2048, l_2475, l_2970, l_3121, l_9999, l_10000, l_11351, l_65536, l_100000, l_1000000, ↓l_m1, l_neg, nI_add, pk_mul, pk_sub, q_leT, q_leF, q_ltT, q_ltF, q_eqT, q_eqF, q_m1e, q_m1e2, q_m1lt, q_m1le, q_m1nl, q_m1nle, q_m1s, q_ix, q_jat, q_jput, q_min1, q_min2, q_max1, q_max2, q_or0, q_0or, q_bs, if_true, if_false, true_and, and_true, false_and, and_false, not_true_eq_false, not_false_eq_true, eq_self, Bool.false_eq_true, q_z0, q_z1, q_get, q_set, q_raise, q_iHT, q_wT, c_tcT cH, cH x, pk_us]
  · have r2 : X12_happeningOf (upd (T.2.2.1 0) (83 + 4 * x + 1) (nI (C 3 x 1 + k))) (nI x) (nI 1) = some (nI (C 3 x 1 + k)) := by
      rw [m_H hM2 (by rw [setC_t C (by omega)]; exact hx) (by rw [setC_t C (by omega)]; omega) (by omega), setC_s]
    simp (disch := omega) only [l_0, l_1, l_2, l_3, l_4, l_5, l_6, l_7, l_8, l_9, l_10, l_11, l_12, l_13, l_14, l_15, l_16, l_17, l_18, l_19, l_20, l_21, l_22, l_23, l_24, l_25, l_26, l_27, l_30, l_31, l_32, l_40, l_48, l_57, l_59, l_60, l_61, l_62, l_64, l_83, l_90, l_97, l_99, l_100, l_108, l_115, l_122, l_123, l_127, l_128, l_131, l_135, l_200, l_255, l_256, l_300, l_487, l_495, l_900, l_999, l_1000, l_1700, l_1792, l_1980, l_2048, l_2475, l_2970, l_3121, l_9999, l_10000, l_11351, l_65536, l_100000, l_1000000, ↓l_m1, l_neg, nI_add, pk_mul, pk_sub, q_leT, q_leF, q_ltT, q_ltF, q_eqT, q_eqF, q_m1e, q_m1e2, q_m1lt, q_m1le, q_m1nl, q_m1nle, q_m1s, q_ix, q_jat, q_jput, q_min1, q_min2, q_max1, q_max2, q_or0, q_0or, q_bs, if_true, if_false, true_and, and_true, false_and, and_false, not_true_eq_false, not_false_eq_true, eq_self, Bool.false_eq_true, q_z0, q_z1, m_iHT hM, f, m_tcT hM, m_0 hM, m_E hM, m_Es hM, m_Er hM, m_H hM, m_W hM, m_R0 hM, m_R1 hM, m_R2 hM, k1, r2]
theorem ok_raise' {F : Nat} (hF : 2000 < F) : ok_raise F Rel := fun S T v1 v2 h => by
  obtain ⟨C, hC⟩ := Rel_city h
  have hC' := hC
  obtain ⟨ok, h8, wb, ⟨⟨c0, c1, c2, c3, c5, c6, c8, c9, c10⟩, cR, cT, cF, cX, cH, cW⟩, hM, nr, wr⟩ := hC'
  have c0 : S.1 6 = nI (C 0 0 5) := c0; have c1 : S.1 7 = nI (C 0 0 6) := c1; have c2 : S.1 8 = nI (C 0 0 7) := c2; have c3 : S.1 9 = nI (C 0 0 8) := c3; have c5 : S.1 11 = nI (C 0 0 0) := c5; have c6 : S.1 12 = nI (C 0 0 1) := c6; have c8 : S.1 14 = nI (C 0 0 2) := c8; have c9 : S.1 15 = nI (C 0 0 3) := c9; have c10 : S.1 16 = nI (C 0 0 4) := c10; have cT : CT C (S.2.2.1 1) := cT; have cF : CF C (S.2.2.1 2) := cF; have cX : CX C (S.2.2.1 5) := cX; have cH : CH C (S.2.2.1 6) := cH; have cW : CW C (S.2.2.1 7) := cW
  refine chg_lift (k := 6) h (by omega) ?_
  rw [c9]
  have o0 := ok.1
  unfold X11_raise X12_raise X11_raise_j17 X12_raise_j20 X11_refused X11_accepted X12_happeningRow
  rcases rng v1 (n := C 0 0 3) (by omega) with ⟨x, hx, rfl⟩ | hv
  case inr =>
    refine ⟨nI 0, nI 1, S.2.2.1 6, T.2.2.1 0, C, ?_, ?_, City_id hC, Fr_r _⟩
    · simp (disch := omega) only [l_0, l_1, l_2, l_3, l_4, l_5, l_6, l_7, l_8, l_9, l_10, l_11, l_12, l_13, l_14, l_15, l_16, l_17, l_18, l_19, l_20, l_21, l_22, l_23, l_24, l_25, l_26, l_27, l_30, l_31, l_32, l_40, l_48, l_57, l_59, l_60, l_61, l_62, l_64, l_83, l_90, l_97, l_99, l_100, l_108, l_115, l_122, l_123, l_127, l_128, l_131, l_135, l_200, l_255, l_256, l_300, l_487, l_495, l_900, l_999, l_1000, l_1700, l_1792, l_1980, l_2048, l_2475, l_2970, l_3121, l_9999, l_10000, l_11351, l_65536, l_100000, l_1000000, ↓l_m1, l_neg, nI_add, pk_mul, pk_sub, q_leT, q_leF, q_ltT, q_ltF, q_eqT, q_eqF, q_m1e, q_m1e2, q_m1lt, q_m1le, q_m1nl, q_m1nle, q_m1s, q_ix, q_jat, q_jput, q_min1, q_min2, q_max1, q_max2, q_or0, q_0or, q_bs, if_true, if_false, true_and, and_true, false_and, and_false, not_true_eq_false, not_false_eq_true, eq_self, Bool.false_eq_true, q_z0, q_z1, q_iHF hv]
    · simp (disch := omega) only [l_0, l_1, l_2, l_3, l_4, l_5, l_6, l_7, l_8, l_9, l_10, l_11, l_12, l_13, l_14, l_15, l_16, l_17, l_18, l_19, l_20, l_21, l_22, l_23, l_24, l_25, l_26, l_27, l_30, l_31, l_32, l_40, l_48, l_57, l_59, l_60, l_61, l_62, l_64, l_83, l_90, l_97, l_99, l_100, l_108, l_115, l_122, l_123, l_127, l_128, l_131, l_135, l_200, l_255, l_256, l_300, l_487, l_495, l_900, l_999, l_1000, l_1700, l_1792, l_1980, l_2048, l_2475, l_2970, l_3121, l_9999, l_10000, l_11351, l_65536, l_100000, l_1000000, ↓l_m1, l_neg, nI_add, pk_mul, pk_sub, q_leT, q_leF, q_ltT, q_ltF, q_eqT, q_eqF, q_m1e, q_m1e2, q_m1lt, q_m1le, q_m1nl, q_m1nle, q_m1s, q_ix, q_jat, q_jput, q_min1, q_min2, q_max1, q_max2, q_or0, q_0or, q_bs, if_true, if_false, true_and, and_true, false_and, and_false, not_true_eq_false, not_false_eq_true, eq_self, Bool.false_eq_true, q_z0, q_z1, m_iHF hM hv, q_isn]
  rcases rngw v2 (a := 1) (b := 4) (by omega) (by omega) with ⟨k, h1, h2, rfl⟩ | hv
  case inr =>
    refine ⟨nI 0, nI 1, S.2.2.1 6, T.2.2.1 0, C, ?_, ?_, City_id hC, Fr_r _⟩
    · simp (disch := omega) only [l_0, l_1, l_2, l_3, l_4, l_5, l_6, l_7, l_8, l_9, l_10, l_11, l_12, l_13, l_14, l_15, l_16, l_17, l_18, l_19, l_20, l_21, l_22, l_23, l_24, l_25, l_26, l_27, l_30, l_31, l_32, l_40, l_48, l_57, l_59, l_60, l_61, l_62, l_64, l_83, l_90, l_97, l_99, l_100, l_108, l_115, l_122, l_123, l_127, l_128, l_131, l_135, l_200, l_255, l_256, l_300, l_487, l_495, l_900, l_999, l_1000, l_1700, l_1792, l_1980, l_2048, l_2475, l_2970, l_3121, l_9999, l_10000, l_11351, l_65536, l_100000, l_1000000, ↓l_m1, l_neg, nI_add, pk_mul, pk_sub, q_leT, q_leF, q_ltT, q_ltF, q_eqT, q_eqF, q_m1e, q_m1e2, q_m1lt, q_m1le, q_m1nl, q_m1nle, q_m1s, q_ix, q_jat, q_jput, q_min1, q_min2, q_max1, q_max2, q_or0, q_0or, q_bs, if_true, if_false, true_and, and_true, false_and, and_false, not_true_eq_false, not_false_eq_true, eq_self, Bool.false_eq_true, q_z0, q_z1, q_iHT, q_wF hv]
    · have f := q_fF (show (1 : Int64) = (nI 1).toInt64 by decide) (show (4 : Int64) = (nI 4).toInt64 by decide) hv
      simp (disch := omega) only [l_0, l_1, l_2, l_3, l_4, l_5, l_6, l_7, l_8, l_9, l_10, l_11, l_12, l_13, l_14, l_15, l_16, l_17, l_18, l_19, l_20, l_21, l_22, l_23, l_24, l_25, l_26, l_27, l_30, l_31, l_32, l_40, l_48, l_57, l_59, l_60, l_61, l_62, l_64, l_83, l_90, l_97, l_99, l_100, l_108, l_115, l_122, l_123, l_127, l_128, l_131, l_135, l_200, l_255, l_256, l_300, l_487, l_495, l_900, l_999, l_1000, l_1700, l_1792, l_1980, l_2048, l_2475, l_2970, l_3121, l_9999, l_10000, l_11351, l_65536, l_100000, l_1000000, ↓l_m1, l_neg, nI_add, pk_mul, pk_sub, q_leT, q_leF, q_ltT, q_ltF, q_eqT, q_eqF, q_m1e, q_m1e2, q_m1lt, q_m1le, q_m1nl, q_m1nle, q_m1s, q_ix, q_jat, q_jput, q_min1, q_min2, q_max1, q_max2, q_or0, q_0or, q_bs, if_true, if_false, true_and, and_true, false_and, and_false, not_true_eq_false, not_false_eq_true, eq_self, Bool.false_eq_true, q_z0, q_z1, m_iHT hM, f, q_isn]
  have f := q_fT (k := k) (show (1 : Int64) = (nI 1).toInt64 by decide) (show (4 : Int64) = (nI 4).toInt64 by decide) h1 h2 (by omega)
  have e1 := ok.2.2.2.1 x hx
  by_cases q1 : C 3 x 3 = 0
  case neg =>
    refine ⟨nI 0, nI 7, S.2.2.1 6, T.2.2.1 0, C, ?_, ?_, City_id hC, Fr_r _⟩
    · simp (disch := omega) only [l_0, l_1, l_2, l_3, l_4, l_5, l_6, l_7, l_8, l_9, l_10, l_11, l_12, l_13, l_14, l_15, l_16, l_17, l_18, l_19, l_20, l_21, l_22, l_23, l_24, l_25, l_26, l_27, l_30, l_31, l_32, l_40, l_48, l_57, l_59, l_60, l_61, l_62, l_64, l_83, l_90, l_97, l_99, l_100, l_108, l_115, l_122, l_123, l_127, l_128, l_131, l_135, l_200, l_255, l_256, l_300, l_487, l_495, l_900, l_999, l_1000, l_1700, l_1792, l_1980, l_2048, l_2475, l_2970, l_3121, l_9999, l_10000, l_11351, l_65536, l_100000, l_1000000, ↓l_m1, l_neg, nI_add, pk_mul, pk_sub, q_leT, q_leF, q_ltT, q_ltF, q_eqT, q_eqF, q_m1e, q_m1e2, q_m1lt, q_m1le, q_m1nl, q_m1nle, q_m1s, q_ix, q_jat, q_jput, q_min1, q_min2, q_max1, q_max2, q_or0, q_0or, q_bs, if_true, if_false, true_and, and_true, false_and, and_false, not_true_eq_false, not_false_eq_true, eq_self, Bool.false_eq_true, q_z0, q_z1, q_iHT, q_wT, c_tcF cH]
    · simp (disch := omega) only [l_0, l_1, l_2, l_3, l_4, l_5, l_6, l_7, l_8, l_9, l_10, l_11, l_12, l_13, l_14, l_15, l_16, l_17, l_18, l_19, l_20, l_21, l_22, l_23, l_24, l_25, l_26, l_27, l_30, l_31, l_32, l_40, l_48, l_57, l_59, l_60, l_61, l_62, l_64, l_83, l_90, l_97, l_99, l_100, l_108, l_115, l_122, l_123, l_127, l_128, l_131, l_135, l_200, l_255, l_256, l_300, l_487, l_495, l_900, l_999, l_1000, l_1700, l_1792, l_1980, l_2048, l_2475, l_2970, l_3121, l_9999, l_10000, l_11351, l_65536, l_100000, l_1000000, ↓l_m1, l_neg, nI_add, pk_mul, pk_sub, q_leT, q_leF, q_ltT, q_ltF, q_eqT, q_eqF, q_m1e, q_m1e2, q_m1lt, q_m1le, q_m1nl, q_m1nle, q_m1s, q_ix, q_jat, q_jput, q_min1, q_min2, q_max1, q_max2, q_or0, q_0or, q_bs, if_true, if_false, true_and, and_true, false_and, and_false, not_true_eq_false, not_false_eq_true, eq_self, Bool.false_eq_true, q_z0, q_z1, m_iHT hM, f, m_tcF hM, q_isn]
  refine ⟨nI 1, nI 0, upd (S.2.2.1 6) (x * 5 + 2) (nI k), upd (T.2.2.1 0) (83 + 4 * x + 2) (nI k), setC C 3 x 2 k, ?_, ?_, City_H hC (Chg_set (Ok_H ok (by omega)) wb (by omega)) (fun k => setC_t C (by omega)) (CX_o cX (by omega) (by omega)) (CH_upd cH (by omega)) (CW_o cW (by omega) (by omega)) (MS_H ok hM hx (by omega)) (Fr_upd (by omega) (by omega)), Fr_upd (by omega) (by omega)⟩
  · simp (disch := omega) only [l_0, l_1, l_2, l_3, l_4, l_5, l_6, l_7, l_8, l_9, l_10, l_11, l_12, l_13, l_14, l_15, l_16, l_17, l_18, l_19, l_20, l_21, l_22, l_23, l_24, l_25, l_26, l_27, l_30, l_31, l_32, l_40, l_48, l_57, l_59, l_60, l_61, l_62, l_64, l_83, l_90, l_97, l_99, l_100, l_108, l_115, l_122, l_123, l_127, l_128, l_131, l_135, l_200, l_255, l_256, l_300, l_487, l_495, l_900, l_999, l_1000, l_1700, l_1792, l_1980, l_2048, l_2475, l_2970, l_3121, l_9999, l_10000, l_11351, l_65536, l_100000, l_1000000, ↓l_m1, l_neg, nI_add, pk_mul, pk_sub, q_leT, q_leF, q_ltT, q_ltF, q_eqT, q_eqF, q_m1e, q_m1e2, q_m1lt, q_m1le, q_m1nl, q_m1nle, q_m1s, q_ix, q_jat, q_jput, q_min1, q_min2, q_max1, q_max2, q_or0, q_0or, q_bs, if_true, if_false, true_and, and_true, false_and, and_false, not_true_eq_false, not_false_eq_true, eq_self, Bool.false_eq_true, q_z0, q_z1, q_get, q_set, q_raise, q_iHT, q_wT, c_tcT cH]
  · simp (disch := omega) only [l_0, l_1, l_2, l_3, l_4, l_5, l_6, l_7, l_8, l_9, l_10, l_11, l_12, l_13, l_14, l_15, l_16, l_17, l_18, l_19, l_20, l_21, l_22, l_23, l_24, l_25, l_26, l_27, l_30, l_31, l_32, l_40, l_48, l_57, l_59, l_60, l_61, l_62, l_64, l_83, l_90, l_97, l_99, l_100, l_108, l_115, l_122, l_123, l_127, l_128, l_131, l_135, l_200, l_255, l_256, l_300, l_487, l_495, l_900, l_999, l_1000, l_1700, l_1792, l_1980, l_2048, l_2475, l_2970, l_3121, l_9999, l_10000, l_11351, l_65536, l_100000, l_1000000, ↓l_m1, l_neg, nI_add, pk_mul, pk_sub, q_leT, q_leF, q_ltT, q_ltF, q_eqT, q_eqF, q_m1e, q_m1e2, q_m1lt, q_m1le, q_m1nl, q_m1nle, q_m1s, q_ix, q_jat, q_jput, q_min1, q_min2, q_max1, q_max2, q_or0, q_0or, q_bs, if_true, if_false, true_and, and_true, false_and, and_false, not_true_eq_false, not_false_eq_true, eq_self, Bool.false_eq_true, q_z0, q_z1, m_iHT hM, f, m_tcT hM, q_is0]
theorem ok_post' {F : Nat} (hF : 2000 < F) : ok_post F Rel := fun S T v1 v2 h => by
  obtain ⟨C, hC⟩ := Rel_city h
  have hC' := hC
  obtain ⟨ok, h8, wb, ⟨⟨c0, c1, c2, c3, c5, c6, c8, c9, c10⟩, cR, cT, cF, cX, cH, cW⟩, hM, nr, wr⟩ := hC'
  have c0 : S.1 6 = nI (C 0 0 5) := c0; have c1 : S.1 7 = nI (C 0 0 6) := c1; have c2 : S.1 8 = nI (C 0 0 7) := c2; have c3 : S.1 9 = nI (C 0 0 8) := c3; have c5 : S.1 11 = nI (C 0 0 0) := c5; have c6 : S.1 12 = nI (C 0 0 1) := c6; have c8 : S.1 14 = nI (C 0 0 2) := c8; have c9 : S.1 15 = nI (C 0 0 3) := c9; have c10 : S.1 16 = nI (C 0 0 4) := c10; have cT : CT C (S.2.2.1 1) := cT; have cF : CF C (S.2.2.1 2) := cF; have cX : CX C (S.2.2.1 5) := cX; have cH : CH C (S.2.2.1 6) := cH; have cW : CW C (S.2.2.1 7) := cW
  refine chg_lift (k := 7) h (by omega) ?_
  rw [c5, c10]
  have o0 := ok.1
  unfold X11_post X12_post X11_post_j16 X12_post_j16 X11_refused X11_accepted X12_watcherRow
  rcases rng v1 (n := C 0 0 4) (by omega) with ⟨x, hx, rfl⟩ | hv
  case inr =>
    refine ⟨nI 0, nI 1, S.2.2.1 7, T.2.2.1 0, C, ?_, ?_, City_id hC, Fr_r _⟩
    · simp (disch := omega) only [l_0, l_1, l_2, l_3, l_4, l_5, l_6, l_7, l_8, l_9, l_10, l_11, l_12, l_13, l_14, l_15, l_16, l_17, l_18, l_19, l_20, l_21, l_22, l_23, l_24, l_25, l_26, l_27, l_30, l_31, l_32, l_40, l_48, l_57, l_59, l_60, l_61, l_62, l_64, l_83, l_90, l_97, l_99, l_100, l_108, l_115, l_122, l_123, l_127, l_128, l_131, l_135, l_200, l_255, l_256, l_300, l_487, l_495, l_900, l_999, l_1000, l_1700, l_1792, l_1980, l_2048, l_2475, l_2970, l_3121, l_9999, l_10000, l_11351, l_65536, l_100000, l_1000000, ↓l_m1, l_neg, nI_add, pk_mul, pk_sub, q_leT, q_leF, q_ltT, q_ltF, q_eqT, q_eqF, q_m1e, q_m1e2, q_m1lt, q_m1le, q_m1nl, q_m1nle, q_m1s, q_ix, q_jat, q_jput, q_min1, q_min2, q_max1, q_max2, q_or0, q_0or, q_bs, if_true, if_false, true_and, and_true, false_and, and_false, not_true_eq_false, not_false_eq_true, eq_self, Bool.false_eq_true, q_z0, q_z1, q_iWF hv]
    · simp (disch := omega) only [l_0, l_1, l_2, l_3, l_4, l_5, l_6, l_7, l_8, l_9, l_10, l_11, l_12, l_13, l_14, l_15, l_16, l_17, l_18, l_19, l_20, l_21, l_22, l_23, l_24, l_25, l_26, l_27, l_30, l_31, l_32, l_40, l_48, l_57, l_59, l_60, l_61, l_62, l_64, l_83, l_90, l_97, l_99, l_100, l_108, l_115, l_122, l_123, l_127, l_128, l_131, l_135, l_200, l_255, l_256, l_300, l_487, l_495, l_900, l_999, l_1000, l_1700, l_1792, l_1980, l_2048, l_2475, l_2970, l_3121, l_9999, l_10000, l_11351, l_65536, l_100000, l_1000000, ↓l_m1, l_neg, nI_add, pk_mul, pk_sub, q_leT, q_leF, q_ltT, q_ltF, q_eqT, q_eqF, q_m1e, q_m1e2, q_m1lt, q_m1le, q_m1nl, q_m1nle, q_m1s, q_ix, q_jat, q_jput, q_min1, q_min2, q_max1, q_max2, q_or0, q_0or, q_bs, if_true, if_false, true_and, and_true, false_and, and_false, not_true_eq_false, not_false_eq_true, eq_self, Bool.false_eq_true, q_z0, q_z1, m_iWF hM hv, q_isn]
  rcases rng v2 (n := C 0 0 0) (by omega) with ⟨y, hy, rfl⟩ | hv
  case inr =>
    refine ⟨nI 0, nI 1, S.2.2.1 7, T.2.2.1 0, C, ?_, ?_, City_id hC, Fr_r _⟩
    · simp (disch := omega) only [l_0, l_1, l_2, l_3, l_4, l_5, l_6, l_7, l_8, l_9, l_10, l_11, l_12, l_13, l_14, l_15, l_16, l_17, l_18, l_19, l_20, l_21, l_22, l_23, l_24, l_25, l_26, l_27, l_30, l_31, l_32, l_40, l_48, l_57, l_59, l_60, l_61, l_62, l_64, l_83, l_90, l_97, l_99, l_100, l_108, l_115, l_122, l_123, l_127, l_128, l_131, l_135, l_200, l_255, l_256, l_300, l_487, l_495, l_900, l_999, l_1000, l_1700, l_1792, l_1980, l_2048, l_2475, l_2970, l_3121, l_9999, l_10000, l_11351, l_65536, l_100000, l_1000000, ↓l_m1, l_neg, nI_add, pk_mul, pk_sub, q_leT, q_leF, q_ltT, q_ltF, q_eqT, q_eqF, q_m1e, q_m1e2, q_m1lt, q_m1le, q_m1nl, q_m1nle, q_m1s, q_ix, q_jat, q_jput, q_min1, q_min2, q_max1, q_max2, q_or0, q_0or, q_bs, if_true, if_false, true_and, and_true, false_and, and_false, not_true_eq_false, not_false_eq_true, eq_self, Bool.false_eq_true, q_z0, q_z1, q_iWT, q_iCF hv]
    · simp (disch := omega) only [l_0, l_1, l_2, l_3, l_4, l_5, l_6, l_7, l_8, l_9, l_10, l_11, l_12, l_13, l_14, l_15, l_16, l_17, l_18, l_19, l_20, l_21, l_22, l_23, l_24, l_25, l_26, l_27, l_30, l_31, l_32, l_40, l_48, l_57, l_59, l_60, l_61, l_62, l_64, l_83, l_90, l_97, l_99, l_100, l_108, l_115, l_122, l_123, l_127, l_128, l_131, l_135, l_200, l_255, l_256, l_300, l_487, l_495, l_900, l_999, l_1000, l_1700, l_1792, l_1980, l_2048, l_2475, l_2970, l_3121, l_9999, l_10000, l_11351, l_65536, l_100000, l_1000000, ↓l_m1, l_neg, nI_add, pk_mul, pk_sub, q_leT, q_leF, q_ltT, q_ltF, q_eqT, q_eqF, q_m1e, q_m1e2, q_m1lt, q_m1le, q_m1nl, q_m1nle, q_m1s, q_ix, q_jat, q_jput, q_min1, q_min2, q_max1, q_max2, q_or0, q_0or, q_bs, if_true, if_false, true_and, and_true, false_and, and_false, not_true_eq_false, not_false_eq_true, eq_self, Bool.false_eq_true, q_z0, q_z1, m_iWT hM, m_iCF hM hv, q_isn]
  have e1 := ok.2.2.2.2 x hx
  by_cases q1 : C 4 x 0 = y
  · refine ⟨nI 0, nI 7, S.2.2.1 7, T.2.2.1 0, C, ?_, ?_, City_id hC, Fr_r _⟩
    · simp (disch := omega) only [l_0, l_1, l_2, l_3, l_4, l_5, l_6, l_7, l_8, l_9, l_10, l_11, l_12, l_13, l_14, l_15, l_16, l_17, l_18, l_19, l_20, l_21, l_22, l_23, l_24, l_25, l_26, l_27, l_30, l_31, l_32, l_40, l_48, l_57, l_59, l_60, l_61, l_62, l_64, l_83, l_90, l_97, l_99, l_100, l_108, l_115, l_122, l_123, l_127, l_128, l_131, l_135, l_200, l_255, l_256, l_300, l_487, l_495, l_900, l_999, l_1000, l_1700, l_1792, l_1980, l_2048, l_2475, l_2970, l_3121, l_9999, l_10000, l_11351, l_65536, l_100000, l_1000000, ↓l_m1, l_neg, nI_add, pk_mul, pk_sub, q_leT, q_leF, q_ltT, q_ltF, q_eqT, q_eqF, q_m1e, q_m1e2, q_m1lt, q_m1le, q_m1nl, q_m1nle, q_m1s, q_ix, q_jat, q_jput, q_min1, q_min2, q_max1, q_max2, q_or0, q_0or, q_bs, if_true, if_false, true_and, and_true, false_and, and_false, not_true_eq_false, not_false_eq_true, eq_self, Bool.false_eq_true, q_z0, q_z1, q_get, q_set, q_raise, q_iWT, q_iCT, cW x]
    · simp (disch := omega) only [l_0, l_1, l_2, l_3, l_4, l_5, l_6, l_7, l_8, l_9, l_10, l_11, l_12, l_13, l_14, l_15, l_16, l_17, l_18, l_19, l_20, l_21, l_22, l_23, l_24, l_25, l_26, l_27, l_30, l_31, l_32, l_40, l_48, l_57, l_59, l_60, l_61, l_62, l_64, l_83, l_90, l_97, l_99, l_100, l_108, l_115, l_122, l_123, l_127, l_128, l_131, l_135, l_200, l_255, l_256, l_300, l_487, l_495, l_900, l_999, l_1000, l_1700, l_1792, l_1980, l_2048, l_2475, l_2970, l_3121, l_9999, l_10000, l_11351, l_65536, l_100000, l_1000000, ↓l_m1, l_neg, nI_add, pk_mul, pk_sub, q_leT, q_leF, q_ltT, q_ltF, q_eqT, q_eqF, q_m1e, q_m1e2, q_m1lt, q_m1le, q_m1nl, q_m1nle, q_m1s, q_ix, q_jat, q_jput, q_min1, q_min2, q_max1, q_max2, q_or0, q_0or, q_bs, if_true, if_false, true_and, and_true, false_and, and_false, not_true_eq_false, not_false_eq_true, eq_self, Bool.false_eq_true, q_z0, q_z1, m_iWT hM, m_iCT hM, m_0 hM, m_E hM, m_Es hM, m_Er hM, m_H hM, m_W hM, m_R0 hM, m_R1 hM, m_R2 hM, q_isn]
  refine ⟨nI 1, nI 0, upd (S.2.2.1 7) (x * 3 + 0) (nI y), upd (T.2.2.1 0) (115 + 3 * x + 0) (nI y), setC C 4 x 0 y, ?_, ?_, City_W hC (Chg_set (Ok_W ok (by omega)) wb (by omega)) (fun k => setC_t C (by omega)) (CX_o cX (by omega) (by omega)) (CH_o cH (by omega) (by omega)) (CW_upd cW (by omega)) (MS_W ok hM hx (by omega)) (Fr_upd (by omega) (by omega)), Fr_upd (by omega) (by omega)⟩
  · simp (disch := omega) only [l_0, l_1, l_2, l_3, l_4, l_5, l_6, l_7, l_8, l_9, l_10, l_11, l_12, l_13, l_14, l_15, l_16, l_17, l_18, l_19, l_20, l_21, l_22, l_23, l_24, l_25, l_26, l_27, l_30, l_31, l_32, l_40, l_48, l_57, l_59, l_60, l_61, l_62, l_64, l_83, l_90, l_97, l_99, l_100, l_108, l_115, l_122, l_123, l_127, l_128, l_131, l_135, l_200, l_255, l_256, l_300, l_487, l_495, l_900, l_999, l_1000, l_1700, l_1792, l_1980, l_2048, l_2475, l_2970, l_3121, l_9999, l_10000, l_11351, l_65536, l_100000, l_1000000, ↓l_m1, l_neg, nI_add, pk_mul, pk_sub, q_leT, q_leF, q_ltT, q_ltF, q_eqT, q_eqF, q_m1e, q_m1e2, q_m1lt, q_m1le, q_m1nl, q_m1nle, q_m1s, q_ix, q_jat, q_jput, q_min1, q_min2, q_max1, q_max2, q_or0, q_0or, q_bs, if_true, if_false, true_and, and_true, false_and, and_false, not_true_eq_false, not_false_eq_true, eq_self, Bool.false_eq_true, q_z0, q_z1, q_get, q_set, q_raise, q_iWT, q_iCT, cW x]
  · simp (disch := omega) only [l_0, l_1, l_2, l_3, l_4, l_5, l_6, l_7, l_8, l_9, l_10, l_11, l_12, l_13, l_14, l_15, l_16, l_17, l_18, l_19, l_20, l_21, l_22, l_23, l_24, l_25, l_26, l_27, l_30, l_31, l_32, l_40, l_48, l_57, l_59, l_60, l_61, l_62, l_64, l_83, l_90, l_97, l_99, l_100, l_108, l_115, l_122, l_123, l_127, l_128, l_131, l_135, l_200, l_255, l_256, l_300, l_487, l_495, l_900, l_999, l_1000, l_1700, l_1792, l_1980, l_2048, l_2475, l_2970, l_3121, l_9999, l_10000, l_11351, l_65536, l_100000, l_1000000, ↓l_m1, l_neg, nI_add, pk_mul, pk_sub, q_leT, q_leF, q_ltT, q_ltF, q_eqT, q_eqF, q_m1e, q_m1e2, q_m1lt, q_m1le, q_m1nl, q_m1nle, q_m1s, q_ix, q_jat, q_jput, q_min1, q_min2, q_max1, q_max2, q_or0, q_0or, q_bs, if_true, if_false, true_and, and_true, false_and, and_false, not_true_eq_false, not_false_eq_true, eq_self, Bool.false_eq_true, q_z0, q_z1, m_iWT hM, m_iCT hM, m_0 hM, m_E hM, m_Es hM, m_Er hM, m_H hM, m_W hM, m_R0 hM, m_R1 hM, m_R2 hM, q_is0, Nat.add_zero]
theorem ok_scare' {F : Nat} (hF : 2000 < F) : ok_scare F Rel := fun S T v1 v2 h => by
  obtain ⟨C, hC⟩ := Rel_city h
  have hC' := hC
  obtain ⟨ok, h8, wb, ⟨⟨c0, c1, c2, c3, c5, c6, c8, c9, c10⟩, cR, cT, cF, cX, cH, cW⟩, hM, nr, wr⟩ := hC'
  have c0 : S.1 6 = nI (C 0 0 5) := c0; have c1 : S.1 7 = nI (C 0 0 6) := c1; have c2 : S.1 8 = nI (C 0 0 7) := c2; have c3 : S.1 9 = nI (C 0 0 8) := c3; have c5 : S.1 11 = nI (C 0 0 0) := c5; have c6 : S.1 12 = nI (C 0 0 1) := c6; have c8 : S.1 14 = nI (C 0 0 2) := c8; have c9 : S.1 15 = nI (C 0 0 3) := c9; have c10 : S.1 16 = nI (C 0 0 4) := c10; have cT : CT C (S.2.2.1 1) := cT; have cF : CF C (S.2.2.1 2) := cF; have cX : CX C (S.2.2.1 5) := cX; have cH : CH C (S.2.2.1 6) := cH; have cW : CW C (S.2.2.1 7) := cW
  refine chg_lift (k := 7) h (by omega) ?_
  rw [c10]
  have o0 := ok.1
  unfold X11_scare X12_scare X11_scare_j18 X12_scare_j20 X11_refused X11_accepted X12_watcherRow
  rcases rng v1 (n := C 0 0 4) (by omega) with ⟨x, hx, rfl⟩ | hv
  case inr =>
    refine ⟨nI 0, nI 1, S.2.2.1 7, T.2.2.1 0, C, ?_, ?_, City_id hC, Fr_r _⟩
    · simp (disch := omega) only [l_0, l_1, l_2, l_3, l_4, l_5, l_6, l_7, l_8, l_9, l_10, l_11, l_12, l_13, l_14, l_15, l_16, l_17, l_18, l_19, l_20, l_21, l_22, l_23, l_24, l_25, l_26, l_27, l_30, l_31, l_32, l_40, l_48, l_57, l_59, l_60, l_61, l_62, l_64, l_83, l_90, l_97, l_99, l_100, l_108, l_115, l_122, l_123, l_127, l_128, l_131, l_135, l_200, l_255, l_256, l_300, l_487, l_495, l_900, l_999, l_1000, l_1700, l_1792, l_1980, l_2048, l_2475, l_2970, l_3121, l_9999, l_10000, l_11351, l_65536, l_100000, l_1000000, ↓l_m1, l_neg, nI_add, pk_mul, pk_sub, q_leT, q_leF, q_ltT, q_ltF, q_eqT, q_eqF, q_m1e, q_m1e2, q_m1lt, q_m1le, q_m1nl, q_m1nle, q_m1s, q_ix, q_jat, q_jput, q_min1, q_min2, q_max1, q_max2, q_or0, q_0or, q_bs, if_true, if_false, true_and, and_true, false_and, and_false, not_true_eq_false, not_false_eq_true, eq_self, Bool.false_eq_true, q_z0, q_z1, q_iWF hv]
    · simp (disch := omega) only [l_0, l_1, l_2, l_3, l_4, l_5, l_6, l_7, l_8, l_9, l_10, l_11, l_12, l_13, l_14, l_15, l_16, l_17, l_18, l_19, l_20, l_21, l_22, l_23, l_24, l_25, l_26, l_27, l_30, l_31, l_32, l_40, l_48, l_57, l_59, l_60, l_61, l_62, l_64, l_83, l_90, l_97, l_99, l_100, l_108, l_115, l_122, l_123, l_127, l_128, l_131, l_135, l_200, l_255, l_256, l_300, l_487, l_495, l_900, l_999, l_1000, l_1700, l_1792, l_1980, l_2048, l_2475, l_2970, l_3121, l_9999, l_10000, l_11351, l_65536, l_100000, l_1000000, ↓l_m1, l_neg, nI_add, pk_mul, pk_sub, q_leT, q_leF, q_ltT, q_ltF, q_eqT, q_eqF, q_m1e, q_m1e2, q_m1lt, q_m1le, q_m1nl, q_m1nle, q_m1s, q_ix, q_jat, q_jput, q_min1, q_min2, q_max1, q_max2, q_or0, q_0or, q_bs, if_true, if_false, true_and, and_true, false_and, and_false, not_true_eq_false, not_false_eq_true, eq_self, Bool.false_eq_true, q_z0, q_z1, m_iWF hM hv, q_isn]
  rcases rngw v2 (a := 1) (b := 7) (by omega) (by omega) with ⟨k, h1, h2, rfl⟩ | hv
  case inr =>
    refine ⟨nI 0, nI 1, S.2.2.1 7, T.2.2.1 0, C, ?_, ?_, City_id hC, Fr_r _⟩
    · simp (disch := omega) only [l_0, l_1, l_2, l_3, l_4, l_5, l_6, l_7, l_8, l_9, l_10, l_11, l_12, l_13, l_14, l_15, l_16, l_17, l_18, l_19, l_20, l_21, l_22, l_23, l_24, l_25, l_26, l_27, l_30, l_31, l_32, l_40, l_48, l_57, l_59, l_60, l_61, l_62, l_64, l_83, l_90, l_97, l_99, l_100, l_108, l_115, l_122, l_123, l_127, l_128, l_131, l_135, l_200, l_255, l_256, l_300, l_487, l_495, l_900, l_999, l_1000, l_1700, l_1792, l_1980, l_2048, l_2475, l_2970, l_3121, l_9999, l_10000, l_11351, l_65536, l_100000, l_1000000, ↓l_m1, l_neg, nI_add, pk_mul, pk_sub, q_leT, q_leF, q_ltT, q_ltF, q_eqT, q_eqF, q_m1e, q_m1e2, q_m1lt, q_m1le, q_m1nl, q_m1nle, q_m1s, q_ix, q_jat, q_jput, q_min1, q_min2, q_max1, q_max2, q_or0, q_0or, q_bs, if_true, if_false, true_and, and_true, false_and, and_false, not_true_eq_false, not_false_eq_true, eq_self, Bool.false_eq_true, q_z0, q_z1, q_iWT, q_wF hv]
    · have f := q_fF (show (1 : Int64) = (nI 1).toInt64 by decide) (show (7 : Int64) = (nI 7).toInt64 by decide) hv
      simp (disch := omega) only [l_0, l_1, l_2, l_3, l_4, l_5, l_6, l_7, l_8, l_9, l_10, l_11, l_12, l_13, l_14, l_15, l_16, l_17, l_18, l_19, l_20, l_21, l_22, l_23, l_24, l_25, l_26, l_27, l_30, l_31, l_32, l_40, l_48, l_57, l_59, l_60, l_61, l_62, l_64, l_83, l_90, l_97, l_99, l_100, l_108, l_115, l_122, l_123, l_127, l_128, l_131, l_135, l_200, l_255, l_256, l_300, l_487, l_495, l_900, l_999, l_1000, l_1700, l_1792, l_1980, l_2048, l_2475, l_2970, l_3121, l_9999, l_10000, l_11351, l_65536, l_100000, l_1000000, ↓l_m1, l_neg, nI_add, pk_mul, pk_sub, q_leT, q_leF, q_ltT, q_ltF, q_eqT, q_eqF, q_m1e, q_m1e2, q_m1lt, q_m1le, q_m1nl, q_m1nle, q_m1s, q_ix, q_jat, q_jput, q_min1, q_min2, q_max1, q_max2, q_or0, q_0or, q_bs, if_true, if_false, true_and, and_true, false_and, and_false, not_true_eq_false, not_false_eq_true, eq_self, Bool.false_eq_true, q_z0, q_z1, m_iWT hM, f, q_isn]
  have f := q_fT (k := k) (show (1 : Int64) = (nI 1).toInt64 by decide) (show (7 : Int64) = (nI 7).toInt64 by decide) h1 h2 (by omega)
  refine ⟨nI 1, nI 0, upd (S.2.2.1 7) (x * 3 + 1) (nI k), upd (T.2.2.1 0) (115 + 3 * x + 1) (nI k), setC C 4 x 1 k, ?_, ?_, City_W hC (Chg_set (Ok_W ok (by omega)) wb (by omega)) (fun k => setC_t C (by omega)) (CX_o cX (by omega) (by omega)) (CH_o cH (by omega) (by omega)) (CW_upd cW (by omega)) (MS_W ok hM hx (by omega)) (Fr_upd (by omega) (by omega)), Fr_upd (by omega) (by omega)⟩
  · simp (disch := omega) only [l_0, l_1, l_2, l_3, l_4, l_5, l_6, l_7, l_8, l_9, l_10, l_11, l_12, l_13, l_14, l_15, l_16, l_17, l_18, l_19, l_20, l_21, l_22, l_23, l_24, l_25, l_26, l_27, l_30, l_31, l_32, l_40, l_48, l_57, l_59, l_60, l_61, l_62, l_64, l_83, l_90, l_97, l_99, l_100, l_108, l_115, l_122, l_123, l_127, l_128, l_131, l_135, l_200, l_255, l_256, l_300, l_487, l_495, l_900, l_999, l_1000, l_1700, l_1792, l_1980, l_2048, l_2475, l_2970, l_3121, l_9999, l_10000, l_11351, l_65536, l_100000, l_1000000, ↓l_m1, l_neg, nI_add, pk_mul, pk_sub, q_leT, q_leF, q_ltT, q_ltF, q_eqT, q_eqF, q_m1e, q_m1e2, q_m1lt, q_m1le, q_m1nl, q_m1nle, q_m1s, q_ix, q_jat, q_jput, q_min1, q_min2, q_max1, q_max2, q_or0, q_0or, q_bs, if_true, if_false, true_and, and_true, false_and, and_false, not_true_eq_false, not_false_eq_true, eq_self, Bool.false_eq_true, q_z0, q_z1, q_get, q_set, q_raise, q_iWT, q_wT]
  · simp (disch := omega) only [l_0, l_1, l_2, l_3, l_4, l_5, l_6, l_7, l_8, l_9, l_10, l_11, l_12, l_13, l_14, l_15, l_16, l_17, l_18, l_19, l_20, l_21, l_22, l_23, l_24, l_25, l_26, l_27, l_30, l_31, l_32, l_40, l_48, l_57, l_59, l_60, l_61, l_62, l_64, l_83, l_90, l_97, l_99, l_100, l_108, l_115, l_122, l_123, l_127, l_128, l_131, l_135, l_200, l_255, l_256, l_300, l_487, l_495, l_900, l_999, l_1000, l_1700, l_1792, l_1980, l_2048, l_2475, l_2970, l_3121, l_9999, l_10000, l_11351, l_65536, l_100000, l_1000000, ↓l_m1, l_neg, nI_add, pk_mul, pk_sub, q_leT, q_leF, q_ltT, q_ltF, q_eqT, q_eqF, q_m1e, q_m1e2, q_m1lt, q_m1le, q_m1nl, q_m1nle, q_m1s, q_ix, q_jat, q_jput, q_min1, q_min2, q_max1, q_max2, q_or0, q_0or, q_bs, if_true, if_false, true_and, and_true, false_and, and_false, not_true_eq_false, not_false_eq_true, eq_self, Bool.false_eq_true, q_z0, q_z1, m_iWT hM, f, q_is0]
