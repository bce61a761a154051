/-! ===== PURE 20.g: the draft's names, roads, hours ===== -/
def ms (s : Nat) : Nat := if s = 1 then 0 else s
theorem nb_ne {C : Cy} {s s0 k : Nat} (ok : Ok C) (h1 : 1 ≤ s) (h4 : s ≤ 4) (g1 : 1 ≤ s0) (g4 : s0 ≤ 4) (h0 : cnt C s0 < mt (ms s0)) (hk : k < cnt C s) : nb s + k ≠ nb s0 + cnt C s0 := by
  obtain ⟨o0, oR, oE, oH, oW⟩ := ok
  have A : ∀ s, 1 ≤ s → s ≤ 4 → (s = 1 ∧ nb s = 0 ∧ cnt C s = C 0 0 0 ∧ mt (ms s) = 8) ∨ (s = 2 ∧ nb s = 8 ∧ cnt C s = C 0 0 2 ∧ mt (ms s) = 7) ∨ (s = 3 ∧ nb s = 15 ∧ cnt C s = C 0 0 3 ∧ mt (ms s) = 8) ∨ (s = 4 ∧ nb s = 23 ∧ cnt C s = C 0 0 4 ∧ mt (ms s) = 4) := by
    intro s h1 h4
    rcases (show s = 1 ∨ s = 2 ∨ s = 3 ∨ s = 4 by omega) with rfl | rfl | rfl | rfl
    · exact Or.inl ⟨rfl, rfl, rfl, rfl⟩
    · exact Or.inr (Or.inl ⟨rfl, rfl, rfl, rfl⟩)
    · exact Or.inr (Or.inr (Or.inl ⟨rfl, rfl, rfl, rfl⟩))
    · exact Or.inr (Or.inr (Or.inr ⟨rfl, rfl, rfl, rfl⟩))
  have a := A s h1 h4
  have b := A s0 g1 g4
  by_cases e : s = s0
  · subst e; omega
  · rcases a with a | a | a | a <;> rcases b with b | b | b | b <;> omega
theorem NM_keep {C : Cy} {N s0 : Nat} {nm : Nat → Nat → Nat} {co : Nat → Int64} {so nu : Nat → Int32} {mn mn' : Nat → Int64} (h : NM C N nm co so nu mn) (ok : Ok C) (g1 : 1 ≤ s0) (g4 : s0 ≤ 4) (h0 : cnt C s0 < mt (ms s0)) (hm : ∀ k, k < 27 → k ≠ nb s0 + cnt C s0 → mn' k = mn k) : NM C N nm co so nu mn' := by
  obtain ⟨a2, a3, a4, a5, a6⟩ := h
  refine ⟨a2, a3, a4, fun s k h1 h4 hk => ?_, a6⟩
  have c := cnt_le ok h1 h4
  rw [hm _ (by omega) (nb_ne ok h1 h4 g1 g4 h0 hk)]
  exact a5 s k h1 h4 hk
theorem NM_new {C D : Cy} {N s0 w : Nat} {nm : Nat → Nat → Nat} {co : Nat → Int64} {so nu : Nat → Int32} {mn mn' : Nat → Int64} (h : NM C N nm co so nu mn) (ok : Ok C) (g1 : 1 ≤ s0) (g4 : s0 ≤ 4) (hl : cnt C s0 < mt (ms s0)) (N27 : N < 27) (hn : cnt D s0 = cnt C s0 + 1) (ho : ∀ s, 1 ≤ s → s ≤ 4 → s ≠ s0 → cnt D s = cnt C s) (w0 : w ≠ 0) (w8' : w8 8 w) (fr : ∀ s k, 1 ≤ s → s ≤ 4 → k < cnt C s → nm s k ≠ w) (h0 : mn' (nb s0 + cnt C s0) = lN (c8 8 w)) (hm : ∀ k, k < 27 → k ≠ nb s0 + cnt C s0 → mn' k = mn k) :
    NM D (N + 1) (fun s k => if s = s0 ∧ k = cnt C s0 then w else nm s k) (vp_updL co N (lN w)) (upd so N (nI s0)) (upd nu N (nI (cnt C s0))) mn' := by
  obtain ⟨a2, a3, a4, a5, a6⟩ := h
  have le : ∀ s, 1 ≤ s → s ≤ 4 → cnt C s ≤ cnt D s := by
    intro s h1 h4
    by_cases e : s = s0
    · rw [e, hn]; omega
    · rw [ho s h1 h4 e]; exact Nat.le_refl _
  have old : ∀ s k, 1 ≤ s → s ≤ 4 → k < cnt D s → ¬ (s = s0 ∧ k = cnt C s0) → k < cnt C s := by
    intro s k h1 h4 hk q
    by_cases e : s = s0
    · subst e; rw [hn] at hk; omega
    · rw [ho s h1 h4 e] at hk; exact hk
  refine ⟨by omega, fun i hi => ?_, fun s k h1 h4 hk hz => ?_, fun s k h1 h4 hk => ?_, fun s k s' k' h1 h2 hk h3 h4 hk' hz he => ?_⟩
  · by_cases e : i = N
    · subst e
      exact ⟨s0, cnt C s0, g1, g4, by rw [hn]; omega, by dsimp only; rw [if_pos ⟨rfl, rfl⟩]; exact pk_uLs, pk_us, pk_us, by dsimp only; rw [if_pos ⟨rfl, rfl⟩]; exact w0⟩
    · obtain ⟨s, k, b1, b2, b3, b4, b5, b6, b7⟩ := a3 i (by omega)
      have q : ¬ (s = s0 ∧ k = cnt C s0) := by rintro ⟨rfl, rfl⟩; omega
      exact ⟨s, k, b1, b2, Nat.lt_of_lt_of_le b3 (le s b1 b2), by dsimp only; rw [if_neg q, pk_uLn e]; exact b4, by rw [pk_un e]; exact b5, by rw [pk_un e]; exact b6, by dsimp only; rw [if_neg q]; exact b7⟩
  · dsimp only at hz ⊢
    by_cases q : s = s0 ∧ k = cnt C s0
    · exact ⟨N, by omega, by rw [if_pos q]; exact pk_uLs, by rw [q.1]; exact pk_us, by rw [q.2]; exact pk_us⟩
    · rw [if_neg q] at hz ⊢
      obtain ⟨i, b1, b2, b3, b4⟩ := a4 s k h1 h4 (old s k h1 h4 hk q) hz
      have e : i ≠ N := by omega
      exact ⟨i, by omega, by rw [pk_uLn e]; exact b2, by rw [pk_un e]; exact b3, by rw [pk_un e]; exact b4⟩
  · dsimp only
    by_cases q : s = s0 ∧ k = cnt C s0
    · rw [if_pos q, q.1, q.2]; exact ⟨w8', h0⟩
    · rw [if_neg q]
      have ol := old s k h1 h4 hk q
      have c := cnt_le ok h1 h4
      rw [hm _ (by omega) (nb_ne ok h1 h4 g1 g4 hl ol)]
      exact a5 s k h1 h4 ol
  · dsimp only at hz he
    by_cases q : s = s0 ∧ k = cnt C s0
    · by_cases q' : s' = s0 ∧ k' = cnt C s0
      · exact ⟨by omega, by omega⟩
      · rw [if_pos q, if_neg q'] at he
        exact absurd he.symm (fr s' k' h3 h4 (old s' k' h3 h4 hk' q'))
    · by_cases q' : s' = s0 ∧ k' = cnt C s0
      · rw [if_neg q, if_pos q'] at he
        exact absurd he (fr s k h1 h2 (old s k h1 h2 hk q))
      · rw [if_neg q, if_neg q'] at he
        rw [if_neg q] at hz
        exact a6 s k s' k' h1 h2 (old s k h1 h2 hk q) h3 h4 (old s' k' h3 h4 hk' q') hz he
theorem c_add {N k s : Nat} {co : Nat → Int64} {so nu : Nat → Int32} (w : Int64) (h : N < 27) : X3_add (nI N) co so nu w (nI s) (nI k) = some (nI (N + 1), vp_updL co N w, upd so N (nI s), upd nu N (nI k)) := by
  unfold X3_add
  simp (disch := omega) only [l_0, l_1, l_2, l_3, l_4, l_5, l_6, l_7, l_8, l_9, l_10, l_11, l_12, l_13, l_14, l_15, l_16, l_17, l_18, l_19, l_20, l_21, l_22, l_23, l_24, l_25, l_26, l_27, l_30, l_31, l_32, l_40, l_48, l_57, l_59, l_60, l_61, l_62, l_64, l_83, l_90, l_97, l_99, l_100, l_108, l_115, l_122, l_123, l_127, l_128, l_131, l_135, l_200, l_255, l_256, l_300, l_487, l_495, l_900, l_999, l_1000, l_1700, l_1792, l_1980, l_2048, l_2475, l_2970, l_3121, l_9999, l_10000, l_11351, l_65536, l_100000, l_1000000, ↓l_m1, l_neg, nI_add, pk_mul, pk_sub, q_leT, q_leF, q_ltT, q_ltF, q_eqT, q_eqF, q_m1e, q_m1e2, q_m1lt, q_m1le, q_m1nl, q_m1nle, q_m1s, q_ix, q_jat, q_jput, q_min1, q_min2, q_max1, q_max2, q_or0, q_0or, q_bs, if_true, if_false, true_and, and_true, false_and, and_false, not_true_eq_false, not_false_eq_true, eq_self, Bool.false_eq_true, q_z0, q_z1, jputL_nI]
/-! roads -/
def RC (C : Cy) (xr : Nat → Int32) : Prop := ∀ r c, r < C 0 0 1 → c < 2 → xr (r * 2 + c) = nI (C 1 r c)
theorem tk_ins1 (C : Cy) (v : Nat → Nat) (a b : Nat) : tk (ins C 1 v) a b = if (v 0 = a ∧ v 1 = b) ∨ (v 0 = b ∧ v 1 = a) then min (tk C a b) (v 2) else tk C a b := by
  have e : ∀ n, n ≤ C 0 0 1 → rd (ins C 1 v) a b n = rd C a b n := by
    intro n
    induction n with
    | zero => intro _; rfl
    | succ n ih =>
      intro hn
      rw [rd, rd, ih (by omega)]; unfold rdj
      rw [ins_o C (by omega) (by omega), ins_o C (by omega) (by omega), ins_o C (by omega) (by omega)]
  unfold tk
  rw [ins_n, rd, e _ (Nat.le_refl _)]
  unfold rdj
  rw [ins_r C (by omega), ins_r C (by omega), ins_r C (by omega)]
  by_cases q : (v 0 = a ∧ v 1 = b) ∨ (v 0 = b ∧ v 1 = a)
  · rw [if_pos q, decide_eq_true q, if_pos rfl]
  · rw [if_neg q, decide_eq_false q]; rfl
theorem c_addRoad {F a b k : Nat} {C : Cy} {xr xt : Nat → Int32} (ok : Ok C) (h1 : C 0 0 1 < 12) (ha : a < C 0 0 0) (hb : b < C 0 0 0) (hab : a ≠ b) (hk : 1 ≤ k) (hk9 : k ≤ 9) (hr : RC C xr) (ht : CT C xt) (hF : 2000 < F) :
    ∃ xr' xt', X6_addRoad F (nI (C 0 0 1)) xr xt (nI a) (nI b) (nI k) = some (nI (C 0 0 1 + 1), xr', xt') ∧ RC (ins C 1 (fun c => if c = 0 then a else if c = 1 then b else k)) xr' ∧ CT (ins C 1 (fun c => if c = 0 then a else if c = 1 then b else k)) xt' := by
  have o0 := ok.1
  have fu : X7_isFull 24 (nI 2) (nI (C 0 0 1)) = some (nI 0) := by
    unfold X7_isFull
    rw [show (Int32.ofNat 24 : Int32) = nI 24 from rfl]
    simp (disch := omega) only [l_0, l_1, l_2, l_3, l_4, l_5, l_6, l_7, l_8, l_9, l_10, l_11, l_12, l_13, l_14, l_15, l_16, l_17, l_18, l_19, l_20, l_21, l_22, l_23, l_24, l_25, l_26, l_27, l_30, l_31, l_32, l_40, l_48, l_57, l_59, l_60, l_61, l_62, l_64, l_83, l_90, l_97, l_99, l_100, l_108, l_115, l_122, l_123, l_127, l_128, l_131, l_135, l_200, l_255, l_256, l_300, l_487, l_495, l_900, l_999, l_1000, l_1700, l_1792, l_1980, l_2048, l_2475, l_2970, l_3121, l_9999, l_10000, l_11351, l_65536, l_100000, l_1000000, ↓l_m1, l_neg, nI_add, pk_mul, pk_sub, q_leT, q_leF, q_ltT, q_ltF, q_eqT, q_eqF, q_m1e, q_m1e2, q_m1lt, q_m1le, q_m1nl, q_m1nle, q_m1s, q_ix, q_jat, q_jput, q_min1, q_min2, q_max1, q_max2, q_or0, q_0or, q_bs, if_true, if_false, true_and, and_true, false_and, and_false, not_true_eq_false, not_false_eq_true, eq_self, Bool.false_eq_true, q_z0, q_z1]
  have ad := add_e (F := F) (n := 24) (w := 2) (m := C 0 0 1) (f := xr) (by omega) (by omega) (by omega) (by omega)
  have ac : X6_areCorners (nI a) (nI b) = some (nI 1) := by
    unfold X6_areCorners
    simp (disch := omega) only [l_0, l_1, l_2, l_3, l_4, l_5, l_6, l_7, l_8, l_9, l_10, l_11, l_12, l_13, l_14, l_15, l_16, l_17, l_18, l_19, l_20, l_21, l_22, l_23, l_24, l_25, l_26, l_27, l_30, l_31, l_32, l_40, l_48, l_57, l_59, l_60, l_61, l_62, l_64, l_83, l_90, l_97, l_99, l_100, l_108, l_115, l_122, l_123, l_127, l_128, l_131, l_135, l_200, l_255, l_256, l_300, l_487, l_495, l_900, l_999, l_1000, l_1700, l_1792, l_1980, l_2048, l_2475, l_2970, l_3121, l_9999, l_10000, l_11351, l_65536, l_100000, l_1000000, ↓l_m1, l_neg, nI_add, pk_mul, pk_sub, q_leT, q_leF, q_ltT, q_ltF, q_eqT, q_eqF, q_m1e, q_m1e2, q_m1lt, q_m1le, q_m1nl, q_m1nle, q_m1s, q_ix, q_jat, q_jput, q_min1, q_min2, q_max1, q_max2, q_or0, q_0or, q_bs, if_true, if_false, true_and, and_true, false_and, and_false, not_true_eq_false, not_false_eq_true, eq_self, Bool.false_eq_true, q_z0, q_z1]
  have tb : X6_takesBetween xt (nI a) (nI b) = some (nI (tk0 C a b)) := by
    have t := ht a b (by omega) (by omega)
    unfold X6_takesBetween X6_cell
    simp (disch := omega) only [l_0, l_1, l_2, l_3, l_4, l_5, l_6, l_7, l_8, l_9, l_10, l_11, l_12, l_13, l_14, l_15, l_16, l_17, l_18, l_19, l_20, l_21, l_22, l_23, l_24, l_25, l_26, l_27, l_30, l_31, l_32, l_40, l_48, l_57, l_59, l_60, l_61, l_62, l_64, l_83, l_90, l_97, l_99, l_100, l_108, l_115, l_122, l_123, l_127, l_128, l_131, l_135, l_200, l_255, l_256, l_300, l_487, l_495, l_900, l_999, l_1000, l_1700, l_1792, l_1980, l_2048, l_2475, l_2970, l_3121, l_9999, l_10000, l_11351, l_65536, l_100000, l_1000000, ↓l_m1, l_neg, nI_add, pk_mul, pk_sub, q_leT, q_leF, q_ltT, q_ltF, q_eqT, q_eqF, q_m1e, q_m1e2, q_m1lt, q_m1le, q_m1nl, q_m1nle, q_m1s, q_ix, q_jat, q_jput, q_min1, q_min2, q_max1, q_max2, q_or0, q_0or, q_bs, if_true, if_false, true_and, and_true, false_and, and_false, not_true_eq_false, not_false_eq_true, eq_self, Bool.false_eq_true, q_z0, q_z1, ac, t]
  have t9 := tk0_le ok a b
  have rr : RC (ins C 1 (fun c => if c = 0 then a else if c = 1 then b else k)) (upd (upd (putN xr (fun _ => nI 0) (C 0 0 1 * 2) 2) (C 0 0 1 * 2 + 0) (nI a)) (C 0 0 1 * 2 + 1) (nI b)) := by
    intro r c hr' hc
    rw [ins_n] at hr'
    by_cases e : r = C 0 0 1
    · subst e
      rw [ins_r C (by omega)]
      rcases (show c = 0 ∨ c = 1 by omega) with rfl | rfl
      · rw [pk_un (by omega), pk_us]; rfl
      · rw [pk_us]; rfl
    · rw [ins_o C (by omega) e, pk_un (by omega), pk_un (by omega)]
      unfold putN; rw [if_neg (by omega)]; exact hr r c (by omega) hc
  have tv : ∀ x y, tk0 (ins C 1 (fun c => if c = 0 then a else if c = 1 then b else k)) x y = if (a = x ∧ b = y) ∨ (a = y ∧ b = x) then (if tk0 C x y = 0 then k else min (tk0 C x y) k) else tk0 C x y := by
    intro x y
    have t1 := tk_ins1 C (fun c => if c = 0 then a else if c = 1 then b else k) x y
    simp only [if_true, Nat.one_ne_zero, if_false, Nat.reduceEqDiff] at t1
    have tv := tk_val ok x y
    unfold tk0
    rw [t1]
    by_cases q : (a = x ∧ b = y) ∨ (a = y ∧ b = x)
    · rw [if_pos q, if_pos q]
      by_cases z : tk C x y = 1000000
      · rw [z, if_neg (by omega), if_pos rfl, if_pos rfl]; omega
      · rw [if_neg (by omega), if_neg z, if_neg (by omega)]
    · rw [if_neg q, if_neg q]
  by_cases q : tk0 C a b ≠ 0 ∧ tk0 C a b ≤ k
  · have q1 := q.1
    have q2 := q.2
    refine ⟨_, xt, ?_, rr, fun x y hx hy => ?_⟩
    · unfold X6_addRoad
      simp (disch := omega) only [l_0, l_1, l_2, l_3, l_4, l_5, l_6, l_7, l_8, l_9, l_10, l_11, l_12, l_13, l_14, l_15, l_16, l_17, l_18, l_19, l_20, l_21, l_22, l_23, l_24, l_25, l_26, l_27, l_30, l_31, l_32, l_40, l_48, l_57, l_59, l_60, l_61, l_62, l_64, l_83, l_90, l_97, l_99, l_100, l_108, l_115, l_122, l_123, l_127, l_128, l_131, l_135, l_200, l_255, l_256, l_300, l_487, l_495, l_900, l_999, l_1000, l_1700, l_1792, l_1980, l_2048, l_2475, l_2970, l_3121, l_9999, l_10000, l_11351, l_65536, l_100000, l_1000000, ↓l_m1, l_neg, nI_add, pk_mul, pk_sub, q_leT, q_leF, q_ltT, q_ltF, q_eqT, q_eqF, q_m1e, q_m1e2, q_m1lt, q_m1le, q_m1nl, q_m1nle, q_m1s, q_ix, q_jat, q_jput, q_min1, q_min2, q_max1, q_max2, q_or0, q_0or, q_bs, if_true, if_false, true_and, and_true, false_and, and_false, not_true_eq_false, not_false_eq_true, eq_self, Bool.false_eq_true, q_z0, q_z1, ac, fu, ad, q_set, tb]
    · rw [ht x y hx hy, tv]
      by_cases e : (a = x ∧ b = y) ∨ (a = y ∧ b = x)
      · have s : tk0 C x y = tk0 C a b := by
          rcases e with ⟨rfl, rfl⟩ | ⟨rfl, rfl⟩
          · rfl
          · unfold tk0; rw [tk_sym]
        rw [if_pos e, s, if_neg q1, Nat.min_eq_left q2]
      · rw [if_neg e]
  · refine ⟨_, upd (upd xt (a * 8 + b) (nI k)) (b * 8 + a) (nI k), ?_, rr, fun x y hx hy => ?_⟩
    · unfold X6_addRoad X6_addRoad_j69 X6_cell
      by_cases z : tk0 C a b = 0
      · rw [z] at tb
        simp (disch := omega) only [l_0, l_1, l_2, l_3, l_4, l_5, l_6, l_7, l_8, l_9, l_10, l_11, l_12, l_13, l_14, l_15, l_16, l_17, l_18, l_19, l_20, l_21, l_22, l_23, l_24, l_25, l_26, l_27, l_30, l_31, l_32, l_40, l_48, l_57, l_59, l_60, l_61, l_62, l_64, l_83, l_90, l_97, l_99, l_100, l_108, l_115, l_122, l_123, l_127, l_128, l_131, l_135, l_200, l_255, l_256, l_300, l_487, l_495, l_900, l_999, l_1000, l_1700, l_1792, l_1980, l_2048, l_2475, l_2970, l_3121, l_9999, l_10000, l_11351, l_65536, l_100000, l_1000000, ↓l_m1, l_neg, nI_add, pk_mul, pk_sub, q_leT, q_leF, q_ltT, q_ltF, q_eqT, q_eqF, q_m1e, q_m1e2, q_m1lt, q_m1le, q_m1nl, q_m1nle, q_m1s, q_ix, q_jat, q_jput, q_min1, q_min2, q_max1, q_max2, q_or0, q_0or, q_bs, if_true, if_false, true_and, and_true, false_and, and_false, not_true_eq_false, not_false_eq_true, eq_self, Bool.false_eq_true, q_z0, q_z1, ac, fu, ad, q_set, tb]
      · simp (disch := omega) only [l_0, l_1, l_2, l_3, l_4, l_5, l_6, l_7, l_8, l_9, l_10, l_11, l_12, l_13, l_14, l_15, l_16, l_17, l_18, l_19, l_20, l_21, l_22, l_23, l_24, l_25, l_26, l_27, l_30, l_31, l_32, l_40, l_48, l_57, l_59, l_60, l_61, l_62, l_64, l_83, l_90, l_97, l_99, l_100, l_108, l_115, l_122, l_123, l_127, l_128, l_131, l_135, l_200, l_255, l_256, l_300, l_487, l_495, l_900, l_999, l_1000, l_1700, l_1792, l_1980, l_2048, l_2475, l_2970, l_3121, l_9999, l_10000, l_11351, l_65536, l_100000, l_1000000, ↓l_m1, l_neg, nI_add, pk_mul, pk_sub, q_leT, q_leF, q_ltT, q_ltF, q_eqT, q_eqF, q_m1e, q_m1e2, q_m1lt, q_m1le, q_m1nl, q_m1nle, q_m1s, q_ix, q_jat, q_jput, q_min1, q_min2, q_max1, q_max2, q_or0, q_0or, q_bs, if_true, if_false, true_and, and_true, false_and, and_false, not_true_eq_false, not_false_eq_true, eq_self, Bool.false_eq_true, q_z0, q_z1, ac, fu, ad, q_set, tb]
    · rw [tv]
      by_cases e : (a = x ∧ b = y) ∨ (a = y ∧ b = x)
      · have s : tk0 C x y = tk0 C a b := by
          rcases e with ⟨rfl, rfl⟩ | ⟨rfl, rfl⟩
          · rfl
          · unfold tk0; rw [tk_sym]
        have v : upd (upd xt (a * 8 + b) (nI k)) (b * 8 + a) (nI k) (x * 8 + y) = nI k := by
          rcases e with ⟨rfl, rfl⟩ | ⟨rfl, rfl⟩
          · rw [pk_un (by omega), pk_us]
          · rw [pk_us]
        rw [v, if_pos e, s]
        by_cases z : tk0 C a b = 0
        · rw [if_pos z]
        · rw [if_neg z, Nat.min_eq_right (by omega)]
      · rw [if_neg e, pk_un (by omega), pk_un (by omega)]; exact ht x y hx hy
/-! hours -/
theorem it_inv {σ ε : Type} {b : σ → Option (σ ⊕ ε)} (P : Nat → σ → Prop) (Q : ε → Prop) (n : Nat) (hs : ∀ i s, i < n → P i s → ∃ s', b s = some (.inl s') ∧ P (i + 1) s') (he : ∀ s, P n s → ∃ e, b s = some (.inr e) ∧ Q e) : ∀ F s, n < F → P 0 s → ∃ e, iter b F s = some e ∧ Q e := by
  have key : ∀ k i, i + k = n → ∀ F s, k < F → P i s → ∃ e, iter b F s = some e ∧ Q e := by
    intro k
    induction k with
    | zero =>
      intro i hi F s hF hP
      obtain ⟨G, rfl⟩ : ∃ G, F = G + 1 := ⟨F - 1, by omega⟩
      have : i = n := by omega
      subst this
      obtain ⟨e, h1, h2⟩ := he s hP
      exact ⟨e, by simp only [iter, h1], h2⟩
    | succ k ih =>
      intro i hi F s hF hP
      obtain ⟨G, rfl⟩ : ∃ G, F = G + 1 := ⟨F - 1, by omega⟩
      obtain ⟨s', h1, h2⟩ := hs i s (by omega) hP
      obtain ⟨e, h3, h4⟩ := ih (i + 1) (by omega) G s' (by omega) h2
      exact ⟨e, by simp only [iter, h1]; exact h3, h4⟩
  exact fun F s hF h0 => key n 0 (by omega) F s hF h0
theorem c_measure {F : Nat} {C : Cy} {xt xh : Nat → Int32} (ok : Ok C) (ht : CT C xt) (hF : 2000 < F) : ∃ hs, X6_measure F xt xh = some hs ∧ CF C hs := by
  let d : Nat → Nat → Nat := fun a b => if a = b then 0 else (if tk0 C a b = 0 then 1000 else tk0 C a b)
  have ed : ∀ a b, d a b = min 1000 (dz C a b) := fun a b => by
    show (if a = b then 0 else (if tk0 C a b = 0 then 1000 else tk0 C a b)) = _
    unfold dz
    by_cases e : a = b
    · rw [if_pos e, if_pos e]; rfl
    · rw [if_neg e, if_neg e]
      have tv := tk_val ok a b
      unfold tk0
      by_cases z : tk C a b = 1000000
      · rw [z, if_pos rfl, if_pos rfl]; rfl
      · rw [if_neg z, if_neg (by omega)]; omega
  have d0 : ∀ a, d a a = 0 := fun a => by rw [ed, dz_0]; rfl
  have f0 : ∀ n a, fwn d n a a = 0 := fun n a => fwn_0 d0 n a
  have fe : ∀ n a b, fwn d n a b ≤ 1000 := fun n a b => by rw [fwn_min ed n a b]; omega
  have i1 : iter (X6_measure_b2 F xt) F (nI 0, xh) = some (putN xh (fun j => if xt j = nI 0 then nI 1000 else xt j) 0 64) := by
    have := iter_count (b := X6_measure_b2 F xt) (fun i => (nI i, putN xh (fun j => if xt j = nI 0 then nI 1000 else xt j) 0 i)) 64 (e := putN xh (fun j => if xt j = nI 0 then nI 1000 else xt j) 0 64) (fun i hi => ?_) ?_ F (by omega)
    · rw [← this, putN_0]
    · have e2 := putN_s xh (fun j => if xt j = nI 0 then nI 1000 else xt j) 0 i
      rw [Nat.zero_add] at e2
      unfold X6_measure_b2 X6_measure_j37
      by_cases e : xt i = nI 0
      · rw [if_pos e] at e2
        simp (disch := omega) only [l_0, l_1, l_2, l_3, l_4, l_5, l_6, l_7, l_8, l_9, l_10, l_11, l_12, l_13, l_14, l_15, l_16, l_17, l_18, l_19, l_20, l_21, l_22, l_23, l_24, l_25, l_26, l_27, l_30, l_31, l_32, l_40, l_48, l_57, l_59, l_60, l_61, l_62, l_64, l_83, l_90, l_97, l_99, l_100, l_108, l_115, l_122, l_123, l_127, l_128, l_131, l_135, l_200, l_255, l_256, l_300, l_487, l_495, l_900, l_999, l_1000, l_1700, l_1792, l_1980, l_2048, l_2475, l_2970, l_3121, l_9999, l_10000, l_11351, l_65536, l_100000, l_1000000, ↓l_m1, l_neg, nI_add, pk_mul, pk_sub, q_leT, q_leF, q_ltT, q_ltF, q_eqT, q_eqF, q_m1e, q_m1e2, q_m1lt, q_m1le, q_m1nl, q_m1nle, q_m1s, q_ix, q_jat, q_jput, q_min1, q_min2, q_max1, q_max2, q_or0, q_0or, q_bs, if_true, if_false, true_and, and_true, false_and, and_false, not_true_eq_false, not_false_eq_true, eq_self, Bool.false_eq_true, q_z0, q_z1, e, e2]
      · rw [if_neg e] at e2
        simp (disch := omega) only [l_0, l_1, l_2, l_3, l_4, l_5, l_6, l_7, l_8, l_9, l_10, l_11, l_12, l_13, l_14, l_15, l_16, l_17, l_18, l_19, l_20, l_21, l_22, l_23, l_24, l_25, l_26, l_27, l_30, l_31, l_32, l_40, l_48, l_57, l_59, l_60, l_61, l_62, l_64, l_83, l_90, l_97, l_99, l_100, l_108, l_115, l_122, l_123, l_127, l_128, l_131, l_135, l_200, l_255, l_256, l_300, l_487, l_495, l_900, l_999, l_1000, l_1700, l_1792, l_1980, l_2048, l_2475, l_2970, l_3121, l_9999, l_10000, l_11351, l_65536, l_100000, l_1000000, ↓l_m1, l_neg, nI_add, pk_mul, pk_sub, q_leT, q_leF, q_ltT, q_ltF, q_eqT, q_eqF, q_m1e, q_m1e2, q_m1lt, q_m1le, q_m1nl, q_m1nle, q_m1s, q_ix, q_jat, q_jput, q_min1, q_min2, q_max1, q_max2, q_or0, q_0or, q_bs, if_true, if_false, true_and, and_true, false_and, and_false, not_true_eq_false, not_false_eq_true, eq_self, Bool.false_eq_true, q_z0, q_z1, e, e2]
    · unfold X6_measure_b2
      simp (disch := omega) only [l_0, l_1, l_2, l_3, l_4, l_5, l_6, l_7, l_8, l_9, l_10, l_11, l_12, l_13, l_14, l_15, l_16, l_17, l_18, l_19, l_20, l_21, l_22, l_23, l_24, l_25, l_26, l_27, l_30, l_31, l_32, l_40, l_48, l_57, l_59, l_60, l_61, l_62, l_64, l_83, l_90, l_97, l_99, l_100, l_108, l_115, l_122, l_123, l_127, l_128, l_131, l_135, l_200, l_255, l_256, l_300, l_487, l_495, l_900, l_999, l_1000, l_1700, l_1792, l_1980, l_2048, l_2475, l_2970, l_3121, l_9999, l_10000, l_11351, l_65536, l_100000, l_1000000, ↓l_m1, l_neg, nI_add, pk_mul, pk_sub, q_leT, q_leF, q_ltT, q_ltF, q_eqT, q_eqF, q_m1e, q_m1e2, q_m1lt, q_m1le, q_m1nl, q_m1nle, q_m1s, q_ix, q_jat, q_jput, q_min1, q_min2, q_max1, q_max2, q_or0, q_0or, q_bs, if_true, if_false, true_and, and_true, false_and, and_false, not_true_eq_false, not_false_eq_true, eq_self, Bool.false_eq_true, q_z0, q_z1]
  obtain ⟨h2, i2, q2⟩ := it_inv (b := X6_measure_b46 F xt) (fun i s => s.1 = nI i ∧ ∀ a b, a < 8 → b < 8 → s.2 (a * 8 + b) = if a = b ∧ a < i then nI 0 else nI (if tk0 C a b = 0 then 1000 else tk0 C a b)) (fun e => ∀ a b, a < 8 → b < 8 → e (a * 8 + b) = nI (d a b)) 8 (fun i s hi hs => by
    obtain ⟨h1, h2⟩ := hs
    refine ⟨(nI (i + 1), upd s.2 (i * 8 + i) (nI 0)), ?_, rfl, fun a b ha hb => ?_⟩
    · unfold X6_measure_b46 X6_cell
      rw [h1]
      simp (disch := omega) only [l_0, l_1, l_2, l_3, l_4, l_5, l_6, l_7, l_8, l_9, l_10, l_11, l_12, l_13, l_14, l_15, l_16, l_17, l_18, l_19, l_20, l_21, l_22, l_23, l_24, l_25, l_26, l_27, l_30, l_31, l_32, l_40, l_48, l_57, l_59, l_60, l_61, l_62, l_64, l_83, l_90, l_97, l_99, l_100, l_108, l_115, l_122, l_123, l_127, l_128, l_131, l_135, l_200, l_255, l_256, l_300, l_487, l_495, l_900, l_999, l_1000, l_1700, l_1792, l_1980, l_2048, l_2475, l_2970, l_3121, l_9999, l_10000, l_11351, l_65536, l_100000, l_1000000, ↓l_m1, l_neg, nI_add, pk_mul, pk_sub, q_leT, q_leF, q_ltT, q_ltF, q_eqT, q_eqF, q_m1e, q_m1e2, q_m1lt, q_m1le, q_m1nl, q_m1nle, q_m1s, q_ix, q_jat, q_jput, q_min1, q_min2, q_max1, q_max2, q_or0, q_0or, q_bs, if_true, if_false, true_and, and_true, false_and, and_false, not_true_eq_false, not_false_eq_true, eq_self, Bool.false_eq_true, q_z0, q_z1]
    · dsimp only
      by_cases e : a = i ∧ b = i
      · rw [e.1, e.2, pk_us, if_pos ⟨rfl, by omega⟩]
      · rw [pk_un (by omega), h2 a b ha hb]
        by_cases q : a = b ∧ a < i
        · rw [if_pos q, if_pos ⟨q.1, by omega⟩]
        · rw [if_neg q, if_neg (show ¬ (a = b ∧ a < i + 1) from fun z => q ⟨z.1, by omega⟩)]) (fun s hs => by
    obtain ⟨h1, h2⟩ := hs
    refine ⟨s.2, ?_, fun a b ha hb => ?_⟩
    · unfold X6_measure_b46
      rw [h1]
      simp (disch := omega) only [l_0, l_1, l_2, l_3, l_4, l_5, l_6, l_7, l_8, l_9, l_10, l_11, l_12, l_13, l_14, l_15, l_16, l_17, l_18, l_19, l_20, l_21, l_22, l_23, l_24, l_25, l_26, l_27, l_30, l_31, l_32, l_40, l_48, l_57, l_59, l_60, l_61, l_62, l_64, l_83, l_90, l_97, l_99, l_100, l_108, l_115, l_122, l_123, l_127, l_128, l_131, l_135, l_200, l_255, l_256, l_300, l_487, l_495, l_900, l_999, l_1000, l_1700, l_1792, l_1980, l_2048, l_2475, l_2970, l_3121, l_9999, l_10000, l_11351, l_65536, l_100000, l_1000000, ↓l_m1, l_neg, nI_add, pk_mul, pk_sub, q_leT, q_leF, q_ltT, q_ltF, q_eqT, q_eqF, q_m1e, q_m1e2, q_m1lt, q_m1le, q_m1nl, q_m1nle, q_m1s, q_ix, q_jat, q_jput, q_min1, q_min2, q_max1, q_max2, q_or0, q_0or, q_bs, if_true, if_false, true_and, and_true, false_and, and_false, not_true_eq_false, not_false_eq_true, eq_self, Bool.false_eq_true, q_z0, q_z1]
    · rw [h2 a b ha hb]
      show _ = nI (if a = b then 0 else (if tk0 C a b = 0 then 1000 else tk0 C a b))
      by_cases q : a = b
      · rw [if_pos ⟨q, ha⟩, if_pos q]
      · rw [if_neg (fun z => q z.1), if_neg q]) F (nI 0, putN xh (fun j => if xt j = nI 0 then nI 1000 else xt j) 0 64) (by omega) ⟨rfl, fun a b ha hb => by
      have t := ht a b ha hb
      have t9 := tk0_le ok a b
      rw [if_neg (show ¬ (a = b ∧ a < 0) from fun z => absurd z.2 (by omega))]
      unfold putN
      dsimp only
      rw [if_pos (show 0 ≤ a * 8 + b ∧ a * 8 + b < 0 + 64 by omega), Nat.sub_zero]
      by_cases z : tk0 C a b = 0
      · rw [t, z, if_pos rfl, if_pos rfl]
      · rw [t, if_neg (fun y => z ((nI_eq (by omega) (by omega)).mp y)), if_neg z]⟩
  obtain ⟨h3, i3, q3⟩ := it_inv (b := X6_measure_b71 F xt) (fun n s => s.1 = nI n ∧ ∀ a b, a < 8 → b < 8 → s.2 (a * 8 + b) = nI (fwn d n a b)) (fun e => ∀ a b, a < 8 → b < 8 → e (a * 8 + b) = nI (fwn d 8 a b)) 8 (fun n s hn hs => by
    obtain ⟨h1, h2⟩ := hs
    have b0 := f0 n n
    obtain ⟨h4, i4, q4⟩ := it_inv (b := X6_measure_b79 F xt (nI n)) (fun x s => s.1 = nI x ∧ ∀ a b, a < 8 → b < 8 → s.2 (a * 8 + b) = nI (if a < x then fwn d (n + 1) a b else fwn d n a b)) (fun e => ∀ a b, a < 8 → b < 8 → e (a * 8 + b) = nI (fwn d (n + 1) a b)) 8 (fun x s hx hs => by
      obtain ⟨g1, g2⟩ := hs
      have row : ∀ b, fwn d (n + 1) n b = fwn d n n b := fun b => by rw [fwn]; unfold fws; rw [b0]; omega
      have col : ∀ a, fwn d (n + 1) a n = fwn d n a n := fun a => by rw [fwn]; unfold fws; rw [b0]; omega
      obtain ⟨h5, i5, q5⟩ := it_inv (b := X6_measure_b87 F xt (nI n) (nI x)) (fun y s => s.1 = nI y ∧ ∀ a b, a < 8 → b < 8 → s.2 (a * 8 + b) = nI (if a < x ∨ (a = x ∧ b < y) then fwn d (n + 1) a b else fwn d n a b)) (fun e => ∀ a b, a < 8 → b < 8 → e (a * 8 + b) = nI (if a < x + 1 then fwn d (n + 1) a b else fwn d n a b)) 8 (fun y s hy hs => by
        obtain ⟨k1, k2⟩ := hs
        have v1 : s.2 (x * 8 + n) = nI (fwn d n x n) := by rw [k2 x n hx hn, col, ite_self]
        have v2 : s.2 (n * 8 + y) = nI (fwn d n n y) := by rw [k2 n y hn hy, row, ite_self]
        have v3 : s.2 (x * 8 + y) = nI (fwn d n x y) := by rw [k2 x y hx hy, if_neg (by omega)]
        have u1 := fe n x n; have u2 := fe n n y; have u3 := fe n x y
        have mi : jmin (nI (fwn d n x y)) (nI (fwn d n x n + fwn d n n y)) = nI (fwn d (n + 1) x y) := by
          rw [fwn]; unfold fws
          by_cases q : fwn d n x y ≤ fwn d n x n + fwn d n n y
          · rw [q_min1 q (by omega), Nat.min_eq_left q]
          · rw [q_min2 (by omega) (by omega), Nat.min_eq_right (by omega)]
        refine ⟨(nI (y + 1), upd s.2 (x * 8 + y) (nI (fwn d (n + 1) x y))), ?_, rfl, fun a b ha hb => ?_⟩
        · unfold X6_measure_b87 X6_cell
          rw [k1]
          simp (disch := omega) only [l_0, l_1, l_2, l_3, l_4, l_5, l_6, l_7, l_8, l_9, l_10, l_11, l_12, l_13, l_14, l_15, l_16, l_17, l_18, l_19, l_20, l_21, l_22, l_23, l_24, l_25, l_26, l_27, l_30, l_31, l_32, l_40, l_48, l_57, l_59, l_60, l_61, l_62, l_64, l_83, l_90, l_97, l_99, l_100, l_108, l_115, l_122, l_123, l_127, l_128, l_131, l_135, l_200, l_255, l_256, l_300, l_487, l_495, l_900, l_999, l_1000, l_1700, l_1792, l_1980, l_2048, l_2475, l_2970, l_3121, l_9999, l_10000, l_11351, l_65536, l_100000, l_1000000, ↓l_m1, l_neg, nI_add, pk_mul, pk_sub, q_leT, q_leF, q_ltT, q_ltF, q_eqT, q_eqF, q_m1e, q_m1e2, q_m1lt, q_m1le, q_m1nl, q_m1nle, q_m1s, q_ix, q_jat, q_jput, q_min1, q_min2, q_max1, q_max2, q_or0, q_0or, q_bs, if_true, if_false, true_and, and_true, false_and, and_false, not_true_eq_false, not_false_eq_true, eq_self, Bool.false_eq_true, q_z0, q_z1, ↓v1, ↓v2, ↓v3, mi, q_bs, if_true, if_false, true_and, and_true, false_and, and_false, not_true_eq_false, not_false_eq_true, eq_self, Bool.false_eq_true, q_z0, q_z1]
        · dsimp only
          by_cases e : a = x ∧ b = y
          · rw [e.1, e.2, pk_us, if_pos (Or.inr ⟨rfl, by omega⟩)]
          · rw [pk_un (by omega), k2 a b ha hb]
            by_cases q : a < x ∨ (a = x ∧ b < y)
            · rw [if_pos q, if_pos (by omega)]
            · rw [if_neg q, if_neg (by omega)]) (fun s hs => by
        obtain ⟨k1, k2⟩ := hs
        refine ⟨s.2, ?_, fun a b ha hb => ?_⟩
        · unfold X6_measure_b87
          rw [k1]
          simp (disch := omega) only [l_0, l_1, l_2, l_3, l_4, l_5, l_6, l_7, l_8, l_9, l_10, l_11, l_12, l_13, l_14, l_15, l_16, l_17, l_18, l_19, l_20, l_21, l_22, l_23, l_24, l_25, l_26, l_27, l_30, l_31, l_32, l_40, l_48, l_57, l_59, l_60, l_61, l_62, l_64, l_83, l_90, l_97, l_99, l_100, l_108, l_115, l_122, l_123, l_127, l_128, l_131, l_135, l_200, l_255, l_256, l_300, l_487, l_495, l_900, l_999, l_1000, l_1700, l_1792, l_1980, l_2048, l_2475, l_2970, l_3121, l_9999, l_10000, l_11351, l_65536, l_100000, l_1000000, ↓l_m1, l_neg, nI_add, pk_mul, pk_sub, q_leT, q_leF, q_ltT, q_ltF, q_eqT, q_eqF, q_m1e, q_m1e2, q_m1lt, q_m1le, q_m1nl, q_m1nle, q_m1s, q_ix, q_jat, q_jput, q_min1, q_min2, q_max1, q_max2, q_or0, q_0or, q_bs, if_true, if_false, true_and, and_true, false_and, and_false, not_true_eq_false, not_false_eq_true, eq_self, Bool.false_eq_true, q_z0, q_z1]
        · rw [k2 a b ha hb]
          by_cases q : a < x + 1
          · rw [if_pos q, if_pos (by omega)]
          · rw [if_neg q, if_neg (by omega)]) F (nI 0, s.2) (by omega) ⟨rfl, fun a b ha hb => by
          dsimp only
          rw [g2 a b ha hb]
          by_cases q : a < x
          · rw [if_pos q, if_pos (Or.inl q)]
          · rw [if_neg q, if_neg (by omega)]⟩
      refine ⟨(nI (x + 1), h5), ?_, rfl, q5⟩
      unfold X6_measure_b79
      rw [g1]
      simp (disch := omega) only [l_0, l_1, l_2, l_3, l_4, l_5, l_6, l_7, l_8, l_9, l_10, l_11, l_12, l_13, l_14, l_15, l_16, l_17, l_18, l_19, l_20, l_21, l_22, l_23, l_24, l_25, l_26, l_27, l_30, l_31, l_32, l_40, l_48, l_57, l_59, l_60, l_61, l_62, l_64, l_83, l_90, l_97, l_99, l_100, l_108, l_115, l_122, l_123, l_127, l_128, l_131, l_135, l_200, l_255, l_256, l_300, l_487, l_495, l_900, l_999, l_1000, l_1700, l_1792, l_1980, l_2048, l_2475, l_2970, l_3121, l_9999, l_10000, l_11351, l_65536, l_100000, l_1000000, ↓l_m1, l_neg, nI_add, pk_mul, pk_sub, q_leT, q_leF, q_ltT, q_ltF, q_eqT, q_eqF, q_m1e, q_m1e2, q_m1lt, q_m1le, q_m1nl, q_m1nle, q_m1s, q_ix, q_jat, q_jput, q_min1, q_min2, q_max1, q_max2, q_or0, q_0or, q_bs, if_true, if_false, true_and, and_true, false_and, and_false, not_true_eq_false, not_false_eq_true, eq_self, Bool.false_eq_true, q_z0, q_z1, i5]) (fun s hs => by
      obtain ⟨g1, g2⟩ := hs
      refine ⟨s.2, ?_, fun a b ha hb => ?_⟩
      · unfold X6_measure_b79
        rw [g1]
        simp (disch := omega) only [l_0, l_1, l_2, l_3, l_4, l_5, l_6, l_7, l_8, l_9, l_10, l_11, l_12, l_13, l_14, l_15, l_16, l_17, l_18, l_19, l_20, l_21, l_22, l_23, l_24, l_25, l_26, l_27, l_30, l_31, l_32, l_40, l_48, l_57, l_59, l_60, l_61, l_62, l_64, l_83, l_90, l_97, l_99, l_100, l_108, l_115, l_122, l_123, l_127, l_128, l_131, l_135, l_200, l_255, l_256, l_300, l_487, l_495, l_900, l_999, l_1000, l_1700, l_1792, l_1980, l_2048, l_2475, l_2970, l_3121, l_9999, l_10000, l_11351, l_65536, l_100000, l_1000000, ↓l_m1, l_neg, nI_add, pk_mul, pk_sub, q_leT, q_leF, q_ltT, q_ltF, q_eqT, q_eqF, q_m1e, q_m1e2, q_m1lt, q_m1le, q_m1nl, q_m1nle, q_m1s, q_ix, q_jat, q_jput, q_min1, q_min2, q_max1, q_max2, q_or0, q_0or, q_bs, if_true, if_false, true_and, and_true, false_and, and_false, not_true_eq_false, not_false_eq_true, eq_self, Bool.false_eq_true, q_z0, q_z1]
      · rw [g2 a b ha hb, if_pos ha]) F (nI 0, s.2) (by omega) ⟨rfl, fun a b ha hb => by
        dsimp only
        rw [h2 a b ha hb, if_neg (by omega)]⟩
    refine ⟨(nI (n + 1), h4), ?_, rfl, q4⟩
    unfold X6_measure_b71
    rw [h1]
    simp (disch := omega) only [l_0, l_1, l_2, l_3, l_4, l_5, l_6, l_7, l_8, l_9, l_10, l_11, l_12, l_13, l_14, l_15, l_16, l_17, l_18, l_19, l_20, l_21, l_22, l_23, l_24, l_25, l_26, l_27, l_30, l_31, l_32, l_40, l_48, l_57, l_59, l_60, l_61, l_62, l_64, l_83, l_90, l_97, l_99, l_100, l_108, l_115, l_122, l_123, l_127, l_128, l_131, l_135, l_200, l_255, l_256, l_300, l_487, l_495, l_900, l_999, l_1000, l_1700, l_1792, l_1980, l_2048, l_2475, l_2970, l_3121, l_9999, l_10000, l_11351, l_65536, l_100000, l_1000000, ↓l_m1, l_neg, nI_add, pk_mul, pk_sub, q_leT, q_leF, q_ltT, q_ltF, q_eqT, q_eqF, q_m1e, q_m1e2, q_m1lt, q_m1le, q_m1nl, q_m1nle, q_m1s, q_ix, q_jat, q_jput, q_min1, q_min2, q_max1, q_max2, q_or0, q_0or, q_bs, if_true, if_false, true_and, and_true, false_and, and_false, not_true_eq_false, not_false_eq_true, eq_self, Bool.false_eq_true, q_z0, q_z1, i4]) (fun s hs => by
    obtain ⟨h1, h2⟩ := hs
    refine ⟨s.2, ?_, h2⟩
    unfold X6_measure_b71
    rw [h1]
    simp (disch := omega) only [l_0, l_1, l_2, l_3, l_4, l_5, l_6, l_7, l_8, l_9, l_10, l_11, l_12, l_13, l_14, l_15, l_16, l_17, l_18, l_19, l_20, l_21, l_22, l_23, l_24, l_25, l_26, l_27, l_30, l_31, l_32, l_40, l_48, l_57, l_59, l_60, l_61, l_62, l_64, l_83, l_90, l_97, l_99, l_100, l_108, l_115, l_122, l_123, l_127, l_128, l_131, l_135, l_200, l_255, l_256, l_300, l_487, l_495, l_900, l_999, l_1000, l_1700, l_1792, l_1980, l_2048, l_2475, l_2970, l_3121, l_9999, l_10000, l_11351, l_65536, l_100000, l_1000000, ↓l_m1, l_neg, nI_add, pk_mul, pk_sub, q_leT, q_leF, q_ltT, q_ltF, q_eqT, q_eqF, q_m1e, q_m1e2, q_m1lt, q_m1le, q_m1nl, q_m1nle, q_m1s, q_ix, q_jat, q_jput, q_min1, q_min2, q_max1, q_max2, q_or0, q_0or, q_bs, if_true, if_false, true_and, and_true, false_and, and_false, not_true_eq_false, not_false_eq_true, eq_self, Bool.false_eq_true, q_z0, q_z1]) F (nI 0, h2) (by omega) ⟨rfl, q2⟩
  refine ⟨h3, ?_, fun _ a b ha hb => ?_⟩
  · unfold X6_measure
    simp (disch := omega) only [l_0, l_1, l_2, l_3, l_4, l_5, l_6, l_7, l_8, l_9, l_10, l_11, l_12, l_13, l_14, l_15, l_16, l_17, l_18, l_19, l_20, l_21, l_22, l_23, l_24, l_25, l_26, l_27, l_30, l_31, l_32, l_40, l_48, l_57, l_59, l_60, l_61, l_62, l_64, l_83, l_90, l_97, l_99, l_100, l_108, l_115, l_122, l_123, l_127, l_128, l_131, l_135, l_200, l_255, l_256, l_300, l_487, l_495, l_900, l_999, l_1000, l_1700, l_1792, l_1980, l_2048, l_2475, l_2970, l_3121, l_9999, l_10000, l_11351, l_65536, l_100000, l_1000000, ↓l_m1, l_neg, nI_add, pk_mul, pk_sub, q_leT, q_leF, q_ltT, q_ltF, q_eqT, q_eqF, q_m1e, q_m1e2, q_m1lt, q_m1le, q_m1nl, q_m1nle, q_m1s, q_ix, q_jat, q_jput, q_min1, q_min2, q_max1, q_max2, q_or0, q_0or, q_bs, if_true, if_false, true_and, and_true, false_and, and_false, not_true_eq_false, not_false_eq_true, eq_self, Bool.false_eq_true, q_z0, q_z1, i1, i2, i3]
  · rw [q3 a b ha hb, fwn_min ed 8 a b]; rfl
