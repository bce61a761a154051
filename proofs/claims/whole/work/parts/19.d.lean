/-! ===== PURE 19.d: ends of steps ===== -/
def Stk (R : Nat → Nat → Nat) (dep : Nat → Nat) (enc : Nat → Nat → Nat) (k : Nat) (b e t loops : Nat → Int32) (tv : Nat → Nat) : Prop := ∀ d, d < dep k → b d = nI (cls R (enc k d) + 1) ∧ e d = nI (cls R (R (enc k d) 4)) ∧ t d = nI (tv d) ∧ 1 ≤ tv d ∧ tv d ≤ 99 ∧ (R (enc k d) 0 = 18 → loops (enc k d) = nI (tv d - 1)) ∧ (R (enc k d) 0 ≠ 18 → tv d = 1)
theorem iter_l {σ ε : Type} {b : σ → Option (σ ⊕ ε)} {s s' : σ} (h : b s = some (.inl s')) (G : Nat) : iter b (G + 1) s = iter b G s' := by simp only [iter, h]
theorem iter_r {σ ε : Type} {b : σ → Option (σ ⊕ ε)} {s : σ} {e : ε} (h : b s = some (.inr e)) (G : Nat) : iter b (G + 1) s = some e := by simp only [iter, h]
theorem row_le {C : Cy} {R : Nat → Nat → Nat} {q : Nat} (h : RowOk C R q) : R q 0 ≤ 1724 := by
  rcases h with z | z | z | z | z | z | z | z | z | z | z <;> omega
theorem close1 {F : Nat} {h0 p0 w0 : Int32} {C C1 : Cy} {tf df wk xf hf wf b e t g loops : Nat → Int32} {M : Nat} {sd st mis unf clk : Int32} {R : Nat → Nat → Nat} {m k T : Nat} {dep : Nat → Nat} {enc : Nat → Nat → Nat} {tv : Nat → Nat}
    (hk : WK C1 R m wk g dep enc) (hkm : k < m) (h19 : R k 0 = 19) (hS : Stk R dep enc k b e t loops tv) (hT : T < 1000000) :
    ∃ k' t' loops' tv', k' ≤ m ∧ B14 F h0 p0 w0 C tf df M wk (lvS (nI (cls R k)) (nI (dep k)) (nI T) sd st (nI 0) mis unf clk b e t xf hf wf) = some (.inl (lvS (nI (cls R k')) (nI (dep k')) (nI (T + 1)) sd st (nI 0) mis unf clk b e t' xf hf wf)) ∧
      X12_behindEnds_b2 F g (nI k, loops) = some (.inl (nI k', loops')) ∧ Stk R dep enc k' b e t' loops' tv' ∧ fb_sm tv' (dep k') + 1 = fb_sm tv (dep k) := by
  obtain ⟨m60, c30, ro, cr, g9, wg, hN, hd0⟩ := hk
  obtain ⟨a1, a2, a3, a4, a5⟩ := (hN.2 k hkm).2.2.1 h19
  have d3 := dep3 hN hd0 (show k ≤ m by omega)
  obtain ⟨d, hd⟩ : ∃ d, dep k = d + 1 := ⟨dep k - 1, by omega⟩
  rw [hd, Nat.add_sub_cancel] at a2 a4 a5
  obtain ⟨u1, u2, u3, u4⟩ := nest_up hN k (by omega) d (by omega)
  obtain ⟨s1, s2, s3, s4, s5, s6, s7⟩ := hS d (by omega)
  rw [← a2] at s1 s2 s6 s7 u1 u2 u3
  rw [a3] at s2
  have c1 : cls R k ≤ 30 := Nat.le_trans (cls_mono R (show k ≤ m by omega)) c30
  have g0 : g (127 + 6 * k) = nI (R k 0) := wg k 0 hkm (by omega) (by omega)
  rw [h19] at g0
  have g4 := wg k 4 hkm (by omega) (by omega)
  have go : g (127 + 6 * R k 4) = nI (R (R k 4) 0) := wg (R k 4) 0 (by omega) (by omega) (by omega)
  have rl := row_le (ro (R k 4) (by omega))
  have ne : ∀ d', d' < d → enc k d' ≠ R k 4 := fun d' h' z => by
    have := (nest_up hN k (by omega) d' (by omega)).2.2.1
    rw [z] at this; omega
  by_cases v1 : tv d = 1
  · rw [v1] at s3 s6
    have hle : R (R k 4) 0 = 18 → (loops (R k 4) ≤ nI 0) = True := fun z => by
      rw [s6 z]; exact eq_true (Int32.le_refl _)
    have same : ∀ j, upd loops (R k 4) (loops (R k 4) - nI 0) j = loops j := fun j => by
      by_cases z : j = R k 4
      · rw [z, pk_us, show nI 0 = (0 : Int32) from rfl, Int32.sub_zero]
      · rw [pk_un z]
    refine ⟨k + 1, upd t d (nI 0), upd loops (R k 4) (loops (R k 4) - nI 0), tv, by omega, ?_, ?_, fun d' h' => ?_, ?_⟩
    · rw [hd, a4, cls_c R h19]
      exact b14_pop hT (by omega) (by omega) s2 s3
    · unfold X12_behindEnds_b2 X12_behindEnds_j75 X12_behindEnds_j76 X12_behindEnds_j95 X12_behindEnds_j111
      by_cases z : R (R k 4) 0 = 18
      · have hl := hle z
        rw [z] at go
        simp (disch := omega) only [l_0, l_1, l_2, l_3, l_4, l_5, l_6, l_7, l_8, l_9, l_10, l_11, l_12, l_13, l_14, l_15, l_16, l_17, l_18, l_19, l_20, l_21, l_22, l_23, l_24, l_25, l_26, l_27, l_30, l_31, l_32, l_40, l_48, l_57, l_59, l_60, l_61, l_62, l_64, l_83, l_90, l_97, l_99, l_100, l_108, l_115, l_122, l_123, l_127, l_128, l_131, l_135, l_200, l_255, l_256, l_300, l_487, l_495, l_900, l_999, l_1000, l_1700, l_1792, l_1980, l_2048, l_2475, l_2970, l_3121, l_9999, l_10000, l_11351, l_65536, l_100000, l_1000000, ↓l_m1, l_neg, nI_add, pk_mul, pk_sub, q_leT, q_leF, q_ltT, q_ltF, q_eqT, q_eqF, q_m1e, q_m1e2, q_m1lt, q_m1le, q_m1nl, q_m1nle, q_m1s, q_ix, q_jat, q_jput, q_min1, q_min2, q_max1, q_max2, q_or0, q_0or, q_bs, if_true, if_false, true_and, and_true, false_and, and_false, not_true_eq_false, not_false_eq_true, eq_self, Bool.false_eq_true, q_z0, q_z1, g9, g0, g4, go, hl]
      · simp (disch := omega) only [l_0, l_1, l_2, l_3, l_4, l_5, l_6, l_7, l_8, l_9, l_10, l_11, l_12, l_13, l_14, l_15, l_16, l_17, l_18, l_19, l_20, l_21, l_22, l_23, l_24, l_25, l_26, l_27, l_30, l_31, l_32, l_40, l_48, l_57, l_59, l_60, l_61, l_62, l_64, l_83, l_90, l_97, l_99, l_100, l_108, l_115, l_122, l_123, l_127, l_128, l_131, l_135, l_200, l_255, l_256, l_300, l_487, l_495, l_900, l_999, l_1000, l_1700, l_1792, l_1980, l_2048, l_2475, l_2970, l_3121, l_9999, l_10000, l_11351, l_65536, l_100000, l_1000000, ↓l_m1, l_neg, nI_add, pk_mul, pk_sub, q_leT, q_leF, q_ltT, q_ltF, q_eqT, q_eqF, q_m1e, q_m1e2, q_m1lt, q_m1le, q_m1nl, q_m1nle, q_m1s, q_ix, q_jat, q_jput, q_min1, q_min2, q_max1, q_max2, q_or0, q_0or, q_bs, if_true, if_false, true_and, and_true, false_and, and_false, not_true_eq_false, not_false_eq_true, eq_self, Bool.false_eq_true, q_z0, q_z1, g9, g0, g4, go]
    · rw [a4] at h'
      obtain ⟨y1, y2, y3, y4, y5, y6, y7⟩ := hS d' (by omega)
      rw [a5 d' h', pk_un (by omega)]
      exact ⟨y1, y2, y3, y4, y5, fun z => by rw [same]; exact y6 z, y7⟩
    · rw [a4, hd, fb_sm_succ, v1]
  · obtain ⟨v, hv⟩ : ∃ v, tv d = v + 2 := ⟨tv d - 2, by omega⟩
    have z : R (R k 4) 0 = 18 := Classical.byContradiction fun z => v1 (s7 z)
    have lo := s6 z
    rw [hv] at s3 lo s5
    rw [show v + 2 - 1 = v + 1 by omega] at lo
    obtain ⟨n1, n2, n3, n4⟩ := (hN.2 (R k 4) (by omega)).2.1 u2
    have n2' : dep (R k 4 + 1) = d + 1 := by omega
    rw [u3] at n3 n4
    refine ⟨R k 4 + 1, upd t d (nI (v + 1)), upd loops (R k 4) (nI v), setW tv d (v + 1), by omega, ?_, ?_, fun d' h' => ?_, ?_⟩
    · rw [hd, n2', cls_s R (opn19 u2)]
      exact b14_again hT (by omega) (by omega) s2 (by omega) s3 s1
    · unfold X12_behindEnds_b2 X12_behindEnds_j75 X12_behindEnds_j76 X12_behindEnds_j95 X12_behindEnds_j111
      rw [z] at go
      simp (disch := omega) only [l_0, l_1, l_2, l_3, l_4, l_5, l_6, l_7, l_8, l_9, l_10, l_11, l_12, l_13, l_14, l_15, l_16, l_17, l_18, l_19, l_20, l_21, l_22, l_23, l_24, l_25, l_26, l_27, l_30, l_31, l_32, l_40, l_48, l_57, l_59, l_60, l_61, l_62, l_64, l_83, l_90, l_97, l_99, l_100, l_108, l_115, l_122, l_123, l_127, l_128, l_131, l_135, l_200, l_255, l_256, l_300, l_487, l_495, l_900, l_999, l_1000, l_1700, l_1792, l_1980, l_2048, l_2475, l_2970, l_3121, l_9999, l_10000, l_11351, l_65536, l_100000, l_1000000, ↓l_m1, l_neg, nI_add, pk_mul, pk_sub, q_leT, q_leF, q_ltT, q_ltF, q_eqT, q_eqF, q_m1e, q_m1e2, q_m1lt, q_m1le, q_m1nl, q_m1nle, q_m1s, q_ix, q_jat, q_jput, q_min1, q_min2, q_max1, q_max2, q_or0, q_0or, q_bs, if_true, if_false, true_and, and_true, false_and, and_false, not_true_eq_false, not_false_eq_true, eq_self, Bool.false_eq_true, q_z0, q_z1, g9, g0, g4, go, lo, Nat.add_sub_cancel]
    · rw [n2'] at h'
      by_cases y : d' = d
      · subst y
        rw [n3, pk_us, setW_s, a3, pk_us]
        exact ⟨s1, s2, rfl, by omega, by omega, fun _ => by rw [Nat.add_sub_cancel], fun w => absurd z w⟩
      · obtain ⟨y1, y2, y3, y4, y5, y6, y7⟩ := hS d' (by omega)
        have ee : enc (R k 4 + 1) d' = enc k d' := by rw [n4 d' (by omega), a2, u4 d' (by omega)]
        rw [ee, pk_un (by omega), setW_n (by omega), pk_un (ne d' (by omega))]
        exact ⟨y1, y2, y3, y4, y5, y6, y7⟩
    · rw [n2', hd, fb_sm_succ, fb_sm_succ, setW_s, hv, show fb_sm (setW tv d (v + 1)) d = fb_sm tv d from fb_sm_cong (fun j hj => setW_n (by omega))]; omega
theorem closes {F : Nat} {h0 p0 w0 : Int32} {C C1 : Cy} {tf df wk xf hf wf b e g : Nat → Int32} {M : Nat} {sd st mis unf clk : Int32} {R : Nat → Nat → Nat} {m : Nat} {dep : Nat → Nat} {enc : Nat → Nat → Nat} (hk : WK C1 R m wk g dep enc) :
    ∀ (σ k T : Nat) (t loops : Nat → Int32) (tv : Nat → Nat), k ≤ m → Stk R dep enc k b e t loops tv → fb_sm tv (dep k) = σ → T + σ < 1000000 →
    ∃ k' t' loops' tv' c, k' ≤ m ∧ (k' = m ∨ R k' 0 ≠ 19) ∧ Stk R dep enc k' b e t' loops' tv' ∧ fb_sm tv' (dep k') + c = σ ∧
      (∀ G v, iter (B14 F h0 p0 w0 C tf df M wk) G (lvS (nI (cls R k')) (nI (dep k')) (nI (T + c)) sd st (nI 0) mis unf clk b e t' xf hf wf) = some v → iter (B14 F h0 p0 w0 C tf df M wk) (G + c) (lvS (nI (cls R k)) (nI (dep k)) (nI T) sd st (nI 0) mis unf clk b e t xf hf wf) = some v) ∧
      (∀ G, c < G → iter (X12_behindEnds_b2 F g) G (nI k, loops) = some (nI k', loops')) := by
  have g9 := hk.2.2.2.2.1
  have m60 := hk.1
  intro σ
  induction σ with
  | zero =>
    intro k T t loops tv hkm hS hσ hT
    have nc : k = m ∨ R k 0 ≠ 19 := by
      by_cases z : k = m
      · exact Or.inl z
      · refine Or.inr (fun h19 => ?_)
        obtain ⟨_, _, _, _, _, _, hN, _⟩ := hk
        obtain ⟨a1, _⟩ := (hN.2 k (by omega)).2.2.1 h19
        obtain ⟨d, hd⟩ : ∃ d, dep k = d + 1 := ⟨dep k - 1, by omega⟩
        have := (hS d (by omega)).2.2.2.1
        rw [hd, fb_sm_succ] at hσ; omega
    refine ⟨k, t, loops, tv, 0, hkm, nc, hS, hσ, fun G v h => h, fun G hG => ?_⟩
    obtain ⟨G, rfl⟩ : ∃ G', G = G' + 1 := ⟨G - 1, by omega⟩
    refine iter_r ?_ G
    unfold X12_behindEnds_b2
    rcases nc with z | z
    · subst z; simp (disch := omega) only [l_0, l_1, l_2, l_3, l_4, l_5, l_6, l_7, l_8, l_9, l_10, l_11, l_12, l_13, l_14, l_15, l_16, l_17, l_18, l_19, l_20, l_21, l_22, l_23, l_24, l_25, l_26, l_27, l_30, l_31, l_32, l_40, l_48, l_57, l_59, l_60, l_61, l_62, l_64, l_83, l_90, l_97, l_99, l_100, l_108, l_115, l_122, l_123, l_127, l_128, l_131, l_135, l_200, l_255, l_256, l_300, l_487, l_495, l_900, l_999, l_1000, l_1700, l_1792, l_1980, l_2048, l_2475, l_2970, l_3121, l_9999, l_10000, l_11351, l_65536, l_100000, l_1000000, ↓l_m1, l_neg, nI_add, pk_mul, pk_sub, q_leT, q_leF, q_ltT, q_ltF, q_eqT, q_eqF, q_m1e, q_m1e2, q_m1lt, q_m1le, q_m1nl, q_m1nle, q_m1s, q_ix, q_jat, q_jput, q_min1, q_min2, q_max1, q_max2, q_or0, q_0or, q_bs, if_true, if_false, true_and, and_true, false_and, and_false, not_true_eq_false, not_false_eq_true, eq_self, Bool.false_eq_true, q_z0, q_z1, g9]
    · by_cases y : k = m
      · subst y; simp (disch := omega) only [l_0, l_1, l_2, l_3, l_4, l_5, l_6, l_7, l_8, l_9, l_10, l_11, l_12, l_13, l_14, l_15, l_16, l_17, l_18, l_19, l_20, l_21, l_22, l_23, l_24, l_25, l_26, l_27, l_30, l_31, l_32, l_40, l_48, l_57, l_59, l_60, l_61, l_62, l_64, l_83, l_90, l_97, l_99, l_100, l_108, l_115, l_122, l_123, l_127, l_128, l_131, l_135, l_200, l_255, l_256, l_300, l_487, l_495, l_900, l_999, l_1000, l_1700, l_1792, l_1980, l_2048, l_2475, l_2970, l_3121, l_9999, l_10000, l_11351, l_65536, l_100000, l_1000000, ↓l_m1, l_neg, nI_add, pk_mul, pk_sub, q_leT, q_leF, q_ltT, q_ltF, q_eqT, q_eqF, q_m1e, q_m1e2, q_m1lt, q_m1le, q_m1nl, q_m1nle, q_m1s, q_ix, q_jat, q_jput, q_min1, q_min2, q_max1, q_max2, q_or0, q_0or, q_bs, if_true, if_false, true_and, and_true, false_and, and_false, not_true_eq_false, not_false_eq_true, eq_self, Bool.false_eq_true, q_z0, q_z1, g9]
      · have g0 : g (127 + 6 * k) = nI (R k 0) := hk.2.2.2.2.2.1 k 0 (by omega) (by omega) (by omega)
        have rl := row_le (hk.2.2.1 k (by omega))
        simp (disch := omega) only [l_0, l_1, l_2, l_3, l_4, l_5, l_6, l_7, l_8, l_9, l_10, l_11, l_12, l_13, l_14, l_15, l_16, l_17, l_18, l_19, l_20, l_21, l_22, l_23, l_24, l_25, l_26, l_27, l_30, l_31, l_32, l_40, l_48, l_57, l_59, l_60, l_61, l_62, l_64, l_83, l_90, l_97, l_99, l_100, l_108, l_115, l_122, l_123, l_127, l_128, l_131, l_135, l_200, l_255, l_256, l_300, l_487, l_495, l_900, l_999, l_1000, l_1700, l_1792, l_1980, l_2048, l_2475, l_2970, l_3121, l_9999, l_10000, l_11351, l_65536, l_100000, l_1000000, ↓l_m1, l_neg, nI_add, pk_mul, pk_sub, q_leT, q_leF, q_ltT, q_ltF, q_eqT, q_eqF, q_m1e, q_m1e2, q_m1lt, q_m1le, q_m1nl, q_m1nle, q_m1s, q_ix, q_jat, q_jput, q_min1, q_min2, q_max1, q_max2, q_or0, q_0or, q_bs, if_true, if_false, true_and, and_true, false_and, and_false, not_true_eq_false, not_false_eq_true, eq_self, Bool.false_eq_true, q_z0, q_z1, g9, g0]
  | succ σ ih =>
    intro k T t loops tv hkm hS hσ hT
    by_cases nc : k = m ∨ R k 0 ≠ 19
    · refine ⟨k, t, loops, tv, 0, hkm, nc, hS, hσ, fun G v h => h, fun G hG => ?_⟩
      obtain ⟨G, rfl⟩ : ∃ G', G = G' + 1 := ⟨G - 1, by omega⟩
      refine iter_r ?_ G
      unfold X12_behindEnds_b2
      rcases nc with z | z
      · subst z; simp (disch := omega) only [l_0, l_1, l_2, l_3, l_4, l_5, l_6, l_7, l_8, l_9, l_10, l_11, l_12, l_13, l_14, l_15, l_16, l_17, l_18, l_19, l_20, l_21, l_22, l_23, l_24, l_25, l_26, l_27, l_30, l_31, l_32, l_40, l_48, l_57, l_59, l_60, l_61, l_62, l_64, l_83, l_90, l_97, l_99, l_100, l_108, l_115, l_122, l_123, l_127, l_128, l_131, l_135, l_200, l_255, l_256, l_300, l_487, l_495, l_900, l_999, l_1000, l_1700, l_1792, l_1980, l_2048, l_2475, l_2970, l_3121, l_9999, l_10000, l_11351, l_65536, l_100000, l_1000000, ↓l_m1, l_neg, nI_add, pk_mul, pk_sub, q_leT, q_leF, q_ltT, q_ltF, q_eqT, q_eqF, q_m1e, q_m1e2, q_m1lt, q_m1le, q_m1nl, q_m1nle, q_m1s, q_ix, q_jat, q_jput, q_min1, q_min2, q_max1, q_max2, q_or0, q_0or, q_bs, if_true, if_false, true_and, and_true, false_and, and_false, not_true_eq_false, not_false_eq_true, eq_self, Bool.false_eq_true, q_z0, q_z1, g9]
      · by_cases y : k = m
        · subst y; simp (disch := omega) only [l_0, l_1, l_2, l_3, l_4, l_5, l_6, l_7, l_8, l_9, l_10, l_11, l_12, l_13, l_14, l_15, l_16, l_17, l_18, l_19, l_20, l_21, l_22, l_23, l_24, l_25, l_26, l_27, l_30, l_31, l_32, l_40, l_48, l_57, l_59, l_60, l_61, l_62, l_64, l_83, l_90, l_97, l_99, l_100, l_108, l_115, l_122, l_123, l_127, l_128, l_131, l_135, l_200, l_255, l_256, l_300, l_487, l_495, l_900, l_999, l_1000, l_1700, l_1792, l_1980, l_2048, l_2475, l_2970, l_3121, l_9999, l_10000, l_11351, l_65536, l_100000, l_1000000, ↓l_m1, l_neg, nI_add, pk_mul, pk_sub, q_leT, q_leF, q_ltT, q_ltF, q_eqT, q_eqF, q_m1e, q_m1e2, q_m1lt, q_m1le, q_m1nl, q_m1nle, q_m1s, q_ix, q_jat, q_jput, q_min1, q_min2, q_max1, q_max2, q_or0, q_0or, q_bs, if_true, if_false, true_and, and_true, false_and, and_false, not_true_eq_false, not_false_eq_true, eq_self, Bool.false_eq_true, q_z0, q_z1, g9]
        · have g0 : g (127 + 6 * k) = nI (R k 0) := hk.2.2.2.2.2.1 k 0 (by omega) (by omega) (by omega)
          have rl := row_le (hk.2.2.1 k (by omega))
          simp (disch := omega) only [l_0, l_1, l_2, l_3, l_4, l_5, l_6, l_7, l_8, l_9, l_10, l_11, l_12, l_13, l_14, l_15, l_16, l_17, l_18, l_19, l_20, l_21, l_22, l_23, l_24, l_25, l_26, l_27, l_30, l_31, l_32, l_40, l_48, l_57, l_59, l_60, l_61, l_62, l_64, l_83, l_90, l_97, l_99, l_100, l_108, l_115, l_122, l_123, l_127, l_128, l_131, l_135, l_200, l_255, l_256, l_300, l_487, l_495, l_900, l_999, l_1000, l_1700, l_1792, l_1980, l_2048, l_2475, l_2970, l_3121, l_9999, l_10000, l_11351, l_65536, l_100000, l_1000000, ↓l_m1, l_neg, nI_add, pk_mul, pk_sub, q_leT, q_leF, q_ltT, q_ltF, q_eqT, q_eqF, q_m1e, q_m1e2, q_m1lt, q_m1le, q_m1nl, q_m1nle, q_m1s, q_ix, q_jat, q_jput, q_min1, q_min2, q_max1, q_max2, q_or0, q_0or, q_bs, if_true, if_false, true_and, and_true, false_and, and_false, not_true_eq_false, not_false_eq_true, eq_self, Bool.false_eq_true, q_z0, q_z1, g9, g0]
    · have hkm2 : k < m := by
        by_cases z : k = m
        · exact absurd (Or.inl z) nc
        · omega
      have h19 : R k 0 = 19 := Classical.byContradiction fun z => nc (Or.inr z)
      obtain ⟨k1, t1, l1, v1, b1, b2, b3, b4, b5⟩ := close1 (F := F) (h0 := h0) (p0 := p0) (w0 := w0) (C := C) (tf := tf) (df := df) (xf := xf) (hf := hf) (wf := wf) (M := M) (sd := sd) (st := st) (mis := mis) (unf := unf) (clk := clk) hk hkm2 h19 hS (show T < 1000000 by omega)
      obtain ⟨k', t', l', v', c, c1, c2, c3, c4, c5, c6⟩ := ih k1 (T + 1) t1 l1 v1 b1 b4 (by omega) (by omega)
      refine ⟨k', t', l', v', c + 1, c1, c2, c3, by omega, fun G v h => ?_, fun G hG => ?_⟩
      · rw [show G + (c + 1) = (G + c) + 1 by omega, iter_l b2]
        refine c5 G v ?_
        rw [show T + 1 + c = T + (c + 1) by omega]; exact h
      · obtain ⟨G, rfl⟩ : ∃ G', G = G' + 1 := ⟨G - 1, by omega⟩
        rw [iter_l b3]
        exact c6 G (by omega)
