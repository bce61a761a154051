/-! ===== PURE 19.e: weeks gone through on both sides ===== -/
def lvH (v : (Int32 × Int32 × (Nat → Int32) × (Nat → Int32) × (Nat → Int32) × (Nat → Int32)) ⊕ (Int32 × Int32 × (Nat → Int32) × (Nat → Int32) × (Nat → Int32) × (Nat → Int32)) ⊕ (Int32 × Int32 × (Nat → Int32) × (Nat → Int32) × (Nat → Int32) × (Nat → Int32))) : Option (Int32 × Int32 × (Nat → Int32) × (Nat → Int32) × (Nat → Int32) × (Nat → Int32)) :=
  Sum.elim (fun (e32 : Int32 × Int32 × (Nat → Int32) × (Nat → Int32) × (Nat → Int32) × (Nat → Int32)) =>
    if ix 4 5 then
  some (e32.1, e32.2.1, e32.2.2.1, e32.2.2.2.1, e32.2.2.2.2.1, (jput e32.2.2.2.2.2 4 1))
  else none) (Sum.elim (fun (e32 : Int32 × Int32 × (Nat → Int32) × (Nat → Int32) × (Nat → Int32) × (Nat → Int32)) =>
    some (e32.1, e32.2.1, e32.2.2.1, e32.2.2.2.1, e32.2.2.2.2.1, e32.2.2.2.2.2)) (fun (e32 : Int32 × Int32 × (Nat → Int32) × (Nat → Int32) × (Nat → Int32) × (Nat → Int32)) =>
    some (e32.1, e32.2.1, e32.2.2.1, e32.2.2.2.1, e32.2.2.2.2.1, e32.2.2.2.2.2))) v
abbrev mSt : Type := Int32 × Int32 × Int32 × (Nat → Int32) × (Nat → Int32) × (Nat → Int32) × (Nat → Int32)
def Sim (F : Nat) (h0 p0 w0 : Int32) (C0 : Cy) (tf df : Nat → Int32) (M : Nat) (wk g0 : Nat → Int32) (j : Nat) (cst : vS) (mst : mSt) : Prop :=
  ∃ (D : Cy) (s' n' N : Nat) (mis' unf : Int32) (b' e' t' xf' hf' wf' g' f' loops' ran' : Nat → Int32), N ≤ 500 * (j + 1) ∧
    iter (B14 F h0 p0 w0 C0 tf df M wk) N cst = some (mkS [nI s', nI n', nI 1, mis', unf, nI (D 0 0 8)] [] [b', e', t', xf', hf', wf'] []) ∧
    (∀ G, j + 1 < G → (iter (X12_lives_b32 F) G mst).bind lvH = some (nI s', nI n', g', f', loops', ran')) ∧
    CX D xf' ∧ CH D hf' ∧ CW D wf' ∧ MS D g' ∧ Fr g0 g' ∧ Dv C0 D ∧ TL C0 D ran' ∧ ran' 0 = mis' ∧ ran' 4 = unf
theorem WK_fr {C : Cy} {R : Nat → Nat → Nat} {m : Nat} {wk g g2 : Nat → Int32} {dep : Nat → Nat} {enc : Nat → Nat → Nat} (h : WK C R m wk g dep enc) (hf : Fr g g2) : WK C R m wk g2 dep enc := by
  obtain ⟨a1, a2, a3, a4, a5, a6, a7, a8⟩ := h
  exact ⟨a1, a2, a3, a4, by rw [hf 9 (Or.inl rfl)]; exact a5, fun q c hq hc h3 => by rw [hf _ (Or.inr (by omega))]; exact a6 q c hq hc h3, a7, a8⟩
theorem RowOk_dv {C0 C : Cy} {R : Nat → Nat → Nat} {q : Nat} (dv : Dv C0 C) (h : RowOk C0 R q) : RowOk C R q := by
  unfold RowOk at h ⊢
  rw [dv.2.2.2.2 0 (by omega), dv.2.2.2.2 2 (by omega), dv.2.2.2.2 3 (by omega), dv.2.2.2.2 4 (by omega)]; exact h
theorem TL_up {C0 C : Cy} {ran : Nat → Int32} {k : Nat} {v : Int32} (h : TL C0 C ran) (hk : k = 0 ∨ k = 4) : TL C0 C (upd ran k v) := by
  unfold TL at h ⊢
  rw [pk_un (by omega), pk_un (by omega), pk_un (by omega)]; exact h
/-- behind a step: its ends, and what follows -/
theorem sim_after {F : Nat} {h0 p0 w0 : Int32} {C0 D : Cy} {tf df wk g0 : Nat → Int32} {R : Nat → Nat → Nat} {m : Nat} {dep : Nat → Nat} {enc : Nat → Nat → Nat} {j n : Nat} (hF : 200000 < F) (hn : n < 300)
    {k T s : Nat} {b e t xf hf wf g f loops ran : Nat → Int32} {tv : Nat → Nat} {mis : Int32} {cst : vS} {mst : mSt}
    (ih : ∀ (k s T : Nat) (t loops : Nat → Int32) (tv : Nat → Nat), k ≤ m → (k = m ∨ R k 0 ≠ 19) → s < 65536 → Stk R dep enc k b e t loops tv → T + fb_sm tv (dep k) ≤ 100 * (n + 1) → Sim F h0 p0 w0 C0 tf df (cls R m) wk g0 j (lvS (nI (cls R k)) (nI (dep k)) (nI T) (nI s) (nI (n + 1)) (nI 0) mis (nI 0) (nI (D 0 0 8)) b e t xf hf wf) (nI k, nI s, nI (n + 1), g, f, loops, ran))
    (hk : WK C0 R m wk g dep enc) (hkm : k ≤ m) (hs : s < 65536) (hS : Stk R dep enc k b e t loops tv) (hT : T + fb_sm tv (dep k) ≤ 100 * (n + 1)) (hd : fb_sm tv (dep k) ≤ 297)
    (hc : B14 F h0 p0 w0 C0 tf df (cls R m) wk cst = some (.inl (lvS (nI (cls R k)) (nI (dep k)) (nI T) (nI s) (nI (n + 1)) (nI 0) mis (nI 0) (nI (D 0 0 8)) b e t xf hf wf)))
    (hm : X12_lives_b32 F mst = (X12_behindEnds F g loops (nI k)).bind fun u => some (.inl (u.1, nI s, nI (n + 1), g, f, u.2, ran))) : Sim F h0 p0 w0 C0 tf df (cls R m) wk g0 (j + 1) cst mst := by
  obtain ⟨k', t', l', tv', c, c1, c2, c3, c4, c5, c6⟩ := closes (F := F) (h0 := h0) (p0 := p0) (w0 := w0) (C := C0) (tf := tf) (df := df) (xf := xf) (hf := hf) (wf := wf) (M := cls R m) (sd := nI s) (st := nI (n + 1)) (mis := mis) (unf := nI 0) (clk := nI (D 0 0 8)) hk (fb_sm tv (dep k)) k T t loops tv hkm hS rfl (by omega)
  obtain ⟨E, s2, n2, N, mis2, unf2, b2, e2, t2, x2, h2, w2, g2, f2, l2, r2, d1, d2, d3, d4⟩ := ih k' s (T + c) t' l' tv' c1 c2 hs c3 (by omega)
  refine ⟨E, s2, n2, N + c + 1, mis2, unf2, b2, e2, t2, x2, h2, w2, g2, f2, l2, r2, by omega, ?_, fun G hG => ?_, d4⟩
  · rw [iter_l hc]; exact c5 N _ d2
  · obtain ⟨G, rfl⟩ : ∃ G', G = G' + 1 := ⟨G - 1, by omega⟩
    have hb : X12_lives_b32 F mst = some (.inl (nI k', nI s, nI (n + 1), g, f, l', ran)) := by
      rw [hm]; unfold X12_behindEnds
      rw [c6 F (by omega), q_bs, q_bs]
    rw [iter_l hb]
    exact d3 G (by omega)
theorem sm_le {tv : Nat → Nat} {B : Nat} : ∀ n, (∀ d, d < n → tv d ≤ B) → fb_sm tv n ≤ n * B
  | 0, _ => by rw [Nat.zero_mul]; exact Nat.le_refl _
  | n + 1, h => by
    have i := sm_le n (fun d hd => h d (by omega))
    have := h n (by omega)
    rw [fb_sm_succ, Nat.succ_mul]; omega
theorem stk_sm {R : Nat → Nat → Nat} {dep : Nat → Nat} {enc : Nat → Nat → Nat} {k : Nat} {b e t loops : Nat → Int32} {tv : Nat → Nat} (h : Stk R dep enc k b e t loops tv) (hd : dep k ≤ 3) : fb_sm tv (dep k) ≤ 297 := by
  have i := sm_le (dep k) (fun d hd => (h d hd).2.2.2.2.1)
  have : dep k * 99 ≤ 3 * 99 := Nat.mul_le_mul_right _ hd
  omega
theorem sim {F : Nat} {h0 p0 w0 : Int32} {C0 : Cy} {tf df wk g0 : Nat → Int32} {R : Nat → Nat → Nat} {m : Nat} {dep : Nat → Nat} {enc : Nat → Nat → Nat} (hF : 200000 < F) (hT0 : CT C0 tf) (hD0 : CF C0 df) :
    ∀ (j n : Nat), n + j = 300 → ∀ (C : Cy) (k s T : Nat) (b e t xf hf wf g f loops ran : Nat → Int32) (tv : Nat → Nat) (mis : Int32),
    WK C0 R m wk g dep enc → k ≤ m → (k = m ∨ R k 0 ≠ 19) → Dv C0 C → CX C xf → CH C hf → CW C wf → MS C g → Fr g0 g → TL C0 C ran → s < 65536 → ran 0 = mis → ran 4 = nI 0 →
    Stk R dep enc k b e t loops tv → T + fb_sm tv (dep k) ≤ 100 * n →
    Sim F h0 p0 w0 C0 tf df (cls R m) wk g0 j (lvS (nI (cls R k)) (nI (dep k)) (nI T) (nI s) (nI n) (nI 0) mis (nI 0) (nI (C 0 0 8)) b e t xf hf wf) (nI k, nI s, nI n, g, f, loops, ran) := by
  intro j
  induction j with
  | zero =>
    intro n hn C k s T b e t xf hf wf g f loops ran tv mis hk hkm nc dv hX hH hW hM hfr tl hs r0 r4 hS hT
    obtain ⟨m60, c30, ro, cr, g9, wg, hN, hd0⟩ := hk
    by_cases km : k = m
    · subst km
      refine ⟨C, s, n, 2, mis, nI 0, b, e, t, xf, hf, wf, g, f, loops, ran, by omega, ?_, fun G hG => ?_, hX, hH, hW, hM, hfr, dv, tl, r0, r4⟩
      · have a1 := b14_j90 (F := F) (h0 := h0) (p0 := p0) (w0 := w0) (C := C0) (tf := tf) (df := df) (wk := wk) (xf := xf) (hf := hf) (wf := wf) (b := b) (e := e) (t := t) (M := cls R k) (sd := nI s) (st := nI n) (mis := mis) (unf := nI 0) (clk := nI (C 0 0 8)) (i := cls R k) (d := dep k) (T := T) (by omega) (by omega) (Or.inl hd0)
        rw [j90_end (by omega)] at a1
        rw [iter_l a1, iter_r (b14_over (by omega))]
      · obtain ⟨G, rfl⟩ : ∃ G', G = G' + 1 := ⟨G - 1, by omega⟩
        have : X12_lives_b32 F (nI k, nI s, nI n, g, f, loops, ran) = some (.inr (.inr (.inr (nI s, nI n, g, f, loops, ran)))) := by
          unfold X12_lives_b32
          simp (disch := omega) only [l_0, l_1, l_2, l_3, l_4, l_5, l_6, l_7, l_8, l_9, l_10, l_11, l_12, l_13, l_14, l_15, l_16, l_17, l_18, l_19, l_20, l_21, l_22, l_23, l_24, l_25, l_26, l_27, l_30, l_31, l_32, l_40, l_48, l_57, l_59, l_60, l_61, l_62, l_64, l_83, l_90, l_97, l_99, l_100, l_108, l_115, l_122, l_123, l_127, l_128, l_131, l_135, l_200, l_255, l_256, l_300, l_487, l_495, l_900, l_999, l_1000, l_1700, l_1792, l_1980, l_2048, l_2475, l_2970, l_3121, l_9999, l_10000, l_11351, l_65536, l_100000, l_1000000, ↓l_m1, l_neg, nI_add, pk_mul, pk_sub, q_leT, q_leF, q_ltT, q_ltF, q_eqT, q_eqF, q_m1e, q_m1e2, q_m1lt, q_m1le, q_m1nl, q_m1nle, q_m1s, q_ix, q_jat, q_jput, q_min1, q_min2, q_max1, q_max2, q_or0, q_0or, q_bs, if_true, if_false, true_and, and_true, false_and, and_false, not_true_eq_false, not_false_eq_true, eq_self, Bool.false_eq_true, q_z0, q_z1, g9]
        rw [iter_r this, q_bs]; rfl
    · have n3 : n = 300 := by omega
      subst n3
      have h19 : R k 0 ≠ 19 := nc.resolve_left km
      have cm := cls_mono R (show k + 1 ≤ m by omega)
      rw [cls_s R h19] at cm
      have d3 := dep3 hN hd0 hkm
      have hd : dep k = 0 ∨ ∃ d' c, dep k = d' + 1 ∧ d' < 3 ∧ e d' = nI c ∧ cls R k < c ∧ c < 100 := by
        by_cases z : dep k = 0
        · exact Or.inl z
        · refine Or.inr ⟨dep k - 1, cls R (R (enc k (dep k - 1)) 4), by omega, by omega, (hS (dep k - 1) (by omega)).2.1, ?_, ?_⟩
          · have nd := nest_dn hN hd0 (m - k) k (by omega) (dep k - 1) (by omega)
            have : R (enc k (dep k - 1)) 4 ≠ k := fun z2 => h19 (by rw [z2] at nd; exact nd.2.2.1)
            have := cls_mono R (show k + 1 ≤ R (enc k (dep k - 1)) 4 by omega)
            rw [cls_s R h19] at this; omega
          · have nd := nest_dn hN hd0 (m - k) k (by omega) (dep k - 1) (by omega)
            have := cls_mono R (show R (enc k (dep k - 1)) 4 ≤ m by omega); omega
      refine ⟨C, s, 300, 2, mis, nI 1, b, e, t, xf, hf, wf, g, f, loops, upd ran 4 (nI 1), by omega, ?_, fun G hG => ?_, hX, hH, hW, hM, hfr, dv, TL_up tl (Or.inr rfl), by rw [pk_un (by omega)]; exact r0, pk_us⟩
      · have a1 := b14_j90 (F := F) (h0 := h0) (p0 := p0) (w0 := w0) (C := C0) (tf := tf) (df := df) (wk := wk) (xf := xf) (hf := hf) (wf := wf) (b := b) (e := e) (t := t) (M := cls R m) (sd := nI s) (st := nI 300) (mis := mis) (unf := nI 0) (clk := nI (C 0 0 8)) (i := cls R k) (d := dep k) (T := T) (by omega) (by omega) hd
        rw [j90_300 (by omega) (by omega)] at a1
        rw [iter_l a1, iter_r (b14_over (by omega))]
      · obtain ⟨G, rfl⟩ : ∃ G', G = G' + 1 := ⟨G - 1, by omega⟩
        have : X12_lives_b32 F (nI k, nI s, nI 300, g, f, loops, ran) = some (.inr (.inl (nI s, nI 300, g, f, loops, ran))) := by
          unfold X12_lives_b32
          simp (disch := omega) only [l_0, l_1, l_2, l_3, l_4, l_5, l_6, l_7, l_8, l_9, l_10, l_11, l_12, l_13, l_14, l_15, l_16, l_17, l_18, l_19, l_20, l_21, l_22, l_23, l_24, l_25, l_26, l_27, l_30, l_31, l_32, l_40, l_48, l_57, l_59, l_60, l_61, l_62, l_64, l_83, l_90, l_97, l_99, l_100, l_108, l_115, l_122, l_123, l_127, l_128, l_131, l_135, l_200, l_255, l_256, l_300, l_487, l_495, l_900, l_999, l_1000, l_1700, l_1792, l_1980, l_2048, l_2475, l_2970, l_3121, l_9999, l_10000, l_11351, l_65536, l_100000, l_1000000, ↓l_m1, l_neg, nI_add, pk_mul, pk_sub, q_leT, q_leF, q_ltT, q_ltF, q_eqT, q_eqF, q_m1e, q_m1e2, q_m1lt, q_m1le, q_m1nl, q_m1nle, q_m1s, q_ix, q_jat, q_jput, q_min1, q_min2, q_max1, q_max2, q_or0, q_0or, q_bs, if_true, if_false, true_and, and_true, false_and, and_false, not_true_eq_false, not_false_eq_true, eq_self, Bool.false_eq_true, q_z0, q_z1, g9]
        rw [iter_r this, q_bs]; rfl
  | succ j ih =>
    intro n hn C k s T b e t xf hf wf g f loops ran tv mis hk hkm nc dv hX hH hW hM hfr tl hs r0 r4 hS hT
    have hk' := hk
    obtain ⟨m60, c30, ro, cr, g9, wg, hN, hd0⟩ := hk
    by_cases km : k = m
    · subst km
      refine ⟨C, s, n, 2, mis, nI 0, b, e, t, xf, hf, wf, g, f, loops, ran, by omega, ?_, fun G hG => ?_, hX, hH, hW, hM, hfr, dv, tl, r0, r4⟩
      · have a1 := b14_j90 (F := F) (h0 := h0) (p0 := p0) (w0 := w0) (C := C0) (tf := tf) (df := df) (wk := wk) (xf := xf) (hf := hf) (wf := wf) (b := b) (e := e) (t := t) (M := cls R k) (sd := nI s) (st := nI n) (mis := mis) (unf := nI 0) (clk := nI (C 0 0 8)) (i := cls R k) (d := dep k) (T := T) (by omega) (by omega) (Or.inl hd0)
        rw [j90_end (by omega)] at a1
        rw [iter_l a1, iter_r (b14_over (by omega))]
      · obtain ⟨G, rfl⟩ : ∃ G', G = G' + 1 := ⟨G - 1, by omega⟩
        have : X12_lives_b32 F (nI k, nI s, nI n, g, f, loops, ran) = some (.inr (.inr (.inr (nI s, nI n, g, f, loops, ran)))) := by
          unfold X12_lives_b32
          simp (disch := omega) only [l_0, l_1, l_2, l_3, l_4, l_5, l_6, l_7, l_8, l_9, l_10, l_11, l_12, l_13, l_14, l_15, l_16, l_17, l_18, l_19, l_20, l_21, l_22, l_23, l_24, l_25, l_26, l_27, l_30, l_31, l_32, l_40, l_48, l_57, l_59, l_60, l_61, l_62, l_64, l_83, l_90, l_97, l_99, l_100, l_108, l_115, l_122, l_123, l_127, l_128, l_131, l_135, l_200, l_255, l_256, l_300, l_487, l_495, l_900, l_999, l_1000, l_1700, l_1792, l_1980, l_2048, l_2475, l_2970, l_3121, l_9999, l_10000, l_11351, l_65536, l_100000, l_1000000, ↓l_m1, l_neg, nI_add, pk_mul, pk_sub, q_leT, q_leF, q_ltT, q_ltF, q_eqT, q_eqF, q_m1e, q_m1e2, q_m1lt, q_m1le, q_m1nl, q_m1nle, q_m1s, q_ix, q_jat, q_jput, q_min1, q_min2, q_max1, q_max2, q_or0, q_0or, q_bs, if_true, if_false, true_and, and_true, false_and, and_false, not_true_eq_false, not_false_eq_true, eq_self, Bool.false_eq_true, q_z0, q_z1, g9]
        rw [iter_r this, q_bs]; rfl
    have hkm2 : k < m := by omega
    have h19 : R k 0 ≠ 19 := nc.resolve_left km
    have cm := cls_mono R (show k + 1 ≤ m by omega)
    have cks := cls_s R h19
    rw [cks] at cm
    have d3 := dep3 hN hd0 hkm
    have sm := stk_sm hS d3
    have hd : dep k = 0 ∨ ∃ d' c, dep k = d' + 1 ∧ d' < 3 ∧ e d' = nI c ∧ cls R k < c ∧ c < 100 := by
      by_cases z : dep k = 0
      · exact Or.inl z
      · refine Or.inr ⟨dep k - 1, cls R (R (enc k (dep k - 1)) 4), by omega, by omega, (hS (dep k - 1) (by omega)).2.1, ?_, ?_⟩
        · have nd := nest_dn hN hd0 (m - k) k (by omega) (dep k - 1) (by omega)
          have : R (enc k (dep k - 1)) 4 ≠ k := fun z2 => h19 (by rw [z2] at nd; exact nd.2.2.1)
          have := cls_mono R (show k + 1 ≤ R (enc k (dep k - 1)) 4 by omega)
          rw [cls_s R h19] at this; omega
        · have nd := nest_dn hN hd0 (m - k) k (by omega) (dep k - 1) (by omega)
          have := cls_mono R (show R (enc k (dep k - 1)) 4 ≤ m by omega); omega
    have a1 := b14_j90 (F := F) (h0 := h0) (p0 := p0) (w0 := w0) (C := C0) (tf := tf) (df := df) (wk := wk) (xf := xf) (hf := hf) (wf := wf) (b := b) (e := e) (t := t) (M := cls R m) (sd := nI s) (st := nI n) (mis := mis) (unf := nI 0) (clk := nI (C 0 0 8)) (i := cls R k) (d := dep k) (T := T) (by omega) (by omega) hd
    have rok := RowOk_dv dv (ro k hkm2)
    have crk := cr k hkm2 h19
    have rl := row_le rok
    have cxt : Cxt C0 C R tf df xf hf wf wk (cls R m) g ran k s := ⟨dv, CT_s hT0 dv.2.2.2.1, CF_s hD0 dv.2.2.2.1, hX, hH, hW, hM, tl, hs, by omega, c30, crk, fun c hc h3 => wg k c hkm2 hc h3, by omega⟩
    have z0 := dv.2.2.2.2 0 (by omega)
    have z2 := dv.2.2.2.2 2 (by omega)
    have z3 := dv.2.2.2.2 3 (by omega)
    have z4 := dv.2.2.2.2 4 (by omega)
    have z5 := dv.2.2.2.2 5 (by omega)
    have z6 := dv.2.2.2.2 6 (by omega)
    have gk : g (127 + 6 * k) = nI (R k 0) := wg k 0 hkm2 (by omega) (by omega)
    have rv : jat ran 0 = mis := r0
    -- what both sides come to behind one step
    have fin : ∀ (D : Cy) (k' s' T' : Nat) (xf2 hf2 wf2 g2 f2 l2 r2 b2 e2 t2 : Nat → Int32) (tv2 : Nat → Nat) (mis2 : Int32), Fr g g2 → k' ≤ m → Dv C0 D → CX D xf2 → CH D hf2 → CW D wf2 → MS D g2 → TL C0 D r2 → s' < 65536 → r2 0 = mis2 → r2 4 = nI 0 → Stk R dep enc k' b2 e2 t2 l2 tv2 → T' = T + 1 → fb_sm tv2 (dep k') ≤ fb_sm tv (dep k) + 99 → dep k' ≤ 3 →
        B14 F h0 p0 w0 C0 tf df (cls R m) wk (lvS (nI (cls R k)) (nI (dep k)) (nI T) (nI s) (nI n) (nI 0) mis (nI 0) (nI (C 0 0 8)) b e t xf hf wf) = some (.inl (lvS (nI (cls R k')) (nI (dep k')) (nI T') (nI s') (nI (n + 1)) (nI 0) mis2 (nI 0) (nI (D 0 0 8)) b2 e2 t2 xf2 hf2 wf2)) →
        X12_lives_b32 F (nI k, nI s, nI n, g, f, loops, ran) = ((X12_behindEnds F g2 l2 (nI k')).bind fun u => some (.inl (u.1, nI s', nI (n + 1), g2, f2, u.2, r2))) →
        Sim F h0 p0 w0 C0 tf df (cls R m) wk g0 (j + 1) (lvS (nI (cls R k)) (nI (dep k)) (nI T) (nI s) (nI n) (nI 0) mis (nI 0) (nI (C 0 0 8)) b e t xf hf wf) (nI k, nI s, nI n, g, f, loops, ran) := by
      intro D k' s' T' xf2 hf2 wf2 g2 f2 l2 r2 b2 e2 t2 tv2 mis2 q1 q2 q3 q4 q5 q6 q7 q8 q9 q10 q11 q12 q13 q14 q15 q16 q17
      have wk2 := WK_fr hk' q1
      refine sim_after (D := D) (n := n) hF (by omega) (fun k s T t loops tv i1 i2 i3 i4 i5 => ih (n + 1) (by omega) D k s T b2 e2 t xf2 hf2 wf2 g2 f2 loops r2 tv mis2 wk2 i1 i2 q3 q4 q5 q6 q7 (Fr_t hfr q1) q8 i3 q10 q11 i4 i5) wk2 q2 q9 q12 (by omega) (stk_sm q12 q15) q16 q17
    have pl : ¬ opn (R k 0) → R k 0 ≠ 20 → Act F C0 C R tf df xf hf wf wk (cls R m) g f ran k s mis 0 (nI 0) → Sim F h0 p0 w0 C0 tf df (cls R m) wk g0 (j + 1) (lvS (nI (cls R k)) (nI (dep k)) (nI T) (nI s) (nI n) (nI 0) mis (nI 0) (nI (C 0 0 8)) b e t xf hf wf) (nI k, nI s, nI n, g, f, loops, ran) := by
      intro no no20 act
      obtain ⟨D, s', can, xf2, hf2, wf2, g2, f2, ran2, t1, t2, t3, t4, t5, t6, t7, t8, t9, t10, t11, t12⟩ := act
      rw [z0, z2, z3, z4, z5, z6] at t1
      have h5 := wk_get (c := 5) (M := cls R m) (show cls R k < cls R m by omega) c30 (by omega) (crk.2.2.2.2.2.2 no)
      have go := j90_go (F := F) (h0 := h0) (p0 := p0) (w0 := w0) (unf := nI 0) (b := b) (e := e) (t := t) (d := dep k) (T := T) (n := n) (show cls R k < cls R m by omega) (by omega) (by omega) (by omega) h5 t1
      rw [go, Nat.max_eq_left (by omega), ← cks] at a1
      obtain ⟨n1, n2⟩ := (hN.2 k hkm2).2.2.2 no h19
      have g2k : g2 (127 + 6 * k) = nI (R k 0) := by rw [t8 _ (Or.inr (by omega))]; exact gk
      have no18 : R k 0 ≠ 18 := fun z => no (Or.inl z)
      have no17 : R k 0 < 1700 := by
        by_cases z : 1700 ≤ R k 0
        · exact absurd (Or.inr z) no
        · omega
      refine fin D (k + 1) s' (T + 1) xf2 hf2 wf2 g2 f2 loops (upd ran2 0 (if can then mis else mis + nI 1)) b e t tv (if can then mis else mis + nI 1) t8 (by omega) t9 t4 t5 t6 t7 (TL_up t10 (Or.inl rfl)) t3 pk_us (by rw [pk_un (by omega), t12]; exact r4) (fun d hd' => ?_) rfl (by rw [n1]; omega) (by omega) ?_ ?_
      · rw [n1] at hd'
        rw [n2 d hd']; exact hS d hd'
      · rw [n1]; exact a1
      · unfold X12_lives_b32 X12_lives_j111 X12_lives_j140 X12_lives_j174 X12_lives_j177
        cases can with
        | true =>
          rw [zb_t] at t2
          have m0 : mis + nI 0 = mis := by rw [show nI 0 = (0 : Int32) from rfl, Int32.add_zero]
          simp (disch := omega) only [l_0, l_1, l_2, l_3, l_4, l_5, l_6, l_7, l_8, l_9, l_10, l_11, l_12, l_13, l_14, l_15, l_16, l_17, l_18, l_19, l_20, l_21, l_22, l_23, l_24, l_25, l_26, l_27, l_30, l_31, l_32, l_40, l_48, l_57, l_59, l_60, l_61, l_62, l_64, l_83, l_90, l_97, l_99, l_100, l_108, l_115, l_122, l_123, l_127, l_128, l_131, l_135, l_200, l_255, l_256, l_300, l_487, l_495, l_900, l_999, l_1000, l_1700, l_1792, l_1980, l_2048, l_2475, l_2970, l_3121, l_9999, l_10000, l_11351, l_65536, l_100000, l_1000000, ↓l_m1, l_neg, nI_add, pk_mul, pk_sub, q_leT, q_leF, q_ltT, q_ltF, q_eqT, q_eqF, q_m1e, q_m1e2, q_m1lt, q_m1le, q_m1nl, q_m1nle, q_m1s, q_ix, q_jat, q_jput, q_min1, q_min2, q_max1, q_max2, q_or0, q_0or, q_bs, if_true, if_false, true_and, and_true, false_and, and_false, not_true_eq_false, not_false_eq_true, eq_self, Bool.false_eq_true, q_z0, q_z1, g9, gk, t2, g2k, r0, m0]
        | false =>
          rw [zb_f] at t2
          simp (disch := omega) only [l_0, l_1, l_2, l_3, l_4, l_5, l_6, l_7, l_8, l_9, l_10, l_11, l_12, l_13, l_14, l_15, l_16, l_17, l_18, l_19, l_20, l_21, l_22, l_23, l_24, l_25, l_26, l_27, l_30, l_31, l_32, l_40, l_48, l_57, l_59, l_60, l_61, l_62, l_64, l_83, l_90, l_97, l_99, l_100, l_108, l_115, l_122, l_123, l_127, l_128, l_131, l_135, l_200, l_255, l_256, l_300, l_487, l_495, l_900, l_999, l_1000, l_1700, l_1792, l_1980, l_2048, l_2475, l_2970, l_3121, l_9999, l_10000, l_11351, l_65536, l_100000, l_1000000, ↓l_m1, l_neg, nI_add, pk_mul, pk_sub, q_leT, q_leF, q_ltT, q_ltF, q_eqT, q_eqF, q_m1e, q_m1e2, q_m1lt, q_m1le, q_m1nl, q_m1nle, q_m1s, q_ix, q_jat, q_jput, q_min1, q_min2, q_max1, q_max2, q_or0, q_0or, q_bs, if_true, if_false, true_and, and_true, false_and, and_false, not_true_eq_false, not_false_eq_true, eq_self, Bool.false_eq_true, q_z0, q_z1, g9, gk, t2, g2k, r0]
    have opens : opn (R k 0) → k + 1 ≤ R k 4 ∧ R k 4 < m ∧ R (R k 4) 0 = 19 ∧ dep (R k 4 + 1) = dep k ∧ (∀ d, d < dep k → enc (R k 4 + 1) d = enc k d) ∧ dep k < 3 ∧ dep (k + 1) = dep k + 1 ∧ enc (k + 1) (dep k) = k ∧ (∀ d, d < dep k → enc (k + 1) d = enc k d) ∧ cls R k + 1 ≤ cls R (R k 4) ∧ cls R (R k 4) < 100 := by
      intro ho
      obtain ⟨n1, n2, n3, n4⟩ := (hN.2 k hkm2).2.1 ho
      have nd := nest_dn hN hd0 (m - (k + 1)) (k + 1) (by omega) (dep k) (by omega)
      rw [n3] at nd
      obtain ⟨y1, y2, y3, y4, y5, y6, y7⟩ := nd
      obtain ⟨x1, x2, x3, x4, x5⟩ := (hN.2 (R k 4) y2).2.2.1 y3
      have cc := cls_mono R y1
      have cc2 := cls_mono R (show R k 4 ≤ m by omega)
      rw [cks] at cc
      exact ⟨y1, y2, y3, by omega, fun d hd' => by rw [x5 d (by omega), y7 d hd', n4 d hd'], n1, n2, n3, n4, cc, by omega⟩
    have push : ∀ (D : Cy) (s' v : Nat) (xf2 hf2 wf2 g2 f2 l2 r2 : Nat → Int32), opn (R k 0) → Fr g g2 → Dv C0 D → CX D xf2 → CH D hf2 → CW D wf2 → MS D g2 → TL C0 D r2 → s' < 65536 → r2 0 = mis → r2 4 = nI 0 → 1 ≤ v → v ≤ 99 →
        X2_timesOf F (nI s) (nI 0) mis (nI (C0 0 0 5)) (nI (C0 0 0 6)) (nI (C 0 0 8)) (nI (C0 0 0 0)) tf df (nI (C0 0 0 2)) xf (nI (C0 0 0 3)) hf (nI (C0 0 0 4)) wf (nI (cls R m)) wk (nI (cls R k)) = some (nI v, nI s', nI 0, mis, nI (D 0 0 8), xf2, hf2, wf2) →
        (R k 0 = 18 → l2 k = nI (v - 1)) → (R k 0 ≠ 18 → v = 1) → (∀ i, i ≠ k → l2 i = loops i) →
        X12_lives_b32 F (nI k, nI s, nI n, g, f, loops, ran) = ((X12_behindEnds F g2 l2 (nI (k + 1))).bind fun u => some (.inl (u.1, nI s', nI (n + 1), g2, f2, u.2, r2))) →
        Sim F h0 p0 w0 C0 tf df (cls R m) wk g0 (j + 1) (lvS (nI (cls R k)) (nI (dep k)) (nI T) (nI s) (nI n) (nI 0) mis (nI 0) (nI (C 0 0 8)) b e t xf hf wf) (nI k, nI s, nI n, g, f, loops, ran) := by
      intro D s' v xf2 hf2 wf2 g2 f2 l2 r2 ho q1 q3 q4 q5 q6 q7 q8 q9 q10 q11 v1 v99 tt l18 ln lo mm
      obtain ⟨y1, y2, y3, y4, y5, y6, y7, y8, y9, y10, y11⟩ := opens ho
      have h5 := wk_get (c := 5) (M := cls R m) (show cls R k < cls R m by omega) c30 (by omega) (crk.2.2.2.2.2.1 ho)
      have go := j90_push (F := F) (h0 := h0) (p0 := p0) (w0 := w0) (unf := nI 0) (b := b) (e := e) (t := t) (d := dep k) (T := T) (n := n) (show cls R k < cls R m by omega) (by omega) (by omega) y11 y10 v1 v99 y6 h5 tt
      rw [go, ← cks] at a1
      refine fin D (k + 1) s' (T + 1) xf2 hf2 wf2 g2 f2 l2 r2 (upd b (dep k) (nI (cls R (k + 1)))) (upd e (dep k) (nI (cls R (R k 4)))) (upd t (dep k) (nI v)) (setW tv (dep k) v) mis q1 (by omega) q3 q4 q5 q6 q7 q8 q9 q10 q11 (fun d hd' => ?_) rfl ?_ (by omega) ?_ mm
      · by_cases y : d = dep k
        · subst y
          rw [y8, pk_us, pk_us, pk_us, setW_s, cks]
          exact ⟨rfl, rfl, rfl, v1, v99, l18, ln⟩
        · have ed := y9 d (by omega)
          have uu := nest_up hN k (by omega) d (by omega)
          rw [ed, pk_un y, pk_un y, pk_un y, setW_n y, lo _ (by omega)]
          exact hS d (by omega)
      · rw [y7, fb_sm_succ, setW_s, show fb_sm (setW tv (dep k) v) (dep k) = fb_sm tv (dep k) from fb_sm_cong (fun i hi => setW_n (by omega))]; omega
      · rw [y7]; exact a1
    have g4 := wg k 4 hkm2 (by omega) (by omega)
    have g1 := wg k 1 hkm2 (by omega) (by omega)
    have whn : 1700 ≤ R k 0 → Sim F h0 p0 w0 C0 tf df (cls R m) wk g0 (j + 1) (lvS (nI (cls R k)) (nI (dep k)) (nI T) (nI s) (nI n) (nI 0) mis (nI 0) (nI (C 0 0 8)) b e t xf hf wf) (nI k, nI s, nI n, g, f, loops, ran) := by
      intro hw
      have ho : opn (R k 0) := Or.inr hw
      obtain ⟨bb, t1, t2, t3⟩ := act_when (F := F) (f := f) mis cxt hw rok
      rw [z0, z2, z3, z4, z5, z6] at t1
      have sr : ∀ i, upd ran 0 (ran 0 + nI 0) i = ran i := fun i => by
        by_cases z : i = 0
        · rw [z, pk_us, show nI 0 = (0 : Int32) from rfl, Int32.add_zero]
        · rw [pk_un z]
      cases bb with
      | true =>
        rw [zb_t] at t1 t3
        refine push C s 1 xf hf wf g f loops (upd ran 0 (ran 0 + nI 0)) ho (Fr_r g) dv hX hH hW hM (TL_up tl (Or.inl rfl)) hs (by rw [sr]; exact r0) (by rw [sr]; exact r4) (by omega) (by omega) t1 (fun z => by omega) (fun _ => rfl) (fun _ _ => rfl) ?_
        unfold X12_lives_b32 X12_lives_j111 X12_lives_j140 X12_lives_j174 X12_lives_j177
        simp (disch := omega) only [l_0, l_1, l_2, l_3, l_4, l_5, l_6, l_7, l_8, l_9, l_10, l_11, l_12, l_13, l_14, l_15, l_16, l_17, l_18, l_19, l_20, l_21, l_22, l_23, l_24, l_25, l_26, l_27, l_30, l_31, l_32, l_40, l_48, l_57, l_59, l_60, l_61, l_62, l_64, l_83, l_90, l_97, l_99, l_100, l_108, l_115, l_122, l_123, l_127, l_128, l_131, l_135, l_200, l_255, l_256, l_300, l_487, l_495, l_900, l_999, l_1000, l_1700, l_1792, l_1980, l_2048, l_2475, l_2970, l_3121, l_9999, l_10000, l_11351, l_65536, l_100000, l_1000000, ↓l_m1, l_neg, nI_add, pk_mul, pk_sub, q_leT, q_leF, q_ltT, q_ltF, q_eqT, q_eqF, q_m1e, q_m1e2, q_m1lt, q_m1le, q_m1nl, q_m1nle, q_m1s, q_ix, q_jat, q_jput, q_min1, q_min2, q_max1, q_max2, q_or0, q_0or, q_bs, if_true, if_false, true_and, and_true, false_and, and_false, not_true_eq_false, not_false_eq_true, eq_self, Bool.false_eq_true, q_z0, q_z1, g9, gk, t2, t3]
      | false =>
        rw [zb_f] at t1 t3
        obtain ⟨y1, y2, y3, y4, y5, y6, y7, y8, y9, y10, y11⟩ := opens ho
        have h5 := wk_get (c := 5) (M := cls R m) (show cls R k < cls R m by omega) c30 (by omega) (crk.2.2.2.2.2.1 ho)
        have go := j90_go (F := F) (h0 := h0) (p0 := p0) (w0 := w0) (unf := nI 0) (b := b) (e := e) (t := t) (d := dep k) (T := T) (n := n) (show cls R k < cls R m by omega) (by omega) (by omega) y11 h5 t1
        rw [go, Nat.max_eq_right y10, ← cls_c R y3] at a1
        refine fin C (R k 4 + 1) s (T + 1) xf hf wf g f loops (upd ran 0 (ran 0 + nI 0)) b e t tv mis (Fr_r g) (by omega) dv hX hH hW hM (TL_up tl (Or.inl rfl)) hs (by rw [sr]; exact r0) (by rw [sr]; exact r4) (fun d hd' => ?_) rfl (by rw [y4]; omega) (by omega) ?_ ?_
        · rw [y4] at hd'
          rw [y5 d hd']; exact hS d hd'
        · rw [y4]; exact a1
        · unfold X12_lives_b32 X12_lives_j111 X12_lives_j140 X12_lives_j174 X12_lives_j177
          simp (disch := omega) only [l_0, l_1, l_2, l_3, l_4, l_5, l_6, l_7, l_8, l_9, l_10, l_11, l_12, l_13, l_14, l_15, l_16, l_17, l_18, l_19, l_20, l_21, l_22, l_23, l_24, l_25, l_26, l_27, l_30, l_31, l_32, l_40, l_48, l_57, l_59, l_60, l_61, l_62, l_64, l_83, l_90, l_97, l_99, l_100, l_108, l_115, l_122, l_123, l_127, l_128, l_131, l_135, l_200, l_255, l_256, l_300, l_487, l_495, l_900, l_999, l_1000, l_1700, l_1792, l_1980, l_2048, l_2475, l_2970, l_3121, l_9999, l_10000, l_11351, l_65536, l_100000, l_1000000, ↓l_m1, l_neg, nI_add, pk_mul, pk_sub, q_leT, q_leF, q_ltT, q_ltF, q_eqT, q_eqF, q_m1e, q_m1e2, q_m1lt, q_m1le, q_m1nl, q_m1nle, q_m1s, q_ix, q_jat, q_jput, q_min1, q_min2, q_max1, q_max2, q_or0, q_0or, q_bs, if_true, if_false, true_and, and_true, false_and, and_false, not_true_eq_false, not_false_eq_true, eq_self, Bool.false_eq_true, q_z0, q_z1, g9, gk, g4, t2, t3]
    rcases rok with z | z | z | z | z | z | z | z | z | z | z
    · exact pl (by unfold opn; omega) (by omega) (act_hour mis cxt z.1 z.2.1 z.2.2 (by omega))
    · exact pl (by unfold opn; omega) (by omega) (act_order mis cxt z.1 z.2.1 z.2.2)
    · exact pl (by unfold opn; omega) (by omega) (act_put mis cxt z.1 z.2.1 z.2.2.2)
    · exact pl (by unfold opn; omega) (by omega) (act_any mis cxt z (by omega))
    · obtain ⟨D, s', can, xf2, hf2, wf2, g2, f2, ran2, t1, t2, t3, t4, t5, t6, t7, t8, t9, t10, t11, t12⟩ := act_loop (F := F) (f := f) mis cxt z.1
      rw [z0, z2, z3, z4, z5, z6] at t1
      have g2k : g2 (127 + 6 * k) = nI (R k 0) := by rw [t8 _ (Or.inr (by omega))]; exact gk
      have g21 : g2 (127 + 6 * k + 1) = nI (R k 1) := by rw [t8 _ (Or.inr (by omega))]; exact g1
      rw [z.1] at gk g2k
      have c1 : can = true := by
        cases can with
        | true => rfl
        | false =>
          exfalso
          unfold X12_does at t2
          simp (disch := omega) only [l_0, l_1, l_2, l_3, l_4, l_5, l_6, l_7, l_8, l_9, l_10, l_11, l_12, l_13, l_14, l_15, l_16, l_17, l_18, l_19, l_20, l_21, l_22, l_23, l_24, l_25, l_26, l_27, l_30, l_31, l_32, l_40, l_48, l_57, l_59, l_60, l_61, l_62, l_64, l_83, l_90, l_97, l_99, l_100, l_108, l_115, l_122, l_123, l_127, l_128, l_131, l_135, l_200, l_255, l_256, l_300, l_487, l_495, l_900, l_999, l_1000, l_1700, l_1792, l_1980, l_2048, l_2475, l_2970, l_3121, l_9999, l_10000, l_11351, l_65536, l_100000, l_1000000, ↓l_m1, l_neg, nI_add, pk_mul, pk_sub, q_leT, q_leF, q_ltT, q_ltF, q_eqT, q_eqF, q_m1e, q_m1e2, q_m1lt, q_m1le, q_m1nl, q_m1nle, q_m1s, q_ix, q_jat, q_jput, q_min1, q_min2, q_max1, q_max2, q_or0, q_0or, q_bs, if_true, if_false, true_and, and_true, false_and, and_false, not_true_eq_false, not_false_eq_true, eq_self, Bool.false_eq_true, q_z0, q_z1, gk, zb_f, Option.some.injEq, Prod.mk.injEq] at t2
      subst c1
      rw [if_pos rfl] at t1
      rw [zb_t] at t2
      have sr : ∀ i, upd ran2 0 (ran 0 + nI 0) i = ran2 i := fun i => by
        by_cases w : i = 0
        · rw [w, pk_us, t11, show nI 0 = (0 : Int32) from rfl, Int32.add_zero]
        · rw [pk_un w]
      refine push D s' (R k 1) xf2 hf2 wf2 g2 f2 (upd loops k (nI (R k 1 - 1))) (upd ran2 0 (ran 0 + nI 0)) (Or.inl z.1) t8 t9 t4 t5 t6 t7 (TL_up t10 (Or.inl rfl)) t3 (by rw [sr, t11]; exact r0) (by rw [sr, t12]; exact r4) z.2.1 z.2.2 t1 (fun _ => pk_us) (fun w => absurd z.1 w) (fun i hi => pk_un hi) ?_
      unfold X12_lives_b32 X12_lives_j111 X12_lives_j140 X12_lives_j174 X12_lives_j177
      have z21 := z.2.1
      have z22 := z.2.2
      simp (disch := omega) only [l_0, l_1, l_2, l_3, l_4, l_5, l_6, l_7, l_8, l_9, l_10, l_11, l_12, l_13, l_14, l_15, l_16, l_17, l_18, l_19, l_20, l_21, l_22, l_23, l_24, l_25, l_26, l_27, l_30, l_31, l_32, l_40, l_48, l_57, l_59, l_60, l_61, l_62, l_64, l_83, l_90, l_97, l_99, l_100, l_108, l_115, l_122, l_123, l_127, l_128, l_131, l_135, l_200, l_255, l_256, l_300, l_487, l_495, l_900, l_999, l_1000, l_1700, l_1792, l_1980, l_2048, l_2475, l_2970, l_3121, l_9999, l_10000, l_11351, l_65536, l_100000, l_1000000, ↓l_m1, l_neg, nI_add, pk_mul, pk_sub, q_leT, q_leF, q_ltT, q_ltF, q_eqT, q_eqF, q_m1e, q_m1e2, q_m1lt, q_m1le, q_m1nl, q_m1nle, q_m1s, q_ix, q_jat, q_jput, q_min1, q_min2, q_max1, q_max2, q_or0, q_0or, q_bs, if_true, if_false, true_and, and_true, false_and, and_false, not_true_eq_false, not_false_eq_true, eq_self, Bool.false_eq_true, q_z0, q_z1, g9, gk, t2, g2k, g21]
    · exact absurd z h19
    · have t1 := times_stop (F := F) mis cxt z
      rw [z0, z2, z3, z4, z5, z6] at t1
      have h5 := wk_get (c := 5) (M := cls R m) (show cls R k < cls R m by omega) c30 (by omega) (crk.2.2.2.2.2.2 (by unfold opn; omega))
      have go := j90_go (F := F) (h0 := h0) (p0 := p0) (w0 := w0) (unf := nI 0) (b := b) (e := e) (t := t) (d := dep k) (T := T) (n := n) (show cls R k < cls R m by omega) (by omega) (by omega) (by omega) h5 t1
      rw [go] at a1
      rw [z] at gk
      refine ⟨C, s, n + 1, 2, mis, nI 0, b, e, t, xf, hf, wf, g, f, loops, ran, by omega, ?_, fun G hG => ?_, hX, hH, hW, hM, hfr, dv, tl, r0, r4⟩
      · rw [iter_l a1, iter_r (b14_over (by omega))]
      · obtain ⟨G, rfl⟩ : ∃ G', G = G' + 1 := ⟨G - 1, by omega⟩
        have : X12_lives_b32 F (nI k, nI s, nI n, g, f, loops, ran) = some (.inr (.inr (.inl (nI s, nI (n + 1), g, f, loops, ran)))) := by
          unfold X12_lives_b32
          simp (disch := omega) only [l_0, l_1, l_2, l_3, l_4, l_5, l_6, l_7, l_8, l_9, l_10, l_11, l_12, l_13, l_14, l_15, l_16, l_17, l_18, l_19, l_20, l_21, l_22, l_23, l_24, l_25, l_26, l_27, l_30, l_31, l_32, l_40, l_48, l_57, l_59, l_60, l_61, l_62, l_64, l_83, l_90, l_97, l_99, l_100, l_108, l_115, l_122, l_123, l_127, l_128, l_131, l_135, l_200, l_255, l_256, l_300, l_487, l_495, l_900, l_999, l_1000, l_1700, l_1792, l_1980, l_2048, l_2475, l_2970, l_3121, l_9999, l_10000, l_11351, l_65536, l_100000, l_1000000, ↓l_m1, l_neg, nI_add, pk_mul, pk_sub, q_leT, q_leF, q_ltT, q_ltF, q_eqT, q_eqF, q_m1e, q_m1e2, q_m1lt, q_m1le, q_m1nl, q_m1nle, q_m1s, q_ix, q_jat, q_jput, q_min1, q_min2, q_max1, q_max2, q_or0, q_0or, q_bs, if_true, if_false, true_and, and_true, false_and, and_false, not_true_eq_false, not_false_eq_true, eq_self, Bool.false_eq_true, q_z0, q_z1, g9, gk]
        rw [iter_r this, q_bs]; rfl
    · exact whn (by omega)
    · exact whn (by omega)
    · exact whn (by omega)
    · exact whn (by omega)
