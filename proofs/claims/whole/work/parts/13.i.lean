/-! ===== PURE 13.i: watchers; an hour ===== -/
def bump (C : Cy) (w : Nat) : Cy := setC C 4 w 2 (C 4 w 2 + 1)
def soonAt (C : Cy) (c : Nat) : Option Nat := fmin (fun h => plc C c h && fate C 0 h) (due C) (C 0 0 3)
def putD (C : Cy) (h : Nat) : Cy := setC C 3 h 1 (min (C 3 h 1 + C 0 0 6) 9999)
def warn1 (C : Cy) (w : Nat) : Cy :=
  match soonAt (bump C w) (C 4 w 0) with
  | none => bump C w
  | some h => putD (bump C w) h
theorem bump_t (C : Cy) {w t r c : Nat} (h : t ≠ 4 ∨ c ≠ 2) : bump C w t r c = C t r c := by
  unfold bump setC; rw [if_neg (by omega)]
theorem bump_ok {C : Cy} {w : Nat} (ok : Ok C) : Ok (bump C w) := by
  obtain ⟨o0, oR, oE, oH, oW⟩ := ok
  refine ⟨?_, fun r hr => ?_, fun y hy => ?_, fun y hy => ?_, fun y hy => ?_⟩
  · simp only [bump_t C (show (0 : Nat) ≠ 4 ∨ _ from Or.inl (by omega))]; exact o0
  · rw [bump_t C (by omega)] at hr
    simp only [bump_t C (show (0 : Nat) ≠ 4 ∨ _ from Or.inl (by omega)), bump_t C (show (1 : Nat) ≠ 4 ∨ _ from Or.inl (by omega))]; exact oR r hr
  · rw [bump_t C (by omega)] at hy
    simp only [bump_t C (show (0 : Nat) ≠ 4 ∨ _ from Or.inl (by omega)), bump_t C (show (2 : Nat) ≠ 4 ∨ _ from Or.inl (by omega))]; exact oE y hy
  · rw [bump_t C (by omega)] at hy
    simp only [bump_t C (show (0 : Nat) ≠ 4 ∨ _ from Or.inl (by omega)), bump_t C (show (3 : Nat) ≠ 4 ∨ _ from Or.inl (by omega))]; exact oH y hy
  · rw [bump_t C (by omega)] at hy
    simp only [bump_t C (show (0 : Nat) ≠ 4 ∨ _ from Or.inl (by omega)), bump_t C (show _ ∨ (0 : Nat) ≠ 2 from Or.inr (by omega)), bump_t C (show _ ∨ (1 : Nat) ≠ 2 from Or.inr (by omega))]; exact oW y hy
theorem putD_ok {C : Cy} {h : Nat} (ok : Ok C) : Ok (putD C h) := Ok_H ok (by omega)
theorem warn1_ok {C : Cy} {w : Nat} (ok : Ok C) : Ok (warn1 C w) := by
  unfold warn1
  cases soonAt (bump C w) (C 4 w 0) with
  | none => exact bump_ok ok
  | some h => exact putD_ok (bump_ok ok)
/-- a warning leaves all but warned and hours of happenings -/
theorem warn1_t (C : Cy) {w t r c : Nat} (h : (t ≠ 4 ∨ c ≠ 2) ∧ (t ≠ 3 ∨ c ≠ 1)) : warn1 C w t r c = C t r c := by
  unfold warn1
  cases soonAt (bump C w) (C 4 w 0) with
  | none => exact bump_t C h.1
  | some k =>
    show putD (bump C w) k t r c = _
    unfold putD
    rw [← bump_t C (w := w) h.1]
    have := h.2
    generalize min (bump C w 3 k 1 + bump C w 0 0 6) 9999 = v
    unfold setC; rw [if_neg (by omega)]
theorem c_fateW {F : Nat} {C : Cy} {hf : Nat → Int32} {f : Nat} (ok : Ok C) (hH : CH C hf) (hf3 : f < 3) (hF : 100 < F) : X7_withValue F 40 (nI 5) (nI (C 0 0 3)) hf (nI 3) (nI f) = some (nI (fateSet C f)) := by
  have := c_withFate ok hH hf3 hF
  unfold X0_withFate at this
  rw [show (5 : Int32) = nI 5 from rfl, show (3 : Int32) = nI 3 from rfl] at this
  unfold fateSet
  cases h : X7_withValue F 40 (nI 5) (nI (C 0 0 3)) hf (nI 3) (nI f) with
  | none => rw [h] at this; cases this
  | some v => rw [h] at this; exact this
theorem c_warn {F : Nat} {C : Cy} {hf wf : Nat → Int32} {w : Nat} (ok : Ok C) (hH : CH C hf) (hW : CW C wf) (hw : w < C 0 0 4) (hF : 100 < F) :
    ∃ hf2 wf2, X0_warn F (nI (C 0 0 6)) (nI (C 0 0 3)) hf (nI (C 0 0 4)) wf (nI w) = some (hf2, wf2) ∧ CH (warn1 C w) hf2 ∧ CW (warn1 C w) wf2 := by
  have ok1 := bump_ok (w := w) ok
  have z3 : bump C w 0 0 3 = C 0 0 3 := bump_t C (by omega)
  have z6 : bump C w 0 0 6 = C 0 0 6 := bump_t C (by omega)
  have hH1 : CH (bump C w) hf := CH_o hH (by omega) (by omega)
  have hW1 : CW (bump C w) (upd wf (w * 3 + 2) (nI (C 4 w 2 + 1))) := CW_upd hW (by omega)
  obtain ⟨o0, oR, oE, oH, oW⟩ := ok
  have e1 := oW w hw
  have p1 := c_place (c := C 4 w 0) ok1 hH1 (by omega) hF
  have p2 := c_fateW (f := 0) ok1 hH1 (by omega) hF
  rw [z3] at p1 p2
  have s1 : X0_soonest F (nI (C 0 0 3)) hf (nI (setOf (plc (bump C w) (C 4 w 0)) (C 0 0 3) &&& fateSet (bump C w) 0)) = some (oI (soonAt (bump C w) (C 4 w 0))) := by
    have := c_soonest (s := setOf (plc (bump C w) (C 4 w 0)) (C 0 0 3) &&& fateSet (bump C w) 0) ok1 hH1 (and_lt31 (setOf31 (by omega))) hF
    rw [z3] at this
    rw [this]
    unfold soonAt fateSet
    rw [z3]
    congr 2
    refine fmin_cong (fun k hk => ?_) (fun _ _ => rfl)
    rw [Nat.testBit_and, setBit hk, setBit hk]
  unfold X0_warn warn1
  cases hs : soonAt (bump C w) (C 4 w 0) with
  | none =>
    rw [hs] at s1
    refine ⟨hf, upd wf (w * 3 + 2) (nI (C 4 w 2 + 1)), ?_, hH1, hW1⟩
    simp (disch := omega) only [l_0, l_1, l_2, l_3, l_4, l_5, l_6, l_7, l_8, l_9, l_10, l_11, l_12, l_13, l_14, l_15, l_16, l_17, l_18, l_19, l_20, l_21, l_22, l_23, l_24, l_25, l_26, l_27, l_30, l_31, l_32, l_40, l_48, l_57, l_59, l_60, l_61, l_62, l_64, l_83, l_90, l_97, l_99, l_100, l_108, l_115, l_122, l_123, l_127, l_128, l_131, l_135, l_200, l_255, l_256, l_300, l_487, l_495, l_900, l_999, l_1000, l_1700, l_1792, l_1980, l_2048, l_2475, l_2970, l_3121, l_9999, l_10000, l_11351, l_65536, l_100000, l_1000000, ↓l_m1, l_neg, nI_add, pk_mul, pk_sub, q_leT, q_leF, q_ltT, q_ltF, q_eqT, q_eqF, q_m1e, q_m1e2, q_m1lt, q_m1le, q_m1nl, q_m1nle, q_m1s, q_ix, q_jat, q_jput, q_min1, q_min2, q_max1, q_max2, q_or0, q_0or, q_bs, if_true, if_false, true_and, and_true, false_and, and_false, not_true_eq_false, not_false_eq_true, eq_self, Bool.false_eq_true, q_z0, q_z1, q_get, q_set, q_raise, hW w, pk_un, p1, p2, fa_and, s1, oI_n]
  | some h =>
    rw [hs] at s1
    have hh : h < C 0 0 3 := by have := (fmin_in hs).1; omega
    have e2 := oH h hh
    have y : bump C w 3 h 1 = C 3 h 1 := bump_t C (by omega)
    refine ⟨upd hf (h * 5 + 1) (nI (min (C 3 h 1 + C 0 0 6) 9999)), upd wf (w * 3 + 2) (nI (C 4 w 2 + 1)), ?_, ?_, CW_o hW1 (by omega) (by omega)⟩
    · simp (disch := omega) only [l_0, l_1, l_2, l_3, l_4, l_5, l_6, l_7, l_8, l_9, l_10, l_11, l_12, l_13, l_14, l_15, l_16, l_17, l_18, l_19, l_20, l_21, l_22, l_23, l_24, l_25, l_26, l_27, l_30, l_31, l_32, l_40, l_48, l_57, l_59, l_60, l_61, l_62, l_64, l_83, l_90, l_97, l_99, l_100, l_108, l_115, l_122, l_123, l_127, l_128, l_131, l_135, l_200, l_255, l_256, l_300, l_487, l_495, l_900, l_999, l_1000, l_1700, l_1792, l_1980, l_2048, l_2475, l_2970, l_3121, l_9999, l_10000, l_11351, l_65536, l_100000, l_1000000, ↓l_m1, l_neg, nI_add, pk_mul, pk_sub, q_leT, q_leF, q_ltT, q_ltF, q_eqT, q_eqF, q_m1e, q_m1e2, q_m1lt, q_m1le, q_m1nl, q_m1nle, q_m1s, q_ix, q_jat, q_jput, q_min1, q_min2, q_max1, q_max2, q_or0, q_0or, q_bs, if_true, if_false, true_and, and_true, false_and, and_false, not_true_eq_false, not_false_eq_true, eq_self, Bool.false_eq_true, q_z0, q_z1, q_get, q_set, q_raise, hW w, hH h, pk_un, p1, p2, fa_and, s1, oI_s, q_min]
    · show CH (putD (bump C w) h) _
      unfold putD; rw [y, z6]; exact CH_upd hH1 (by omega)
theorem m_warn {F : Nat} {C : Cy} {g : Nat → Int32} {w : Nat} (ok : Ok C) (hM : MS C g) (hw : w < C 0 0 4) (hF : 100 < F) :
    ∃ g2, X12_warns F g (nI w) = some g2 ∧ MS (warn1 C w) g2 ∧ Fr g g2 := by
  have ok1 := bump_ok (w := w) ok
  have z3 : bump C w 0 0 3 = C 0 0 3 := bump_t C (by omega)
  have z4 : bump C w 0 0 4 = C 0 0 4 := bump_t C (by omega)
  have z6 : bump C w 0 0 6 = C 0 0 6 := bump_t C (by omega)
  have zw : bump C w 4 w 0 = C 4 w 0 := bump_t C (by omega)
  have hM1 : MS (bump C w) (upd g (115 + 3 * w + 2) (nI (C 4 w 2 + 1))) := MS_W ok hM hw (by omega)
  obtain ⟨o0, oR, oE, oH, oW⟩ := ok
  have e1 := oW w hw
  have k2 : g (115 + 3 * w + 2) = nI (C 4 w 2) := hM.2.2.2.2.2.2 w 2 hw (by omega)
  have p0 := m_W (x := w) (c := 0) hM1 (by rw [z4]; exact hw) (by rw [z4]; omega) (by omega)
  rw [zw] at p0
  have p1 := m_placed (f := C 4 w 0) ok1 hM1 (by omega) hF
  rw [z3] at p1
  have s1 : X12_soonestOf F (upd g (115 + 3 * w + 2) (nI (C 4 w 2 + 1))) (nI (setOf (plc (bump C w) (C 4 w 0)) (C 0 0 3))) = some (oI (soonAt (bump C w) (C 4 w 0))) := by
    rw [m_soonest ok1 hM1 (setOf31 (by omega)) hF]
    unfold soonAt
    rw [z3]
    congr 2
    refine fmin_cong (fun k hk => ?_) (fun _ _ => rfl)
    unfold bf
    rw [setBit hk]
  have k6 : g 6 = nI (C 0 0 6) := hM.1 6 (by omega)
  unfold X12_warns X12_watcherRow X12_happeningRow warn1
  cases hs : soonAt (bump C w) (C 4 w 0) with
  | none =>
    rw [hs] at s1
    refine ⟨upd g (115 + 3 * w + 2) (nI (C 4 w 2 + 1)), ?_, hM1, Fr_upd (by omega) (by omega)⟩
    simp (disch := omega) only [l_0, l_1, l_2, l_3, l_4, l_5, l_6, l_7, l_8, l_9, l_10, l_11, l_12, l_13, l_14, l_15, l_16, l_17, l_18, l_19, l_20, l_21, l_22, l_23, l_24, l_25, l_26, l_27, l_30, l_31, l_32, l_40, l_48, l_57, l_59, l_60, l_61, l_62, l_64, l_83, l_90, l_97, l_99, l_100, l_108, l_115, l_122, l_123, l_127, l_128, l_131, l_135, l_200, l_255, l_256, l_300, l_487, l_495, l_900, l_999, l_1000, l_1700, l_1792, l_1980, l_2048, l_2475, l_2970, l_3121, l_9999, l_10000, l_11351, l_65536, l_100000, l_1000000, ↓l_m1, l_neg, nI_add, pk_mul, pk_sub, q_leT, q_leF, q_ltT, q_ltF, q_eqT, q_eqF, q_m1e, q_m1e2, q_m1lt, q_m1le, q_m1nl, q_m1nle, q_m1s, q_ix, q_jat, q_jput, q_min1, q_min2, q_max1, q_max2, q_or0, q_0or, q_bs, if_true, if_false, true_and, and_true, false_and, and_false, not_true_eq_false, not_false_eq_true, eq_self, Bool.false_eq_true, q_z0, q_z1, k2, p0, p1, s1, oI_n]
  | some h =>
    rw [hs] at s1
    have hh : h < C 0 0 3 := by have := (fmin_in hs).1; omega
    have e2 := oH h hh
    have y : bump C w 3 h 1 = C 3 h 1 := bump_t C (by omega)
    have k1 : g (83 + 4 * h + 1) = nI (C 3 h 1) := hM.2.2.2.2.2.1 h 1 hh (by omega)
    refine ⟨upd (upd g (115 + 3 * w + 2) (nI (C 4 w 2 + 1))) (83 + 4 * h + 1) (nI (min (C 3 h 1 + C 0 0 6) 9999)), ?_, ?_, Fr_upd' (Fr_upd (by omega) (by omega)) (by omega) (by omega)⟩
    · rw [Nat.min_comm]
      simp (disch := omega) only [l_0, l_1, l_2, l_3, l_4, l_5, l_6, l_7, l_8, l_9, l_10, l_11, l_12, l_13, l_14, l_15, l_16, l_17, l_18, l_19, l_20, l_21, l_22, l_23, l_24, l_25, l_26, l_27, l_30, l_31, l_32, l_40, l_48, l_57, l_59, l_60, l_61, l_62, l_64, l_83, l_90, l_97, l_99, l_100, l_108, l_115, l_122, l_123, l_127, l_128, l_131, l_135, l_200, l_255, l_256, l_300, l_487, l_495, l_900, l_999, l_1000, l_1700, l_1792, l_1980, l_2048, l_2475, l_2970, l_3121, l_9999, l_10000, l_11351, l_65536, l_100000, l_1000000, ↓l_m1, l_neg, nI_add, pk_mul, pk_sub, q_leT, q_leF, q_ltT, q_ltF, q_eqT, q_eqF, q_m1e, q_m1e2, q_m1lt, q_m1le, q_m1nl, q_m1nle, q_m1s, q_ix, q_jat, q_jput, q_min1, q_min2, q_max1, q_max2, q_or0, q_0or, q_bs, if_true, if_false, true_and, and_true, false_and, and_false, not_true_eq_false, not_false_eq_true, eq_self, Bool.false_eq_true, q_z0, q_z1, k2, p0, p1, s1, oI_s, pk_un, k1, k6, q_min]
    · show MS (putD (bump C w) h) _
      unfold putD; rw [y, z6]; exact MS_H ok1 hM1 (by rw [z3]; exact hh) (by omega)
def watc (C : Cy) (w : Nat) : Bool := decide (C 4 w 1 ≤ cntS C (C 4 w 0))
def wat1 (C : Cy) (w : Nat) : Cy := if watc C w then warn1 C w else C
def watN (C : Cy) : Nat → Cy
  | 0 => C
  | n + 1 => wat1 (watN C n) n
def stirT (C : Cy) : Nat → Bool
  | 0 => false
  | n + 1 => stirT C n || watc (watN C n) n
theorem wat1_t (C : Cy) {w t r c : Nat} (h : (t ≠ 4 ∨ c ≠ 2) ∧ (t ≠ 3 ∨ c ≠ 1)) : wat1 C w t r c = C t r c := by
  unfold wat1
  by_cases q : watc C w = true
  · rw [if_pos q, warn1_t C h]
  · rw [if_neg q]
theorem watN_t (C : Cy) {t r c : Nat} (h : (t ≠ 4 ∨ c ≠ 2) ∧ (t ≠ 3 ∨ c ≠ 1)) : ∀ n, watN C n t r c = C t r c
  | 0 => rfl
  | n + 1 => by rw [watN, wat1_t _ h, watN_t C h n]
theorem wat1_ok {C : Cy} {w : Nat} (ok : Ok C) : Ok (wat1 C w) := by
  unfold wat1
  by_cases q : watc C w = true
  · rw [if_pos q]; exact warn1_ok ok
  · rw [if_neg q]; exact ok
theorem watN_ok {C : Cy} (ok : Ok C) : ∀ n, Ok (watN C n)
  | 0 => ok
  | n + 1 => wat1_ok (watN_ok ok n)
theorem watN_same (C : Cy) (n : Nat) : SameS C (watN C n) := ⟨watN_t C (by omega) n, watN_t C (by omega) n, fun r c => watN_t C (by omega) n⟩
theorem CX_t {C D : Cy} {xf : Nat → Int32} (h : CX C xf) (h0 : D 0 0 2 = C 0 0 2) (h2 : ∀ r c, D 2 r c = C 2 r c) : CX D xf := by
  intro y d hy hd; rw [h0] at hy; rw [h2]; exact h y d hy hd
theorem CH_t {C D : Cy} {xf : Nat → Int32} (h : CH C xf) (h0 : D 0 0 3 = C 0 0 3) (h2 : ∀ r c, D 3 r c = C 3 r c) : CH D xf := by
  intro y d hy hd; rw [h0] at hy; rw [h2]; exact h y d hy hd
theorem CW_t {C D : Cy} {xf : Nat → Int32} (h : CW C xf) (h0 : D 0 0 4 = C 0 0 4) (h2 : ∀ r c, D 4 r c = C 4 r c) : CW D xf := by
  intro y d hy hd; rw [h0] at hy; rw [h2]; exact h y d hy hd
theorem c_watch {F : Nat} {C : Cy} {xf hf wf : Nat → Int32} (ok : Ok C) (hX : CX C xf) (hH : CH C hf) (hW : CW C wf) (hF : 100 < F) :
    ∃ hf2 wf2, X0_watch F (nI (C 0 0 6)) (nI (C 0 0 2)) xf (nI (C 0 0 3)) hf (nI (C 0 0 4)) wf = some (zb (stirT C (C 0 0 4)), hf2, wf2) ∧ CH (watN C (C 0 0 4)) hf2 ∧ CW (watN C (C 0 0 4)) wf2 := by
  have n7 := ok.1
  obtain ⟨e, h1, hf2, wf2, rfl, h2⟩ := it_rel (b := X0_watch_b4 F (nI (C 0 0 6)) (nI (C 0 0 2)) xf (nI (C 0 0 3)) (nI (C 0 0 4))) (C 0 0 4)
    (fun i s => ∃ f f', s = (zb (stirT C i), nI i, f, f') ∧ CH (watN C i) f ∧ CW (watN C i) f') (fun e => ∃ f f', e = (zb (stirT C (C 0 0 4)), f, f') ∧ CH (watN C (C 0 0 4)) f ∧ CW (watN C (C 0 0 4)) f') (fun i s hi hs => by
      obtain ⟨f, f', rfl, hf1, hf2⟩ := hs
      have okd := watN_ok ok i
      have z0 := fun k => watN_t C (t := 0) (r := 0) (c := k) (by omega) i
      have z2 := fun r c => watN_t C (t := 2) (r := r) (c := c) (by omega) i
      have hX1 : CX (watN C i) xf := CX_t hX (z0 2) z2
      have hi' : i < watN C i 0 0 4 := by rw [z0]; exact hi
      have e1 := okd.2.2.2.2 i hi'
      have o1 := okd.1
      have b1 := stSet_lt okd (watN C i 4 i 0)
      have b2 := cntS_le okd (watN C i 4 i 0)
      have b3 := popc_st okd (watN C i 4 i 0)
      have c1 := c_behind (c := watN C i 4 i 0) okd hX1 (by omega) hF
      rw [z0] at c1
      have y := fun d (hd : d < 3) => hf2 i d hi' hd
      rw [watN, stirT]
      unfold wat1 X0_watch_b4 X0_watch_j52
      by_cases q1 : watN C i 4 i 1 ≤ cntS (watN C i) (watN C i 4 i 0)
      · have q : watc (watN C i) i = true := decide_eq_true q1
        rw [q]
        obtain ⟨f2, f3, a1, a2, a3⟩ := c_warn (F := F) okd hf1 hf2 hi' hF
        rw [z0, z0, z0] at a1
        refine Or.inl ⟨(nI 1, nI (i + 1), f2, f3), ?_, f2, f3, ?_, a2, a3⟩
        · simp (disch := omega) only [l_0, l_1, l_2, l_3, l_4, l_5, l_6, l_7, l_8, l_9, l_10, l_11, l_12, l_13, l_14, l_15, l_16, l_17, l_18, l_19, l_20, l_21, l_22, l_23, l_24, l_25, l_26, l_27, l_30, l_31, l_32, l_40, l_48, l_57, l_59, l_60, l_61, l_62, l_64, l_83, l_90, l_97, l_99, l_100, l_108, l_115, l_122, l_123, l_127, l_128, l_131, l_135, l_200, l_255, l_256, l_300, l_487, l_495, l_900, l_999, l_1000, l_1700, l_1792, l_1980, l_2048, l_2475, l_2970, l_3121, l_9999, l_10000, l_11351, l_65536, l_100000, l_1000000, ↓l_m1, l_neg, nI_add, pk_mul, pk_sub, q_leT, q_leF, q_ltT, q_ltF, q_eqT, q_eqF, q_m1e, q_m1e2, q_m1lt, q_m1le, q_m1nl, q_m1nle, q_m1s, q_ix, q_jat, q_jput, q_min1, q_min2, q_max1, q_max2, q_or0, q_0or, q_bs, if_true, if_false, true_and, and_true, false_and, and_false, not_true_eq_false, not_false_eq_true, eq_self, Bool.false_eq_true, q_z0, q_z1, q_get, q_set, q_raise, y, c1, q_popc, b3, a1]
        · rw [Bool.or_true]; rfl
      · have q : watc (watN C i) i = false := decide_eq_false q1
        rw [q]
        refine Or.inl ⟨(zb (stirT C i), nI (i + 1), f, f'), ?_, f, f', ?_, hf1, hf2⟩
        · simp (disch := omega) only [l_0, l_1, l_2, l_3, l_4, l_5, l_6, l_7, l_8, l_9, l_10, l_11, l_12, l_13, l_14, l_15, l_16, l_17, l_18, l_19, l_20, l_21, l_22, l_23, l_24, l_25, l_26, l_27, l_30, l_31, l_32, l_40, l_48, l_57, l_59, l_60, l_61, l_62, l_64, l_83, l_90, l_97, l_99, l_100, l_108, l_115, l_122, l_123, l_127, l_128, l_131, l_135, l_200, l_255, l_256, l_300, l_487, l_495, l_900, l_999, l_1000, l_1700, l_1792, l_1980, l_2048, l_2475, l_2970, l_3121, l_9999, l_10000, l_11351, l_65536, l_100000, l_1000000, ↓l_m1, l_neg, nI_add, pk_mul, pk_sub, q_leT, q_leF, q_ltT, q_ltF, q_eqT, q_eqF, q_m1e, q_m1e2, q_m1lt, q_m1le, q_m1nl, q_m1nle, q_m1s, q_ix, q_jat, q_jput, q_min1, q_min2, q_max1, q_max2, q_or0, q_0or, q_bs, if_true, if_false, true_and, and_true, false_and, and_false, not_true_eq_false, not_false_eq_true, eq_self, Bool.false_eq_true, q_z0, q_z1, q_get, q_set, q_raise, y, c1, q_popc, b3]
        · rw [Bool.or_false]) (fun s hs => by
      obtain ⟨f, f', rfl, hf1⟩ := hs
      refine ⟨_, ?_, f, f', rfl, hf1⟩
      unfold X0_watch_b4
      simp (disch := omega) only [l_0, l_1, l_2, l_3, l_4, l_5, l_6, l_7, l_8, l_9, l_10, l_11, l_12, l_13, l_14, l_15, l_16, l_17, l_18, l_19, l_20, l_21, l_22, l_23, l_24, l_25, l_26, l_27, l_30, l_31, l_32, l_40, l_48, l_57, l_59, l_60, l_61, l_62, l_64, l_83, l_90, l_97, l_99, l_100, l_108, l_115, l_122, l_123, l_127, l_128, l_131, l_135, l_200, l_255, l_256, l_300, l_487, l_495, l_900, l_999, l_1000, l_1700, l_1792, l_1980, l_2048, l_2475, l_2970, l_3121, l_9999, l_10000, l_11351, l_65536, l_100000, l_1000000, ↓l_m1, l_neg, nI_add, pk_mul, pk_sub, q_leT, q_leF, q_ltT, q_ltF, q_eqT, q_eqF, q_m1e, q_m1e2, q_m1lt, q_m1le, q_m1nl, q_m1nle, q_m1s, q_ix, q_jat, q_jput, q_min1, q_min2, q_max1, q_max2, q_or0, q_0or, q_bs, if_true, if_false, true_and, and_true, false_and, and_false, not_true_eq_false, not_false_eq_true, eq_self, Bool.false_eq_true, q_z0, q_z1]) (s0 := (0, 0, hf, wf)) ⟨hf, wf, rfl, hH, hW⟩ (show C 0 0 4 < F by omega)
  refine ⟨hf2, wf2, ?_, h2⟩
  unfold X0_watch
  rw [h1]
  simp only [q_bs, isZ_zb, if_true]
theorem m_watN {F : Nat} {C : Cy} {g f : Nat → Int32} (v : Int32) (ok : Ok C) (hM : MS C g) (hF : 100 < F) :
    ∃ g2, iter (X12_hourGoes_b80 F f v) F (0, g) = some g2 ∧ MS (watN C (C 0 0 4)) g2 ∧ Fr g g2 := by
  have n7 := ok.1
  obtain ⟨g2, h1, h2, h3⟩ := it_rel (b := X12_hourGoes_b80 F f v) (C 0 0 4)
    (fun i s => ∃ g2, s = (nI i, g2) ∧ MS (watN C i) g2 ∧ Fr g g2) (fun g2 => MS (watN C (C 0 0 4)) g2 ∧ Fr g g2) (fun i s hi hs => by
      obtain ⟨g1, rfl, hM1, hF1⟩ := hs
      have okd := watN_ok ok i
      have z0 := fun k => watN_t C (t := 0) (r := 0) (c := k) (by omega) i
      have hi' : i < watN C i 0 0 4 := by rw [z0]; exact hi
      have e1 := okd.2.2.2.2 i hi'
      have o1 := okd.1
      have m4 : g1 4 = nI (C 0 0 4) := by rw [hM1.1 4 (by omega), z0]
      have b1 := stSet_lt okd (watN C i 4 i 0)
      have b2 := cntS_le okd (watN C i 4 i 0)
      have b3 := popc_st okd (watN C i 4 i 0)
      have c1 := m_standing (c := watN C i 4 i 0) okd hM1 (by omega) hF
      rw [watN]
      unfold wat1 X12_hourGoes_b80 X12_hourGoes_j117
      by_cases q1 : watN C i 4 i 1 ≤ cntS (watN C i) (watN C i 4 i 0)
      · have q : watc (watN C i) i = true := decide_eq_true q1
        rw [q]
        obtain ⟨g2, a1, a2, a3⟩ := m_warn (F := F) okd hM1 hi' hF
        refine Or.inl ⟨(nI (i + 1), g2), ?_, g2, rfl, a2, Fr_t hF1 a3⟩
        simp (disch := omega) only [l_0, l_1, l_2, l_3, l_4, l_5, l_6, l_7, l_8, l_9, l_10, l_11, l_12, l_13, l_14, l_15, l_16, l_17, l_18, l_19, l_20, l_21, l_22, l_23, l_24, l_25, l_26, l_27, l_30, l_31, l_32, l_40, l_48, l_57, l_59, l_60, l_61, l_62, l_64, l_83, l_90, l_97, l_99, l_100, l_108, l_115, l_122, l_123, l_127, l_128, l_131, l_135, l_200, l_255, l_256, l_300, l_487, l_495, l_900, l_999, l_1000, l_1700, l_1792, l_1980, l_2048, l_2475, l_2970, l_3121, l_9999, l_10000, l_11351, l_65536, l_100000, l_1000000, ↓l_m1, l_neg, nI_add, pk_mul, pk_sub, q_leT, q_leF, q_ltT, q_ltF, q_eqT, q_eqF, q_m1e, q_m1e2, q_m1lt, q_m1le, q_m1nl, q_m1nle, q_m1s, q_ix, q_jat, q_jput, q_min1, q_min2, q_max1, q_max2, q_or0, q_0or, q_bs, if_true, if_false, true_and, and_true, false_and, and_false, not_true_eq_false, not_false_eq_true, eq_self, Bool.false_eq_true, q_z0, q_z1, m4, m_W hM1, c1, q_bits, b3, a1]
      · have q : watc (watN C i) i = false := decide_eq_false q1
        rw [q]
        refine Or.inl ⟨(nI (i + 1), g1), ?_, g1, rfl, hM1, hF1⟩
        simp (disch := omega) only [l_0, l_1, l_2, l_3, l_4, l_5, l_6, l_7, l_8, l_9, l_10, l_11, l_12, l_13, l_14, l_15, l_16, l_17, l_18, l_19, l_20, l_21, l_22, l_23, l_24, l_25, l_26, l_27, l_30, l_31, l_32, l_40, l_48, l_57, l_59, l_60, l_61, l_62, l_64, l_83, l_90, l_97, l_99, l_100, l_108, l_115, l_122, l_123, l_127, l_128, l_131, l_135, l_200, l_255, l_256, l_300, l_487, l_495, l_900, l_999, l_1000, l_1700, l_1792, l_1980, l_2048, l_2475, l_2970, l_3121, l_9999, l_10000, l_11351, l_65536, l_100000, l_1000000, ↓l_m1, l_neg, nI_add, pk_mul, pk_sub, q_leT, q_leF, q_ltT, q_ltF, q_eqT, q_eqF, q_m1e, q_m1e2, q_m1lt, q_m1le, q_m1nl, q_m1nle, q_m1s, q_ix, q_jat, q_jput, q_min1, q_min2, q_max1, q_max2, q_or0, q_0or, q_bs, if_true, if_false, true_and, and_true, false_and, and_false, not_true_eq_false, not_false_eq_true, eq_self, Bool.false_eq_true, q_z0, q_z1, m4, m_W hM1, c1, q_bits, b3]) (fun s hs => by
      obtain ⟨g1, rfl, hM1, hF1⟩ := hs
      have z0 := fun k => watN_t C (t := 0) (r := 0) (c := k) (by omega) (C 0 0 4)
      have m4 : g1 4 = nI (C 0 0 4) := by rw [hM1.1 4 (by omega), z0]
      refine ⟨g1, ?_, hM1, hF1⟩
      unfold X12_hourGoes_b80
      simp (disch := omega) only [l_0, l_1, l_2, l_3, l_4, l_5, l_6, l_7, l_8, l_9, l_10, l_11, l_12, l_13, l_14, l_15, l_16, l_17, l_18, l_19, l_20, l_21, l_22, l_23, l_24, l_25, l_26, l_27, l_30, l_31, l_32, l_40, l_48, l_57, l_59, l_60, l_61, l_62, l_64, l_83, l_90, l_97, l_99, l_100, l_108, l_115, l_122, l_123, l_127, l_128, l_131, l_135, l_200, l_255, l_256, l_300, l_487, l_495, l_900, l_999, l_1000, l_1700, l_1792, l_1980, l_2048, l_2475, l_2970, l_3121, l_9999, l_10000, l_11351, l_65536, l_100000, l_1000000, ↓l_m1, l_neg, nI_add, pk_mul, pk_sub, q_leT, q_leF, q_ltT, q_ltF, q_eqT, q_eqF, q_m1e, q_m1e2, q_m1lt, q_m1le, q_m1nl, q_m1nle, q_m1s, q_ix, q_jat, q_jput, q_min1, q_min2, q_max1, q_max2, q_or0, q_0or, q_bs, if_true, if_false, true_and, and_true, false_and, and_false, not_true_eq_false, not_false_eq_true, eq_self, Bool.false_eq_true, q_z0, q_z1, m4]) (s0 := (0, g)) ⟨g, rfl, hM, Fr_r g⟩ (show C 0 0 4 < F by omega)
  exact ⟨g2, h1, h2, h3⟩
/-- an hour, but the clock -/
def hourB (C : Cy) : Cy := befN (walkN C (C 0 0 2)) (C 0 0 3)
def hourC (C : Cy) : Cy := watN (hourB C) (C 0 0 4)
def hour1 (C : Cy) : Cy := setC (hourC C) 0 0 8 (C 0 0 8 + 1)
def hap1 (C : Cy) : Nat := hapN (walkN C (C 0 0 2)) (C 0 0 3)
theorem hourB_0 (C : Cy) (k : Nat) : hourB C 0 0 k = C 0 0 k := by
  unfold hourB; rw [befN_t _ (by omega), walkN_t _ (by omega)]
theorem hourC_0 (C : Cy) (k : Nat) : hourC C 0 0 k = C 0 0 k := by
  unfold hourC; rw [watN_t _ (by omega), hourB_0]
theorem hourC_same (C : Cy) : SameS C (hourC C) := SameS_t (SameS_t (walkN_same C _) (befN_same _ _)) (watN_same _ _)
theorem hourC_ok {C : Cy} (ok : Ok C) : Ok (hourC C) := watN_ok (befN_ok (walkN_ok ok _ (Nat.le_refl _)) _) _
theorem Ok_8 {C : Cy} {v : Nat} (ok : Ok C) (h : v ≤ 20000) : Ok (setC C 0 0 8 v) := by
  obtain ⟨o0, oR, oE, oH, oW⟩ := ok
  refine ⟨?_, fun r hr => ?_, fun y hy => ?_, fun y hy => ?_, fun y hy => ?_⟩
  · rw [setC_s]
    simp only [setC_c C (show (0 : Nat) ≠ 8 by omega), setC_c C (show (1 : Nat) ≠ 8 by omega), setC_c C (show (2 : Nat) ≠ 8 by omega), setC_c C (show (3 : Nat) ≠ 8 by omega), setC_c C (show (4 : Nat) ≠ 8 by omega), setC_c C (show (5 : Nat) ≠ 8 by omega), setC_c C (show (6 : Nat) ≠ 8 by omega), setC_c C (show (7 : Nat) ≠ 8 by omega)]; omega
  · rw [setC_c C (by omega)] at hr
    simp only [setC_c C (show (0 : Nat) ≠ 8 by omega), setC_t C (show (1 : Nat) ≠ 0 by omega)]; exact oR r hr
  · rw [setC_c C (by omega)] at hy
    simp only [setC_c C (show (0 : Nat) ≠ 8 by omega), setC_t C (show (2 : Nat) ≠ 0 by omega)]; exact oE y hy
  · rw [setC_c C (by omega)] at hy
    simp only [setC_c C (show (0 : Nat) ≠ 8 by omega), setC_t C (show (3 : Nat) ≠ 0 by omega)]; exact oH y hy
  · rw [setC_c C (by omega)] at hy
    simp only [setC_c C (show (0 : Nat) ≠ 8 by omega), setC_t C (show (4 : Nat) ≠ 0 by omega)]; exact oW y hy
theorem hour1_ok {C : Cy} (ok : Ok C) (h : C 0 0 8 + 1 ≤ 20000) : Ok (hour1 C) := Ok_8 (hourC_ok ok) h
theorem hour1_8 (C : Cy) : hour1 C 0 0 8 = C 0 0 8 + 1 := setC_s _ _ _ _ _
theorem hour1_0 (C : Cy) {k : Nat} (h : k ≠ 8) : hour1 C 0 0 k = C 0 0 k := by unfold hour1; rw [setC_c _ h, hourC_0]
theorem hour1_same (C : Cy) : SameS C (hour1 C) := SameS_t (hourC_same C) (SameS_set (by omega))
theorem m_hour {F : Nat} {C : Cy} {g f : Nat → Int32} (ok : Ok C) (hM : MS C g) (hf : FB C f) (hF : 100 < F) :
    ∃ g2, X12_hourGoes F g f = some (nI (hap1 C), g2) ∧ MS (hour1 C) g2 ∧ Fr g g2 := by
  obtain ⟨g1, a1, a2, a3⟩ := m_walkN ok hM hf hF
  have ok1 := walkN_ok ok _ (Nat.le_refl (C 0 0 2))
  have z1 := fun k => walkN_t C (t := 0) (r := 0) (c := k) (by omega) (C 0 0 2)
  obtain ⟨g2, b1, b2, b3⟩ := m_befN (f := f) ok1 a2 hF
  rw [z1] at b1 b2
  have ok2 := befN_ok ok1 (C 0 0 3)
  obtain ⟨g3, c1, c2, c3⟩ := m_watN (f := f) (nI (hap1 C)) ok2 b2 hF
  have z2 : befN (walkN C (C 0 0 2)) (C 0 0 3) 0 0 4 = C 0 0 4 := hourB_0 C 4
  rw [z2] at c2
  have ok3 : Ok (hourC C) := hourC_ok ok
  have k8 : g3 8 = nI (C 0 0 8) := by rw [c2.1 8 (by omega)]; exact congrArg nI (hourC_0 C 8)
  refine ⟨upd g3 8 (nI (C 0 0 8 + 1)), ?_, MS_0 ok3 c2 (by omega) (by omega), Fr_upd' (Fr_t a3 (Fr_t b3 c3)) (by omega) (by omega)⟩
  unfold X12_hourGoes
  rw [a1]
  simp only [q_bs]
  rw [b1]
  simp only [q_bs]
  rw [show hapN (walkN C (C 0 0 2)) (C 0 0 3) = hap1 C from rfl, c1]
  simp (disch := omega) only [l_0, l_1, l_2, l_3, l_4, l_5, l_6, l_7, l_8, l_9, l_10, l_11, l_12, l_13, l_14, l_15, l_16, l_17, l_18, l_19, l_20, l_21, l_22, l_23, l_24, l_25, l_26, l_27, l_30, l_31, l_32, l_40, l_48, l_57, l_59, l_60, l_61, l_62, l_64, l_83, l_90, l_97, l_99, l_100, l_108, l_115, l_122, l_123, l_127, l_128, l_131, l_135, l_200, l_255, l_256, l_300, l_487, l_495, l_900, l_999, l_1000, l_1700, l_1792, l_1980, l_2048, l_2475, l_2970, l_3121, l_9999, l_10000, l_11351, l_65536, l_100000, l_1000000, ↓l_m1, l_neg, nI_add, pk_mul, pk_sub, q_leT, q_leF, q_ltT, q_ltF, q_eqT, q_eqF, q_m1e, q_m1e2, q_m1lt, q_m1le, q_m1nl, q_m1nle, q_m1s, q_ix, q_jat, q_jput, q_min1, q_min2, q_max1, q_max2, q_or0, q_0or, q_bs, if_true, if_false, true_and, and_true, false_and, and_false, not_true_eq_false, not_false_eq_true, eq_self, Bool.false_eq_true, q_z0, q_z1, k8]
