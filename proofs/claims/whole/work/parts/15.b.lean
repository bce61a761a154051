/-! ===== PURE 15.b: explained, sure ===== -/
def allB (p : Nat → Bool) : Nat → Bool
  | 0 => true
  | n + 1 => allB p n && p n
theorem allB_cong {p q : Nat → Bool} : ∀ {n : Nat}, (∀ k, k < n → p k = q k) → allB p n = allB q n
  | 0, _ => rfl
  | n + 1, h => by rw [allB, allB, allB_cong (fun k hk => h k (by omega)), h n (by omega)]
theorem allB_no {p : Nat → Bool} : ∀ {n k : Nat}, k < n → p k = false → allB p n = false
  | 0, k, h, _ => by omega
  | n + 1, k, h, hp => by
    rw [allB]
    by_cases e : k = n
    · subst e; rw [hp, Bool.and_false]
    · rw [allB_no (show k < n by omega) hp, Bool.false_and]
theorem it_all {b : Int32 → Option (Int32 ⊕ (Unit ⊕ Unit))} (p : Nat → Bool) (n : Nat) (hs : ∀ i, i < n → b (nI i) = if p i then some (.inl (nI (i + 1))) else some (.inr (.inl ()))) (he : b (nI n) = some (.inr (.inr ()))) {F : Nat} (hF : n < F) : iter b F 0 = some (if allB p n then .inr () else .inl ()) := by
  have := it_rel (b := b) n (fun i s => s = nI i ∧ allB p i = true) (fun e => e = if allB p n then .inr () else .inl ()) ?_ ?_ (s0 := 0) ⟨rfl, rfl⟩ hF
  · obtain ⟨e, h1, h2⟩ := this; rw [h1, h2]
  · rintro i s hi ⟨rfl, hp⟩
    cases h : p i with
    | true => exact Or.inl ⟨nI (i + 1), by rw [hs i hi, h]; rfl, rfl, by rw [allB, hp, h]; rfl⟩
    | false => exact Or.inr ⟨.inl (), by rw [hs i hi, h]; rfl, by rw [allB_no hi h]; rfl⟩
  · rintro s ⟨rfl, hp⟩
    exact ⟨.inr (), he, by rw [hp]; rfl⟩
/-- how great those of a set at a corner are -/
def gat (C : Cy) (s c h : Nat) : Nat := if s.testBit h && plc C c h then C 3 h 2 else 0
def gsum (C : Cy) (s c : Nat) : Nat := fb_sm (gat C s c) (C 0 0 3)
theorem gat_le {C : Cy} (ok : Ok C) {s c h : Nat} (hh : h < C 0 0 3) : gat C s c h ≤ 4 := by
  have := ok.2.2.2.1 h hh
  unfold gat
  by_cases q : (s.testBit h && plc C c h) = true
  · rw [if_pos q]; omega
  · rw [if_neg q]; omega
def grs (C : Cy) (s h : Nat) : Nat := if s.testBit h then C 3 h 2 else 0
theorem c_great {F : Nat} {C : Cy} {hf : Nat → Int32} {s : Nat} (ok : Ok C) (hH : CH C hf) (hs : s < 2 ^ 31) (hF : 100 < F) : X0_greatnessOf F (nI (C 0 0 3)) hf (nI s) = some (nI (fb_sm (grs C s) (C 0 0 3))) := by
  have o0 := ok.1
  unfold X0_greatnessOf
  have it : iter (X0_greatnessOf_b4 F (nI (C 0 0 3)) hf (nI s)) F (nI (fb_sm (grs C s) 0), nI 0) = some (nI (fb_sm (grs C s) (C 0 0 3))) := by
    refine iter_count (b := X0_greatnessOf_b4 F (nI (C 0 0 3)) hf (nI s)) (fun i => (nI (fb_sm (grs C s) i), nI i)) (C 0 0 3) (fun i hi => ?_) ?_ F (by omega)
    · unfold X0_greatnessOf_b4 X0_greatnessOf_j36
      rw [fb_sm_succ]
      cases hb : s.testBit i with
      | true =>
        have e : grs C s i = C 3 i 2 := by unfold grs; rw [hb]; rfl
        rw [e]; simp (disch := omega) only [l_0, l_1, l_2, l_3, l_4, l_5, l_6, l_7, l_8, l_9, l_10, l_11, l_12, l_13, l_14, l_15, l_16, l_17, l_18, l_19, l_20, l_21, l_22, l_23, l_24, l_25, l_26, l_27, l_30, l_31, l_32, l_40, l_48, l_57, l_59, l_60, l_61, l_62, l_64, l_83, l_90, l_97, l_99, l_100, l_108, l_115, l_122, l_123, l_127, l_128, l_131, l_135, l_200, l_255, l_256, l_300, l_487, l_495, l_900, l_999, l_1000, l_1700, l_1792, l_1980, l_2048, l_2475, l_2970, l_3121, l_9999, l_10000, l_11351, l_65536, l_100000, l_1000000, ↓l_m1, l_neg, nI_add, pk_mul, pk_sub, q_leT, q_leF, q_ltT, q_ltF, q_eqT, q_eqF, q_m1e, q_m1e2, q_m1lt, q_m1le, q_m1nl, q_m1nle, q_m1s, q_ix, q_jat, q_jput, q_min1, q_min2, q_max1, q_max2, q_or0, q_0or, q_bs, if_true, if_false, true_and, and_true, false_and, and_false, not_true_eq_false, not_false_eq_true, eq_self, Bool.false_eq_true, q_z0, q_z1, q_get, q_set, q_raise, hH i, q_bitT hb hs]
      | false =>
        have e : grs C s i = 0 := by unfold grs; rw [hb]; rfl
        rw [e]; simp (disch := omega) only [l_0, l_1, l_2, l_3, l_4, l_5, l_6, l_7, l_8, l_9, l_10, l_11, l_12, l_13, l_14, l_15, l_16, l_17, l_18, l_19, l_20, l_21, l_22, l_23, l_24, l_25, l_26, l_27, l_30, l_31, l_32, l_40, l_48, l_57, l_59, l_60, l_61, l_62, l_64, l_83, l_90, l_97, l_99, l_100, l_108, l_115, l_122, l_123, l_127, l_128, l_131, l_135, l_200, l_255, l_256, l_300, l_487, l_495, l_900, l_999, l_1000, l_1700, l_1792, l_1980, l_2048, l_2475, l_2970, l_3121, l_9999, l_10000, l_11351, l_65536, l_100000, l_1000000, ↓l_m1, l_neg, nI_add, pk_mul, pk_sub, q_leT, q_leF, q_ltT, q_ltF, q_eqT, q_eqF, q_m1e, q_m1e2, q_m1lt, q_m1le, q_m1nl, q_m1nle, q_m1s, q_ix, q_jat, q_jput, q_min1, q_min2, q_max1, q_max2, q_or0, q_0or, q_bs, if_true, if_false, true_and, and_true, false_and, and_false, not_true_eq_false, not_false_eq_true, eq_self, Bool.false_eq_true, q_z0, q_z1, q_get, q_set, q_raise, hH i, q_bitF hb hs, Nat.add_zero]
    · unfold X0_greatnessOf_b4
      simp (disch := omega) only [l_0, l_1, l_2, l_3, l_4, l_5, l_6, l_7, l_8, l_9, l_10, l_11, l_12, l_13, l_14, l_15, l_16, l_17, l_18, l_19, l_20, l_21, l_22, l_23, l_24, l_25, l_26, l_27, l_30, l_31, l_32, l_40, l_48, l_57, l_59, l_60, l_61, l_62, l_64, l_83, l_90, l_97, l_99, l_100, l_108, l_115, l_122, l_123, l_127, l_128, l_131, l_135, l_200, l_255, l_256, l_300, l_487, l_495, l_900, l_999, l_1000, l_1700, l_1792, l_1980, l_2048, l_2475, l_2970, l_3121, l_9999, l_10000, l_11351, l_65536, l_100000, l_1000000, ↓l_m1, l_neg, nI_add, pk_mul, pk_sub, q_leT, q_leF, q_ltT, q_ltF, q_eqT, q_eqF, q_m1e, q_m1e2, q_m1lt, q_m1le, q_m1nl, q_m1nle, q_m1s, q_ix, q_jat, q_jput, q_min1, q_min2, q_max1, q_max2, q_or0, q_0or, q_bs, if_true, if_false, true_and, and_true, false_and, and_false, not_true_eq_false, not_false_eq_true, eq_self, Bool.false_eq_true, q_z0, q_z1]
  rw [show ((0 : Int32), (0 : Int32)) = (nI (fb_sm (grs C s) 0), nI 0) from rfl, it, q_bs]
theorem m_greatAt {F : Nat} {C : Cy} {g : Nat → Int32} {s c : Nat} (ok : Ok C) (hM : MS C g) (hs : s < 2 ^ 31) (hc : c < 100) (hF : 100 < F) : X12_greatAt F g (nI s) (nI c) = some (nI (gsum C s c)) := by
  have o0 := ok.1
  unfold X12_greatAt
  have it : iter (X12_greatAt_b5 F g (nI s) (nI c)) F (nI (fb_sm (gat C s c) 0), nI 0) = some (nI (fb_sm (gat C s c) (C 0 0 3))) := by
    refine iter_count (b := X12_greatAt_b5 F g (nI s) (nI c)) (fun i => (nI (fb_sm (gat C s c) i), nI i)) (C 0 0 3) (fun i hi => ?_) ?_ F (by omega)
    · have e1 := ok.2.2.2.1 i hi
      unfold X12_greatAt_b5 X12_greatAt_j48 X12_greatAt_j49
      rw [fb_sm_succ]
      cases hb : s.testBit i with
      | true =>
        by_cases q : C 3 i 0 = c
        · have e : gat C s c i = C 3 i 2 := by unfold gat plc; rw [hb, decide_eq_true q]; rfl
          rw [e]; simp (disch := omega) only [l_0, l_1, l_2, l_3, l_4, l_5, l_6, l_7, l_8, l_9, l_10, l_11, l_12, l_13, l_14, l_15, l_16, l_17, l_18, l_19, l_20, l_21, l_22, l_23, l_24, l_25, l_26, l_27, l_30, l_31, l_32, l_40, l_48, l_57, l_59, l_60, l_61, l_62, l_64, l_83, l_90, l_97, l_99, l_100, l_108, l_115, l_122, l_123, l_127, l_128, l_131, l_135, l_200, l_255, l_256, l_300, l_487, l_495, l_900, l_999, l_1000, l_1700, l_1792, l_1980, l_2048, l_2475, l_2970, l_3121, l_9999, l_10000, l_11351, l_65536, l_100000, l_1000000, ↓l_m1, l_neg, nI_add, pk_mul, pk_sub, q_leT, q_leF, q_ltT, q_ltF, q_eqT, q_eqF, q_m1e, q_m1e2, q_m1lt, q_m1le, q_m1nl, q_m1nle, q_m1s, q_ix, q_jat, q_jput, q_min1, q_min2, q_max1, q_max2, q_or0, q_0or, q_bs, if_true, if_false, true_and, and_true, false_and, and_false, not_true_eq_false, not_false_eq_true, eq_self, Bool.false_eq_true, q_z0, q_z1, m_0 hM, m_E hM, m_Es hM, m_Er hM, m_H hM, m_W hM, m_R0 hM, m_R1 hM, m_R2 hM, q_isInT hb hs]
        · have e : gat C s c i = 0 := by unfold gat plc; rw [hb, decide_eq_false q]; rfl
          rw [e]; simp (disch := omega) only [l_0, l_1, l_2, l_3, l_4, l_5, l_6, l_7, l_8, l_9, l_10, l_11, l_12, l_13, l_14, l_15, l_16, l_17, l_18, l_19, l_20, l_21, l_22, l_23, l_24, l_25, l_26, l_27, l_30, l_31, l_32, l_40, l_48, l_57, l_59, l_60, l_61, l_62, l_64, l_83, l_90, l_97, l_99, l_100, l_108, l_115, l_122, l_123, l_127, l_128, l_131, l_135, l_200, l_255, l_256, l_300, l_487, l_495, l_900, l_999, l_1000, l_1700, l_1792, l_1980, l_2048, l_2475, l_2970, l_3121, l_9999, l_10000, l_11351, l_65536, l_100000, l_1000000, ↓l_m1, l_neg, nI_add, pk_mul, pk_sub, q_leT, q_leF, q_ltT, q_ltF, q_eqT, q_eqF, q_m1e, q_m1e2, q_m1lt, q_m1le, q_m1nl, q_m1nle, q_m1s, q_ix, q_jat, q_jput, q_min1, q_min2, q_max1, q_max2, q_or0, q_0or, q_bs, if_true, if_false, true_and, and_true, false_and, and_false, not_true_eq_false, not_false_eq_true, eq_self, Bool.false_eq_true, q_z0, q_z1, m_0 hM, m_E hM, m_Es hM, m_Er hM, m_H hM, m_W hM, m_R0 hM, m_R1 hM, m_R2 hM, q_isInT hb hs, Nat.add_zero]
      | false =>
        have e : gat C s c i = 0 := by unfold gat; rw [hb]; rfl
        rw [e]; simp (disch := omega) only [l_0, l_1, l_2, l_3, l_4, l_5, l_6, l_7, l_8, l_9, l_10, l_11, l_12, l_13, l_14, l_15, l_16, l_17, l_18, l_19, l_20, l_21, l_22, l_23, l_24, l_25, l_26, l_27, l_30, l_31, l_32, l_40, l_48, l_57, l_59, l_60, l_61, l_62, l_64, l_83, l_90, l_97, l_99, l_100, l_108, l_115, l_122, l_123, l_127, l_128, l_131, l_135, l_200, l_255, l_256, l_300, l_487, l_495, l_900, l_999, l_1000, l_1700, l_1792, l_1980, l_2048, l_2475, l_2970, l_3121, l_9999, l_10000, l_11351, l_65536, l_100000, l_1000000, ↓l_m1, l_neg, nI_add, pk_mul, pk_sub, q_leT, q_leF, q_ltT, q_ltF, q_eqT, q_eqF, q_m1e, q_m1e2, q_m1lt, q_m1le, q_m1nl, q_m1nle, q_m1s, q_ix, q_jat, q_jput, q_min1, q_min2, q_max1, q_max2, q_or0, q_0or, q_bs, if_true, if_false, true_and, and_true, false_and, and_false, not_true_eq_false, not_false_eq_true, eq_self, Bool.false_eq_true, q_z0, q_z1, m_0 hM, m_E hM, m_Es hM, m_Er hM, m_H hM, m_W hM, m_R0 hM, m_R1 hM, m_R2 hM, q_isInF hb hs, Nat.add_zero]
    · unfold X12_greatAt_b5
      simp (disch := omega) only [l_0, l_1, l_2, l_3, l_4, l_5, l_6, l_7, l_8, l_9, l_10, l_11, l_12, l_13, l_14, l_15, l_16, l_17, l_18, l_19, l_20, l_21, l_22, l_23, l_24, l_25, l_26, l_27, l_30, l_31, l_32, l_40, l_48, l_57, l_59, l_60, l_61, l_62, l_64, l_83, l_90, l_97, l_99, l_100, l_108, l_115, l_122, l_123, l_127, l_128, l_131, l_135, l_200, l_255, l_256, l_300, l_487, l_495, l_900, l_999, l_1000, l_1700, l_1792, l_1980, l_2048, l_2475, l_2970, l_3121, l_9999, l_10000, l_11351, l_65536, l_100000, l_1000000, ↓l_m1, l_neg, nI_add, pk_mul, pk_sub, q_leT, q_leF, q_ltT, q_ltF, q_eqT, q_eqF, q_m1e, q_m1e2, q_m1lt, q_m1le, q_m1nl, q_m1nle, q_m1s, q_ix, q_jat, q_jput, q_min1, q_min2, q_max1, q_max2, q_or0, q_0or, q_bs, if_true, if_false, true_and, and_true, false_and, and_false, not_true_eq_false, not_false_eq_true, eq_self, Bool.false_eq_true, q_z0, q_z1, m_0 hM, m_E hM, m_Es hM, m_Er hM, m_H hM, m_W hM, m_R0 hM, m_R1 hM, m_R2 hM]
  rw [show ((0 : Int32), (0 : Int32)) = (nI (fb_sm (gat C s c) 0), nI 0) from rfl, it, q_bs]; rfl
theorem grs_and {C : Cy} {s c : Nat} : fb_sm (grs C (s &&& setOf (plc C c) (C 0 0 3))) (C 0 0 3) = gsum C s c := by
  unfold gsum
  refine fb_sm_cong (fun k hk => ?_)
  unfold grs gat
  rw [Nat.testBit_and, setBit hk]
/-- the set s tells all corners of tray t -/
def exP (C : Cy) (f : Nat → Int64) (t s c : Nat) : Bool := decide (lg_cmp (nI (gsum C s c)).toInt64 (f (60 * t + c)) = 0)
def exA (C : Cy) (f : Nat → Int64) (t s : Nat) : Bool := allB (exP C f t s) (C 0 0 0)
theorem c_explains {F : Nat} {C : Cy} {hf sz : Nat → Int32} {f : Nat → Int64} {t k s : Nat} (ok : Ok C) (hH : CH C hf) (ht : t < 4) (hk : k ≤ 60) (hsz : sz t = nI k) (hn : C 0 0 0 ≤ k) (hs : s < 2 ^ 31) (hF : 100 < F) : X11_explains F (nI (C 0 0 0)) (nI (C 0 0 3)) hf f sz (nI s) (nI t) = some (zb (exA C f t s)) := by
  have o0 := ok.1
  have it : iter (X11_explains_b2 F (nI (C 0 0 0)) (nI (C 0 0 3)) hf f sz (nI s) (nI t)) F 0 = some (if exA C f t s then .inr () else .inl ()) := by
    refine it_all (exP C f t s) (C 0 0 0) (fun i hi => ?_) ?_ (by omega)
    · have p1 := c_place (F := F) (c := i) ok hH (by omega) hF
      have p2 := c_great (F := F) (s := s &&& setOf (plc C i) (C 0 0 3)) ok hH (and_lt31 hs) hF
      rw [grs_and] at p2
      have p3 := tr_get (f := f) (j := i) ht hk hsz (by omega)
      unfold X11_explains_b2
      by_cases q : lg_cmp (nI (gsum C s i)).toInt64 (f (60 * t + i)) = nI 0
      · have e : exP C f t s i = true := decide_eq_true q
        simp (disch := omega) only [l_0, l_1, l_2, l_3, l_4, l_5, l_6, l_7, l_8, l_9, l_10, l_11, l_12, l_13, l_14, l_15, l_16, l_17, l_18, l_19, l_20, l_21, l_22, l_23, l_24, l_25, l_26, l_27, l_30, l_31, l_32, l_40, l_48, l_57, l_59, l_60, l_61, l_62, l_64, l_83, l_90, l_97, l_99, l_100, l_108, l_115, l_122, l_123, l_127, l_128, l_131, l_135, l_200, l_255, l_256, l_300, l_487, l_495, l_900, l_999, l_1000, l_1700, l_1792, l_1980, l_2048, l_2475, l_2970, l_3121, l_9999, l_10000, l_11351, l_65536, l_100000, l_1000000, ↓l_m1, l_neg, nI_add, pk_mul, pk_sub, q_leT, q_leF, q_ltT, q_ltF, q_eqT, q_eqF, q_m1e, q_m1e2, q_m1lt, q_m1le, q_m1nl, q_m1nle, q_m1s, q_ix, q_jat, q_jput, q_min1, q_min2, q_max1, q_max2, q_or0, q_0or, q_bs, if_true, if_false, true_and, and_true, false_and, and_false, not_true_eq_false, not_false_eq_true, eq_self, Bool.false_eq_true, q_z0, q_z1, p1, fa_and, p2, p3, q, e]
      · have e : exP C f t s i = false := decide_eq_false q
        simp (disch := omega) only [l_0, l_1, l_2, l_3, l_4, l_5, l_6, l_7, l_8, l_9, l_10, l_11, l_12, l_13, l_14, l_15, l_16, l_17, l_18, l_19, l_20, l_21, l_22, l_23, l_24, l_25, l_26, l_27, l_30, l_31, l_32, l_40, l_48, l_57, l_59, l_60, l_61, l_62, l_64, l_83, l_90, l_97, l_99, l_100, l_108, l_115, l_122, l_123, l_127, l_128, l_131, l_135, l_200, l_255, l_256, l_300, l_487, l_495, l_900, l_999, l_1000, l_1700, l_1792, l_1980, l_2048, l_2475, l_2970, l_3121, l_9999, l_10000, l_11351, l_65536, l_100000, l_1000000, ↓l_m1, l_neg, nI_add, pk_mul, pk_sub, q_leT, q_leF, q_ltT, q_ltF, q_eqT, q_eqF, q_m1e, q_m1e2, q_m1lt, q_m1le, q_m1nl, q_m1nle, q_m1s, q_ix, q_jat, q_jput, q_min1, q_min2, q_max1, q_max2, q_or0, q_0or, q_bs, if_true, if_false, true_and, and_true, false_and, and_false, not_true_eq_false, not_false_eq_true, eq_self, Bool.false_eq_true, q_z0, q_z1, p1, fa_and, p2, p3, q, e]
    · unfold X11_explains_b2
      simp (disch := omega) only [l_0, l_1, l_2, l_3, l_4, l_5, l_6, l_7, l_8, l_9, l_10, l_11, l_12, l_13, l_14, l_15, l_16, l_17, l_18, l_19, l_20, l_21, l_22, l_23, l_24, l_25, l_26, l_27, l_30, l_31, l_32, l_40, l_48, l_57, l_59, l_60, l_61, l_62, l_64, l_83, l_90, l_97, l_99, l_100, l_108, l_115, l_122, l_123, l_127, l_128, l_131, l_135, l_200, l_255, l_256, l_300, l_487, l_495, l_900, l_999, l_1000, l_1700, l_1792, l_1980, l_2048, l_2475, l_2970, l_3121, l_9999, l_10000, l_11351, l_65536, l_100000, l_1000000, ↓l_m1, l_neg, nI_add, pk_mul, pk_sub, q_leT, q_leF, q_ltT, q_ltF, q_eqT, q_eqF, q_m1e, q_m1e2, q_m1lt, q_m1le, q_m1nl, q_m1nle, q_m1s, q_ix, q_jat, q_jput, q_min1, q_min2, q_max1, q_max2, q_or0, q_0or, q_bs, if_true, if_false, true_and, and_true, false_and, and_false, not_true_eq_false, not_false_eq_true, eq_self, Bool.false_eq_true, q_z0, q_z1]
  unfold X11_explains
  rw [it, q_bs]
  cases exA C f t s <;> rfl
theorem m_exp_it {F : Nat} {C : Cy} {g : Nat → Int32} {f : Nat → Int64} {t s : Nat} (ok : Ok C) (hM : MS C g) (ht : t < 4) (hs : s < 2 ^ 31) (hF : 100 < F) : iter (X12_explains_b16 F g f (nI s) (nI t)) F 0 = some (if exA C f t s then .inr () else .inl ()) := by
  have o0 := ok.1
  refine it_all (exP C f t s) (C 0 0 0) (fun i hi => ?_) ?_ (by omega)
  · have p2 := m_greatAt (F := F) (s := s) (c := i) ok hM hs (by omega) hF
    unfold X12_explains_b16
    by_cases q : lg_cmp (nI (gsum C s i)).toInt64 (f (60 * t + i)) = nI 0
    · have e : exP C f t s i = true := decide_eq_true q
      simp (disch := omega) only [l_0, l_1, l_2, l_3, l_4, l_5, l_6, l_7, l_8, l_9, l_10, l_11, l_12, l_13, l_14, l_15, l_16, l_17, l_18, l_19, l_20, l_21, l_22, l_23, l_24, l_25, l_26, l_27, l_30, l_31, l_32, l_40, l_48, l_57, l_59, l_60, l_61, l_62, l_64, l_83, l_90, l_97, l_99, l_100, l_108, l_115, l_122, l_123, l_127, l_128, l_131, l_135, l_200, l_255, l_256, l_300, l_487, l_495, l_900, l_999, l_1000, l_1700, l_1792, l_1980, l_2048, l_2475, l_2970, l_3121, l_9999, l_10000, l_11351, l_65536, l_100000, l_1000000, ↓l_m1, l_neg, nI_add, pk_mul, pk_sub, q_leT, q_leF, q_ltT, q_ltF, q_eqT, q_eqF, q_m1e, q_m1e2, q_m1lt, q_m1le, q_m1nl, q_m1nle, q_m1s, q_ix, q_jat, q_jput, q_min1, q_min2, q_max1, q_max2, q_or0, q_0or, q_bs, if_true, if_false, true_and, and_true, false_and, and_false, not_true_eq_false, not_false_eq_true, eq_self, Bool.false_eq_true, q_z0, q_z1, m_0 hM, m_E hM, m_Es hM, m_Er hM, m_H hM, m_W hM, m_R0 hM, m_R1 hM, m_R2 hM, p2, q, e]
    · have e : exP C f t s i = false := decide_eq_false q
      simp (disch := omega) only [l_0, l_1, l_2, l_3, l_4, l_5, l_6, l_7, l_8, l_9, l_10, l_11, l_12, l_13, l_14, l_15, l_16, l_17, l_18, l_19, l_20, l_21, l_22, l_23, l_24, l_25, l_26, l_27, l_30, l_31, l_32, l_40, l_48, l_57, l_59, l_60, l_61, l_62, l_64, l_83, l_90, l_97, l_99, l_100, l_108, l_115, l_122, l_123, l_127, l_128, l_131, l_135, l_200, l_255, l_256, l_300, l_487, l_495, l_900, l_999, l_1000, l_1700, l_1792, l_1980, l_2048, l_2475, l_2970, l_3121, l_9999, l_10000, l_11351, l_65536, l_100000, l_1000000, ↓l_m1, l_neg, nI_add, pk_mul, pk_sub, q_leT, q_leF, q_ltT, q_ltF, q_eqT, q_eqF, q_m1e, q_m1e2, q_m1lt, q_m1le, q_m1nl, q_m1nle, q_m1s, q_ix, q_jat, q_jput, q_min1, q_min2, q_max1, q_max2, q_or0, q_0or, q_bs, if_true, if_false, true_and, and_true, false_and, and_false, not_true_eq_false, not_false_eq_true, eq_self, Bool.false_eq_true, q_z0, q_z1, m_0 hM, m_E hM, m_Es hM, m_Er hM, m_H hM, m_W hM, m_R0 hM, m_R1 hM, m_R2 hM, p2, q, e]
  · unfold X12_explains_b16
    simp (disch := omega) only [l_0, l_1, l_2, l_3, l_4, l_5, l_6, l_7, l_8, l_9, l_10, l_11, l_12, l_13, l_14, l_15, l_16, l_17, l_18, l_19, l_20, l_21, l_22, l_23, l_24, l_25, l_26, l_27, l_30, l_31, l_32, l_40, l_48, l_57, l_59, l_60, l_61, l_62, l_64, l_83, l_90, l_97, l_99, l_100, l_108, l_115, l_122, l_123, l_127, l_128, l_131, l_135, l_200, l_255, l_256, l_300, l_487, l_495, l_900, l_999, l_1000, l_1700, l_1792, l_1980, l_2048, l_2475, l_2970, l_3121, l_9999, l_10000, l_11351, l_65536, l_100000, l_1000000, ↓l_m1, l_neg, nI_add, pk_mul, pk_sub, q_leT, q_leF, q_ltT, q_ltF, q_eqT, q_eqF, q_m1e, q_m1e2, q_m1lt, q_m1le, q_m1nl, q_m1nle, q_m1s, q_ix, q_jat, q_jput, q_min1, q_min2, q_max1, q_max2, q_or0, q_0or, q_bs, if_true, if_false, true_and, and_true, false_and, and_false, not_true_eq_false, not_false_eq_true, eq_self, Bool.false_eq_true, q_z0, q_z1, m_0 hM, m_E hM, m_Es hM, m_Er hM, m_H hM, m_W hM, m_R0 hM, m_R1 hM, m_R2 hM]
/-! subsets as numbers -/
def sub (s d : Nat) : Bool := decide (s &&& d = s)
theorem subI : ∀ s, s < 256 → ∀ d, d < 256 → ((nI s &&& (nI d ^^^ -1)) = 0 ↔ s &&& d = s) := by
  intro s hs d hd
  have e1 : nI d ^^^ (-1 : Int32) = nI (4294967295 ^^^ d) := by
    rw [show (-1 : Int32) = nI 4294967295 from by decide, fb_xorI, Nat.xor_comm]
  rw [e1, fa_and]
  have hlt : s &&& (4294967295 ^^^ d) ≤ s := Nat.and_le_left
  rw [show (0 : Int32) = nI 0 from rfl, nI_eq (by omega) (by omega)]
  have tb : ∀ i, (4294967295 ^^^ d).testBit i = (decide (i < 32) ^^ d.testBit i) := by
    intro i; rw [Nat.testBit_xor, show (4294967295 : Nat) = 2 ^ 32 - 1 from rfl, Nat.testBit_two_pow_sub_one]
  constructor
  · intro h
    refine Nat.eq_of_testBit_eq (fun i => ?_)
    have hi : (s &&& (4294967295 ^^^ d)).testBit i = false := by rw [h]; exact Nat.zero_testBit i
    rw [Nat.testBit_and, tb] at hi
    rw [Nat.testBit_and]
    by_cases q : i < 32
    · rw [decide_eq_true q] at hi
      cases hsb : s.testBit i <;> cases hdb : d.testBit i <;> simp [hsb, hdb] at hi ⊢
    · have z : s.testBit i = false := Nat.testBit_lt_two_pow (Nat.lt_of_lt_of_le hs (Nat.le_trans (show 256 ≤ 2 ^ 32 by decide) (Nat.pow_le_pow_right (by omega) (by omega))))
      rw [z]; rfl
  · intro h
    refine Nat.eq_of_testBit_eq (fun i => ?_)
    rw [Nat.zero_testBit, Nat.testBit_and, tb]
    have hi : (s &&& d).testBit i = s.testBit i := by rw [h]
    rw [Nat.testBit_and] at hi
    by_cases q : i < 32
    · rw [decide_eq_true q]
      cases hsb : s.testBit i <;> cases hdb : d.testBit i <;> simp [hsb, hdb] at hi ⊢
    · have z : s.testBit i = false := Nat.testBit_lt_two_pow (Nat.lt_of_lt_of_le hs (Nat.le_trans (show 256 ≤ 2 ^ 32 by decide) (Nat.pow_le_pow_right (by omega) (by omega))))
      rw [z]; rfl
theorem q_subT {s d : Nat} (h : sub s d = true) (hs : s < 256) (hd : d < 256) : ((nI s &&& (nI d ^^^ m1)) = nI 0) = True := eq_true ((subI s hs d hd).mpr (of_decide_eq_true h))
theorem q_subF {s d : Nat} (h : sub s d = false) (hs : s < 256) (hd : d < 256) : ((nI s &&& (nI d ^^^ m1)) = nI 0) = False := eq_false (fun z => of_decide_eq_false h ((subI s hs d hd).mp z))
theorem sub_le {s d : Nat} (h : sub s d = true) : s ≤ d := by
  have := of_decide_eq_true h
  rw [← this]; exact Nat.and_le_right
def tcs (C : Cy) : Nat := setOf (fate C 0) (C 0 0 3)
def good (C : Cy) (f : Nat → Int64) (t s : Nat) : Bool := sub s (tcs C) && exA C f t s
theorem m_explains {F : Nat} {C : Cy} {g : Nat → Int32} {f : Nat → Int64} {t s : Nat} (ok : Ok C) (hM : MS C g) (ht : t < 4) (hs : s < 256) (hF : 100 < F) : X12_explains F g f (nI s) (nI t) = some (zb (good C f t s)) := by
  have o0 := ok.1
  have it := m_exp_it (F := F) (f := f) (t := t) (s := s) ok hM ht (by omega) hF
  have tl : tcs C < 256 := fateSet_lt ok 0
  have th : X12_happeningsThat F g (nI 0) = some (nI (tcs C)) := m_that ok hM (by omega) hF
  unfold X12_explains good
  rw [show (0 : Int32) = nI 0 from rfl, th, q_bs, show (-1 : Int32) = m1 from rfl]
  cases h : sub s (tcs C) with
  | true =>
    rw [if_pos (of_eq_true (q_subT h hs tl)), show nI 0 = (0 : Int32) from rfl, it, q_bs, Bool.true_and]
    cases exA C f t s <;> rfl
  | false =>
    rw [if_neg (fun z => of_eq_true (p := ((nI s &&& (nI (tcs C) ^^^ m1)) = nI 0) = False) (eq_true (q_subF h hs tl)) ▸ z), Bool.false_and]; rfl
theorem pow_nH {C : Cy} (ok : Ok C) : 2 ^ C 0 0 3 ≤ 256 := Nat.pow_le_pow_right (n := 2) (by omega) (show C 0 0 3 ≤ 8 by have := ok.1; omega)
theorem fct_tail {p : Nat → Bool} {a b : Nat} (hab : a ≤ b) (h : ∀ k, a ≤ k → k < b → p k = false) : fb_ct p b = fb_ct p a := by
  obtain ⟨d, rfl⟩ : ∃ d, b = a + d := ⟨b - a, by omega⟩
  rw [fb_ct_split]
  have : fb_ct (fun k => p (a + k)) d = 0 := fb_ct_zero.mpr (fun k hk => h (a + k) (by omega) (by omega))
  omega
