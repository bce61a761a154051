/-! ===== PURE 18.f: fewest: the model's side ===== -/
theorem next_sub : ∀ s p q, p &&& s = p → q &&& s = q → q < p → q ≤ (p - 1) &&& s := by
  intro s
  induction s using Nat.strongRecOn with
  | ind s ih =>
    intro p q hp hq h
    by_cases h0 : s = 0
    · rw [h0, Nat.and_zero] at hp; omega
    have r2 : ((p - 1) &&& s) / 2 = (p - 1) / 2 &&& s / 2 := Nat.and_div_two
    have p2 : p / 2 &&& s / 2 = p / 2 := by rw [← Nat.and_div_two, hp]
    have q2 : q / 2 &&& s / 2 = q / 2 := by rw [← Nat.and_div_two, hq]
    have r1 : ((p - 1) &&& s) % 2 = 1 ↔ (p - 1) % 2 = 1 ∧ s % 2 = 1 := Nat.and_mod_two_eq_one
    have q1 : (q &&& s) % 2 = 1 ↔ q % 2 = 1 ∧ s % 2 = 1 := Nat.and_mod_two_eq_one
    rw [hq] at q1
    by_cases b : p % 2 = 1
    · rw [show (p - 1) / 2 = p / 2 by omega, p2] at r2
      omega
    · have i := ih (s / 2) (by omega) (p / 2) (q / 2) p2 q2 (by omega)
      rw [show (p - 1) / 2 = p / 2 - 1 by omega] at r2
      rw [← r2] at i
      by_cases s1 : s % 2 = 1
      · have := r1.mpr ⟨by omega, s1⟩
        omega
      · have : ¬ q % 2 = 1 := fun z => s1 (q1.mp z).2
        omega
def dif (s p : Nat) : Nat := s &&& (255 ^^^ p)
theorem dif_bit {s p k : Nat} (hs : s < 256) : (dif s p).testBit k = (s.testBit k && !p.testBit k) := by
  unfold dif
  rw [Nat.testBit_and, Nat.testBit_xor, show (255 : Nat) = 2 ^ 8 - 1 from rfl, Nat.testBit_two_pow_sub_one]
  by_cases q : k < 8
  · rw [decide_eq_true q]; cases s.testBit k <;> cases p.testBit k <;> rfl
  · rw [lt_bit (show s < 2 ^ 8 from hs) (by omega)]; rfl
theorem q_dif {s p : Nat} (hs : s < 256) : nI s &&& (nI p ^^^ m1) = nI (dif s p) := by
  have e1 : nI p ^^^ m1 = nI (4294967295 ^^^ p) := by
    rw [show m1 = nI 4294967295 from by decide, fb_xorI, Nat.xor_comm]
  rw [e1, fa_and]
  congr 1
  refine Nat.eq_of_testBit_eq (fun k => ?_)
  rw [dif_bit hs, Nat.testBit_and, Nat.testBit_xor, show (4294967295 : Nat) = 2 ^ 32 - 1 from rfl, Nat.testBit_two_pow_sub_one]
  by_cases q : k < 8
  · rw [decide_eq_true (show k < 32 by omega)]; cases s.testBit k <;> cases p.testBit k <;> rfl
  · rw [lt_bit (show s < 2 ^ 8 from hs) (by omega)]; rfl
theorem q_jputZ (f : Nat → Int32) {k : Nat} (b : Bool) (h : k < 2 ^ 31) : jputZ f (nI k) (zb b) = upd f k (zb b) := by
  unfold jputZ
  have e : vp_nar .boolean (zb b) = zb b := by cases b <;> decide
  have := jput_nI f (vp_nar .boolean (zb b)) h
  rw [e] at this ⊢
  exact this
def attA (C : Cy) (L : Nat → Nat) (n x p : Nat) : Bool := sub p (openS C) && att C L n x p
theorem m_attends {F : Nat} {C : Cy} {g f0 f1 : Nat → Int32} {n : Nat} {L : Nat → Nat} (ok : Ok C) (hM : MS C g) (hL : LineOK C (C 0 0 3) n L) (hF : 2000 < F) :
    ∃ ff fa, X12_laysAttends F g f0 f1 = some (ff, fa) ∧ ∀ x p, x < C 0 0 2 → p < 256 → fa (256 * x + p) = zb (attA C L n x p) := by
  have o0 := ok.1
  have p8 := pow_nH ok
  have ol : openS C < 2 ^ C 0 0 3 := setOf_lt _ _
  obtain ⟨ff, m1', m2⟩ := m_laysFar (F := F) (f := f0) ok hM (by omega)
  have ma := m_ahead0 (F := F) ok hM (by omega)
  obtain ⟨fa, h1, h2⟩ := it_rel (b := X12_laysAttends_b11 F g ff (nI (openS C))) (256 * C 0 0 2)
    (fun i s => ∃ f, s = (nI i, f) ∧ ∀ k, k < i → f k = zb (attA C L n (k / 256) (k % 256)))
    (fun f => ∀ k, k < 256 * C 0 0 2 → f k = zb (attA C L n (k / 256) (k % 256))) (fun i s hi hs => by
      obtain ⟨f, rfl, hf⟩ := hs
      have rm := q_rem (a := i) (d := 256) (by omega) (by omega) (by omega)
      have dv := pk_div (a := i) (d := 256) (by omega) (by omega) (by omega)
      refine Or.inl ⟨(nI (i + 1), upd f i (zb (attA C L n (i / 256) (i % 256)))), ?_, _, rfl, fun k hk => ?_⟩
      · unfold attA X12_laysAttends_b11 X12_laysAttends_j63 X12_laysAttends_j64
        cases q : sub (i % 256) (openS C) with
        | false =>
          have jz := q_jputZ f (k := i) false (by omega)
          rw [zb_f] at jz
          simp (disch := omega) only [l_0, l_1, l_2, l_3, l_4, l_5, l_6, l_7, l_8, l_9, l_10, l_11, l_12, l_13, l_14, l_15, l_16, l_17, l_18, l_19, l_20, l_21, l_22, l_23, l_24, l_25, l_26, l_27, l_30, l_31, l_32, l_40, l_48, l_57, l_59, l_60, l_61, l_62, l_64, l_83, l_90, l_97, l_99, l_100, l_108, l_115, l_122, l_123, l_127, l_128, l_131, l_135, l_200, l_255, l_256, l_300, l_487, l_495, l_900, l_999, l_1000, l_1700, l_1792, l_1980, l_2048, l_2475, l_2970, l_3121, l_9999, l_10000, l_11351, l_65536, l_100000, l_1000000, ↓l_m1, l_neg, nI_add, pk_mul, pk_sub, q_leT, q_leF, q_ltT, q_ltF, q_eqT, q_eqF, q_m1e, q_m1e2, q_m1lt, q_m1le, q_m1nl, q_m1nle, q_m1s, q_ix, q_jat, q_jput, q_min1, q_min2, q_max1, q_max2, q_or0, q_0or, q_bs, if_true, if_false, true_and, and_true, false_and, and_false, not_true_eq_false, not_false_eq_true, eq_self, Bool.false_eq_true, q_z0, q_z1, m_0 hM, m_E hM, m_Es hM, m_Er hM, m_H hM, m_W hM, m_R0 hM, m_R1 hM, m_R2 hM, rm, q_subF q, Bool.false_and, zb_f, jz]
        | true =>
          have mc := m_canAttend (F := F) (x := i / 256) (s := i % 256) ok hM m2 hL (by omega) q (by omega) (by omega)
          cases z : att C L n (i / 256) (i % 256) with
          | false =>
            have jz := q_jputZ f (k := i) false (by omega)
            rw [zb_f] at jz
            rw [z, zb_f] at mc
            simp (disch := omega) only [l_0, l_1, l_2, l_3, l_4, l_5, l_6, l_7, l_8, l_9, l_10, l_11, l_12, l_13, l_14, l_15, l_16, l_17, l_18, l_19, l_20, l_21, l_22, l_23, l_24, l_25, l_26, l_27, l_30, l_31, l_32, l_40, l_48, l_57, l_59, l_60, l_61, l_62, l_64, l_83, l_90, l_97, l_99, l_100, l_108, l_115, l_122, l_123, l_127, l_128, l_131, l_135, l_200, l_255, l_256, l_300, l_487, l_495, l_900, l_999, l_1000, l_1700, l_1792, l_1980, l_2048, l_2475, l_2970, l_3121, l_9999, l_10000, l_11351, l_65536, l_100000, l_1000000, ↓l_m1, l_neg, nI_add, pk_mul, pk_sub, q_leT, q_leF, q_ltT, q_ltF, q_eqT, q_eqF, q_m1e, q_m1e2, q_m1lt, q_m1le, q_m1nl, q_m1nle, q_m1s, q_ix, q_jat, q_jput, q_min1, q_min2, q_max1, q_max2, q_or0, q_0or, q_bs, if_true, if_false, true_and, and_true, false_and, and_false, not_true_eq_false, not_false_eq_true, eq_self, Bool.false_eq_true, q_z0, q_z1, m_0 hM, m_E hM, m_Es hM, m_Er hM, m_H hM, m_W hM, m_R0 hM, m_R1 hM, m_R2 hM, rm, dv, q_subT q, mc, Bool.and_false, zb_f, jz]
          | true =>
            have jz := q_jputZ f (k := i) true (by omega)
            rw [zb_t] at jz
            rw [z, zb_t] at mc
            simp (disch := omega) only [l_0, l_1, l_2, l_3, l_4, l_5, l_6, l_7, l_8, l_9, l_10, l_11, l_12, l_13, l_14, l_15, l_16, l_17, l_18, l_19, l_20, l_21, l_22, l_23, l_24, l_25, l_26, l_27, l_30, l_31, l_32, l_40, l_48, l_57, l_59, l_60, l_61, l_62, l_64, l_83, l_90, l_97, l_99, l_100, l_108, l_115, l_122, l_123, l_127, l_128, l_131, l_135, l_200, l_255, l_256, l_300, l_487, l_495, l_900, l_999, l_1000, l_1700, l_1792, l_1980, l_2048, l_2475, l_2970, l_3121, l_9999, l_10000, l_11351, l_65536, l_100000, l_1000000, ↓l_m1, l_neg, nI_add, pk_mul, pk_sub, q_leT, q_leF, q_ltT, q_ltF, q_eqT, q_eqF, q_m1e, q_m1e2, q_m1lt, q_m1le, q_m1nl, q_m1nle, q_m1s, q_ix, q_jat, q_jput, q_min1, q_min2, q_max1, q_max2, q_or0, q_0or, q_bs, if_true, if_false, true_and, and_true, false_and, and_false, not_true_eq_false, not_false_eq_true, eq_self, Bool.false_eq_true, q_z0, q_z1, m_0 hM, m_E hM, m_Es hM, m_Er hM, m_H hM, m_W hM, m_R0 hM, m_R1 hM, m_R2 hM, rm, dv, q_subT q, mc, Bool.and_true, zb_t, jz]
      · by_cases e : k = i
        · rw [e, pk_us]
        · rw [pk_un e]; exact hf k (by omega)) (fun s hs => by
      obtain ⟨f, rfl, hf⟩ := hs
      refine ⟨f, ?_, hf⟩
      unfold X12_laysAttends_b11
      simp (disch := omega) only [l_0, l_1, l_2, l_3, l_4, l_5, l_6, l_7, l_8, l_9, l_10, l_11, l_12, l_13, l_14, l_15, l_16, l_17, l_18, l_19, l_20, l_21, l_22, l_23, l_24, l_25, l_26, l_27, l_30, l_31, l_32, l_40, l_48, l_57, l_59, l_60, l_61, l_62, l_64, l_83, l_90, l_97, l_99, l_100, l_108, l_115, l_122, l_123, l_127, l_128, l_131, l_135, l_200, l_255, l_256, l_300, l_487, l_495, l_900, l_999, l_1000, l_1700, l_1792, l_1980, l_2048, l_2475, l_2970, l_3121, l_9999, l_10000, l_11351, l_65536, l_100000, l_1000000, ↓l_m1, l_neg, nI_add, pk_mul, pk_sub, q_leT, q_leF, q_ltT, q_ltF, q_eqT, q_eqF, q_m1e, q_m1e2, q_m1lt, q_m1le, q_m1nl, q_m1nle, q_m1s, q_ix, q_jat, q_jput, q_min1, q_min2, q_max1, q_max2, q_or0, q_0or, q_bs, if_true, if_false, true_and, and_true, false_and, and_false, not_true_eq_false, not_false_eq_true, eq_self, Bool.false_eq_true, q_z0, q_z1, m_0 hM, m_E hM, m_Es hM, m_Er hM, m_H hM, m_W hM, m_R0 hM, m_R1 hM, m_R2 hM]) (s0 := (nI 0, f1)) ⟨f1, rfl, fun k hk => by omega⟩ (show 256 * C 0 0 2 < F by omega)
  refine ⟨ff, fa, ?_, fun x p hx hp => ?_⟩
  · unfold X12_laysAttends
    rw [m1', q_bs, ma, q_bs, show ((0 : Int32), f1) = (nI 0, f1) from rfl, h1, q_bs]
  · rw [h2 _ (by omega)]
    congr 2 <;> omega
/-- what extras below k of a team can cover -/
def cov (A : Nat → Nat → Bool) (T : Nat) : Nat → Nat → Prop
  | 0, s => s = 0
  | x + 1, s => cov A T x s ∨ (T.testBit x = true ∧ ∃ p, 0 < p ∧ sub p s = true ∧ cov A T x (dif s p) ∧ A x p = true)
def cvd (f : Nat → Int32) (P : Nat → Prop) (s : Nat) : Prop := (f s = nI 1 ∧ P s) ∨ (f s = nI 0 ∧ ¬ P s)
theorem cvd_1 {f : Nat → Int32} {P : Nat → Prop} {s : Nat} (h : cvd f P s) (e : f s = nI 1) : P s := by
  rcases h with h | h
  · exact h.2
  · rw [h.1] at e; exact absurd e (by decide)
theorem cvd_0 {f : Nat → Int32} {P : Nat → Prop} {s : Nat} (h : cvd f P s) (e : f s = nI 0) : ¬ P s := by
  rcases h with h | h
  · rw [h.1] at e; exact absurd e (by decide)
  · exact h.2
theorem sub_0 (s : Nat) : sub 0 s = true := by unfold sub; rw [Nat.zero_and]; rfl
theorem sub_self (s : Nat) : sub s s = true := by unfold sub; rw [Nat.and_self]; exact decide_eq_true rfl
theorem m_part {F : Nat} {g fa f0 : Nat → Int32} {A : Nat → Nat → Bool} {P : Nat → Prop} {x s N : Nat} (hN : N ≤ 256) (hs : s < N) (hx : x < 7) (hA : ∀ p, p < 256 → fa (256 * x + p) = zb (A x p)) (hf : ∀ t, t ≤ s → cvd f0 P t) (hF : 2000 < F) :
    ∃ f2, iter (X12_covers_b17 F g fa (nI x) (nI s)) F (nI s, f0) = some f2 ∧ (∀ k, k ≠ s → f2 k = f0 k) ∧ cvd f2 (fun s => P s ∨ ∃ p, 0 < p ∧ sub p s = true ∧ P (dif s p) ∧ A x p = true) s := by
  obtain ⟨f2, h1, h2⟩ := it_rel (b := X12_covers_b17 F g fa (nI x) (nI s)) s
    (fun i st => ∃ p f, st = (nI p, f) ∧ sub p s = true ∧ p + i ≤ s ∧ ((f = f0 ∧ ∀ q, sub q s = true → p < q → ¬ (P (dif s q) ∧ A x q = true)) ∨ (f = upd f0 s (nI 1) ∧ ∃ p, 0 < p ∧ sub p s = true ∧ P (dif s p) ∧ A x p = true)))
    (fun f => (f = f0 ∧ (f0 s = nI 1 ∨ ∀ q, sub q s = true → 0 < q → ¬ (P (dif s q) ∧ A x q = true))) ∨ (f = upd f0 s (nI 1) ∧ ∃ p, 0 < p ∧ sub p s = true ∧ P (dif s p) ∧ A x p = true)) (fun i st hi hst => by
      obtain ⟨p, f, rfl, sp, pi, hh⟩ := hst
      have e1 := of_decide_eq_true sp
      by_cases p0 : p = 0
      · subst p0
        refine Or.inr ⟨f, ?_, ?_⟩
        · unfold X12_covers_b17
          simp (disch := omega) only [l_0, l_1, l_2, l_3, l_4, l_5, l_6, l_7, l_8, l_9, l_10, l_11, l_12, l_13, l_14, l_15, l_16, l_17, l_18, l_19, l_20, l_21, l_22, l_23, l_24, l_25, l_26, l_27, l_30, l_31, l_32, l_40, l_48, l_57, l_59, l_60, l_61, l_62, l_64, l_83, l_90, l_97, l_99, l_100, l_108, l_115, l_122, l_123, l_127, l_128, l_131, l_135, l_200, l_255, l_256, l_300, l_487, l_495, l_900, l_999, l_1000, l_1700, l_1792, l_1980, l_2048, l_2475, l_2970, l_3121, l_9999, l_10000, l_11351, l_65536, l_100000, l_1000000, ↓l_m1, l_neg, nI_add, pk_mul, pk_sub, q_leT, q_leF, q_ltT, q_ltF, q_eqT, q_eqF, q_m1e, q_m1e2, q_m1lt, q_m1le, q_m1nl, q_m1nle, q_m1s, q_ix, q_jat, q_jput, q_min1, q_min2, q_max1, q_max2, q_or0, q_0or, q_bs, if_true, if_false, true_and, and_true, false_and, and_false, not_true_eq_false, not_false_eq_true, eq_self, Bool.false_eq_true, q_z0, q_z1]
        · rcases hh with ⟨a, b⟩ | ⟨a, b⟩
          · exact Or.inl ⟨a, Or.inr b⟩
          · exact Or.inr ⟨a, b⟩
      have nx : (nI p - nI 1) &&& nI s = nI ((p - 1) &&& s) := by rw [pk_sub (by omega), fa_and]
      have nl : (p - 1) &&& s ≤ p - 1 := Nat.and_le_left
      have ns : sub ((p - 1) &&& s) s = true := sub_iff.mpr (fun k hk => by rw [Nat.testBit_and, Bool.and_eq_true] at hk; exact hk.2)
      have dl : dif s p ≤ s := Nat.and_le_left
      have qd := q_dif (s := s) (p := p) (by omega)
      have gA := hA p (by omega)
      rcases hh with ⟨rfl, b⟩ | ⟨rfl, b⟩
      · rcases hf s (Nat.le_refl _) with c | c
        · refine Or.inr ⟨f, ?_, Or.inl ⟨rfl, Or.inl c.1⟩⟩
          unfold X12_covers_b17
          simp (disch := omega) only [l_0, l_1, l_2, l_3, l_4, l_5, l_6, l_7, l_8, l_9, l_10, l_11, l_12, l_13, l_14, l_15, l_16, l_17, l_18, l_19, l_20, l_21, l_22, l_23, l_24, l_25, l_26, l_27, l_30, l_31, l_32, l_40, l_48, l_57, l_59, l_60, l_61, l_62, l_64, l_83, l_90, l_97, l_99, l_100, l_108, l_115, l_122, l_123, l_127, l_128, l_131, l_135, l_200, l_255, l_256, l_300, l_487, l_495, l_900, l_999, l_1000, l_1700, l_1792, l_1980, l_2048, l_2475, l_2970, l_3121, l_9999, l_10000, l_11351, l_65536, l_100000, l_1000000, ↓l_m1, l_neg, nI_add, pk_mul, pk_sub, q_leT, q_leF, q_ltT, q_ltF, q_eqT, q_eqF, q_m1e, q_m1e2, q_m1lt, q_m1le, q_m1nl, q_m1nle, q_m1s, q_ix, q_jat, q_jput, q_min1, q_min2, q_max1, q_max2, q_or0, q_0or, q_bs, if_true, if_false, true_and, and_true, false_and, and_false, not_true_eq_false, not_false_eq_true, eq_self, Bool.false_eq_true, q_z0, q_z1, c.1]
        · have bound : ∀ q, sub q s = true → (p - 1) &&& s < q → q = p ∨ p < q := fun q hq hlt => by
            rcases Nat.lt_trichotomy q p with z | z | z
            · have := next_sub s p q e1 (of_decide_eq_true hq) z; omega
            · exact Or.inl z
            · exact Or.inr z
          rcases hf (dif s p) dl with d | d
          · cases zA : A x p with
            | true =>
              refine Or.inl ⟨(nI ((p - 1) &&& s), upd f s (nI 1)), ?_, _, _, rfl, ns, by omega, Or.inr ⟨rfl, p, by omega, sp, d.2, zA⟩⟩
              rw [zA, zb_t] at gA
              have jz := q_jputZ f (k := s) true (by omega)
              rw [zb_t] at jz
              unfold X12_covers_b17 X12_covers_j65
              simp (disch := omega) only [l_0, l_1, l_2, l_3, l_4, l_5, l_6, l_7, l_8, l_9, l_10, l_11, l_12, l_13, l_14, l_15, l_16, l_17, l_18, l_19, l_20, l_21, l_22, l_23, l_24, l_25, l_26, l_27, l_30, l_31, l_32, l_40, l_48, l_57, l_59, l_60, l_61, l_62, l_64, l_83, l_90, l_97, l_99, l_100, l_108, l_115, l_122, l_123, l_127, l_128, l_131, l_135, l_200, l_255, l_256, l_300, l_487, l_495, l_900, l_999, l_1000, l_1700, l_1792, l_1980, l_2048, l_2475, l_2970, l_3121, l_9999, l_10000, l_11351, l_65536, l_100000, l_1000000, ↓l_m1, l_neg, nI_add, pk_mul, pk_sub, q_leT, q_leF, q_ltT, q_ltF, q_eqT, q_eqF, q_m1e, q_m1e2, q_m1lt, q_m1le, q_m1nl, q_m1nle, q_m1s, q_ix, q_jat, q_jput, q_min1, q_min2, q_max1, q_max2, q_or0, q_0or, q_bs, if_true, if_false, true_and, and_true, false_and, and_false, not_true_eq_false, not_false_eq_true, eq_self, Bool.false_eq_true, q_z0, q_z1, c.1, qd, d.1, gA, jz, fa_and]
            | false =>
              refine Or.inl ⟨(nI ((p - 1) &&& s), f), ?_, _, _, rfl, ns, by omega, Or.inl ⟨rfl, fun q hq hlt z => ?_⟩⟩
              · rw [zA, zb_f] at gA
                unfold X12_covers_b17 X12_covers_j65
                simp (disch := omega) only [l_0, l_1, l_2, l_3, l_4, l_5, l_6, l_7, l_8, l_9, l_10, l_11, l_12, l_13, l_14, l_15, l_16, l_17, l_18, l_19, l_20, l_21, l_22, l_23, l_24, l_25, l_26, l_27, l_30, l_31, l_32, l_40, l_48, l_57, l_59, l_60, l_61, l_62, l_64, l_83, l_90, l_97, l_99, l_100, l_108, l_115, l_122, l_123, l_127, l_128, l_131, l_135, l_200, l_255, l_256, l_300, l_487, l_495, l_900, l_999, l_1000, l_1700, l_1792, l_1980, l_2048, l_2475, l_2970, l_3121, l_9999, l_10000, l_11351, l_65536, l_100000, l_1000000, ↓l_m1, l_neg, nI_add, pk_mul, pk_sub, q_leT, q_leF, q_ltT, q_ltF, q_eqT, q_eqF, q_m1e, q_m1e2, q_m1lt, q_m1le, q_m1nl, q_m1nle, q_m1s, q_ix, q_jat, q_jput, q_min1, q_min2, q_max1, q_max2, q_or0, q_0or, q_bs, if_true, if_false, true_and, and_true, false_and, and_false, not_true_eq_false, not_false_eq_true, eq_self, Bool.false_eq_true, q_z0, q_z1, c.1, qd, d.1, gA, fa_and]
              · rcases bound q hq hlt with y | y
                · rw [y, zA] at z; cases z.2
                · exact b q hq y z
          · refine Or.inl ⟨(nI ((p - 1) &&& s), f), ?_, _, _, rfl, ns, by omega, Or.inl ⟨rfl, fun q hq hlt z => ?_⟩⟩
            · unfold X12_covers_b17 X12_covers_j65
              simp (disch := omega) only [l_0, l_1, l_2, l_3, l_4, l_5, l_6, l_7, l_8, l_9, l_10, l_11, l_12, l_13, l_14, l_15, l_16, l_17, l_18, l_19, l_20, l_21, l_22, l_23, l_24, l_25, l_26, l_27, l_30, l_31, l_32, l_40, l_48, l_57, l_59, l_60, l_61, l_62, l_64, l_83, l_90, l_97, l_99, l_100, l_108, l_115, l_122, l_123, l_127, l_128, l_131, l_135, l_200, l_255, l_256, l_300, l_487, l_495, l_900, l_999, l_1000, l_1700, l_1792, l_1980, l_2048, l_2475, l_2970, l_3121, l_9999, l_10000, l_11351, l_65536, l_100000, l_1000000, ↓l_m1, l_neg, nI_add, pk_mul, pk_sub, q_leT, q_leF, q_ltT, q_ltF, q_eqT, q_eqF, q_m1e, q_m1e2, q_m1lt, q_m1le, q_m1nl, q_m1nle, q_m1s, q_ix, q_jat, q_jput, q_min1, q_min2, q_max1, q_max2, q_or0, q_0or, q_bs, if_true, if_false, true_and, and_true, false_and, and_false, not_true_eq_false, not_false_eq_true, eq_self, Bool.false_eq_true, q_z0, q_z1, c.1, qd, d.1, fa_and]
            · rcases bound q hq hlt with y | y
              · rw [y] at z; exact d.2 z.1
              · exact b q hq y z
      · refine Or.inr ⟨_, ?_, Or.inr ⟨rfl, b⟩⟩
        unfold X12_covers_b17
        simp (disch := omega) only [l_0, l_1, l_2, l_3, l_4, l_5, l_6, l_7, l_8, l_9, l_10, l_11, l_12, l_13, l_14, l_15, l_16, l_17, l_18, l_19, l_20, l_21, l_22, l_23, l_24, l_25, l_26, l_27, l_30, l_31, l_32, l_40, l_48, l_57, l_59, l_60, l_61, l_62, l_64, l_83, l_90, l_97, l_99, l_100, l_108, l_115, l_122, l_123, l_127, l_128, l_131, l_135, l_200, l_255, l_256, l_300, l_487, l_495, l_900, l_999, l_1000, l_1700, l_1792, l_1980, l_2048, l_2475, l_2970, l_3121, l_9999, l_10000, l_11351, l_65536, l_100000, l_1000000, ↓l_m1, l_neg, nI_add, pk_mul, pk_sub, q_leT, q_leF, q_ltT, q_ltF, q_eqT, q_eqF, q_m1e, q_m1e2, q_m1lt, q_m1le, q_m1nl, q_m1nle, q_m1s, q_ix, q_jat, q_jput, q_min1, q_min2, q_max1, q_max2, q_or0, q_0or, q_bs, if_true, if_false, true_and, and_true, false_and, and_false, not_true_eq_false, not_false_eq_true, eq_self, Bool.false_eq_true, q_z0, q_z1, pk_us]) (fun st hst => by
      obtain ⟨p, f, rfl, sp, pi, hh⟩ := hst
      have p0 : p = 0 := by omega
      subst p0
      refine ⟨f, ?_, ?_⟩
      · unfold X12_covers_b17
        simp (disch := omega) only [l_0, l_1, l_2, l_3, l_4, l_5, l_6, l_7, l_8, l_9, l_10, l_11, l_12, l_13, l_14, l_15, l_16, l_17, l_18, l_19, l_20, l_21, l_22, l_23, l_24, l_25, l_26, l_27, l_30, l_31, l_32, l_40, l_48, l_57, l_59, l_60, l_61, l_62, l_64, l_83, l_90, l_97, l_99, l_100, l_108, l_115, l_122, l_123, l_127, l_128, l_131, l_135, l_200, l_255, l_256, l_300, l_487, l_495, l_900, l_999, l_1000, l_1700, l_1792, l_1980, l_2048, l_2475, l_2970, l_3121, l_9999, l_10000, l_11351, l_65536, l_100000, l_1000000, ↓l_m1, l_neg, nI_add, pk_mul, pk_sub, q_leT, q_leF, q_ltT, q_ltF, q_eqT, q_eqF, q_m1e, q_m1e2, q_m1lt, q_m1le, q_m1nl, q_m1nle, q_m1s, q_ix, q_jat, q_jput, q_min1, q_min2, q_max1, q_max2, q_or0, q_0or, q_bs, if_true, if_false, true_and, and_true, false_and, and_false, not_true_eq_false, not_false_eq_true, eq_self, Bool.false_eq_true, q_z0, q_z1]
      · rcases hh with ⟨a, b⟩ | ⟨a, b⟩
        · exact Or.inl ⟨a, Or.inr b⟩
        · exact Or.inr ⟨a, b⟩) (s0 := (nI s, f0)) ⟨s, f0, rfl, sub_self s, by omega, Or.inl ⟨rfl, fun q hq hlt => by have := sub_le hq; omega⟩⟩ (show s < F by omega)
  refine ⟨f2, h1, ?_⟩
  rcases h2 with ⟨rfl, b | b⟩ | ⟨rfl, b⟩
  · exact ⟨fun _ _ => rfl, Or.inl ⟨b, Or.inl (cvd_1 (hf s (Nat.le_refl _)) b)⟩⟩
  · refine ⟨fun _ _ => rfl, ?_⟩
    rcases hf s (Nat.le_refl _) with c | c
    · exact Or.inl ⟨c.1, Or.inl c.2⟩
    · refine Or.inr ⟨c.1, ?_⟩
      rintro (z | ⟨p, z1, z2, z3, z4⟩)
      · exact c.2 z
      · exact b p z2 z1 ⟨z3, z4⟩
  · exact ⟨fun k hk => pk_un hk, Or.inl ⟨pk_us, Or.inr b⟩⟩
/-- one less, from -1 on -/
def dI : Nat → Int32
  | 0 => m1
  | k + 1 => nI k
theorem dI_dec (s : Nat) : nI s + m1 = dI s := by
  cases s with
  | zero => decide
  | succ k => exact q_dec (by omega)
theorem m_covers {F : Nat} {C : Cy} {g fa f0 : Nat → Int32} {A : Nat → Nat → Bool} {T x : Nat} (ok : Ok C) (hM : MS C g) (hx : x < C 0 0 2) (hT : T.testBit x = true) (hA : ∀ p, p < 256 → fa (256 * x + p) = zb (A x p)) (hf : ∀ t, t < 2 ^ C 0 0 3 → cvd f0 (cov A T x) t) (hF : 2000 < F) :
    ∃ f2, X12_covers F g fa f0 (nI x) = some f2 ∧ ∀ t, t < 2 ^ C 0 0 3 → cvd f2 (cov A T (x + 1)) t := by
  have o0 := ok.1
  have p8 := pow_nH ok
  have pp := Nat.two_pow_pos (C 0 0 3)
  obtain ⟨f2, h1, h2⟩ := it_rel (b := X12_covers_b11 F g fa (nI x)) (2 ^ C 0 0 3)
    (fun i st => ∃ f, st = (dI (2 ^ C 0 0 3 - i), f) ∧ (∀ t, t + i < 2 ^ C 0 0 3 → cvd f (cov A T x) t) ∧ ∀ t, t < 2 ^ C 0 0 3 → 2 ^ C 0 0 3 ≤ t + i → cvd f (cov A T (x + 1)) t)
    (fun f => ∀ t, t < 2 ^ C 0 0 3 → cvd f (cov A T (x + 1)) t) (fun i st hi hst => by
      obtain ⟨f, rfl, a, b⟩ := hst
      obtain ⟨s, hs⟩ : ∃ s, 2 ^ C 0 0 3 - i = s + 1 := ⟨2 ^ C 0 0 3 - i - 1, by omega⟩
      obtain ⟨f2, k1, k2, k3⟩ := m_part (F := F) (g := g) (N := 2 ^ C 0 0 3) (x := x) (s := s) p8 (by omega) (by omega) hA (fun t ht => a t (by omega)) hF
      refine Or.inl ⟨(dI (2 ^ C 0 0 3 - (i + 1)), f2), ?_, f2, rfl, fun t ht => ?_, fun t ht1 ht2 => ?_⟩
      · rw [hs, show 2 ^ C 0 0 3 - (i + 1) = s by omega, show dI (s + 1) = nI s from rfl, ← dI_dec]
        unfold X12_covers_b11 X12_covers_j74
        simp (disch := omega) only [l_0, l_1, l_2, l_3, l_4, l_5, l_6, l_7, l_8, l_9, l_10, l_11, l_12, l_13, l_14, l_15, l_16, l_17, l_18, l_19, l_20, l_21, l_22, l_23, l_24, l_25, l_26, l_27, l_30, l_31, l_32, l_40, l_48, l_57, l_59, l_60, l_61, l_62, l_64, l_83, l_90, l_97, l_99, l_100, l_108, l_115, l_122, l_123, l_127, l_128, l_131, l_135, l_200, l_255, l_256, l_300, l_487, l_495, l_900, l_999, l_1000, l_1700, l_1792, l_1980, l_2048, l_2475, l_2970, l_3121, l_9999, l_10000, l_11351, l_65536, l_100000, l_1000000, ↓l_m1, l_neg, nI_add, pk_mul, pk_sub, q_leT, q_leF, q_ltT, q_ltF, q_eqT, q_eqF, q_m1e, q_m1e2, q_m1lt, q_m1le, q_m1nl, q_m1nle, q_m1s, q_ix, q_jat, q_jput, q_min1, q_min2, q_max1, q_max2, q_or0, q_0or, q_bs, if_true, if_false, true_and, and_true, false_and, and_false, not_true_eq_false, not_false_eq_true, eq_self, Bool.false_eq_true, q_z0, q_z1, k1]
      · have := a t (by omega)
        unfold cvd at this ⊢
        rw [k2 t (by omega)]; exact this
      · by_cases e : t = s
        · subst e
          rcases k3 with ⟨c1, c2⟩ | ⟨c1, c2⟩
          · refine Or.inl ⟨c1, ?_⟩
            rcases c2 with c2 | c2
            · exact Or.inl c2
            · exact Or.inr ⟨hT, c2⟩
          · refine Or.inr ⟨c1, ?_⟩
            rintro (z | z)
            · exact c2 (Or.inl z)
            · exact c2 (Or.inr z.2)
        · have := b t ht1 (by omega)
          unfold cvd at this ⊢
          rw [k2 t e]; exact this) (fun st hst => by
      obtain ⟨f, rfl, a, b⟩ := hst
      refine ⟨f, ?_, fun t ht => b t ht (by omega)⟩
      rw [Nat.sub_self, show dI 0 = m1 from rfl]
      unfold X12_covers_b11
      simp (disch := omega) only [l_0, l_1, l_2, l_3, l_4, l_5, l_6, l_7, l_8, l_9, l_10, l_11, l_12, l_13, l_14, l_15, l_16, l_17, l_18, l_19, l_20, l_21, l_22, l_23, l_24, l_25, l_26, l_27, l_30, l_31, l_32, l_40, l_48, l_57, l_59, l_60, l_61, l_62, l_64, l_83, l_90, l_97, l_99, l_100, l_108, l_115, l_122, l_123, l_127, l_128, l_131, l_135, l_200, l_255, l_256, l_300, l_487, l_495, l_900, l_999, l_1000, l_1700, l_1792, l_1980, l_2048, l_2475, l_2970, l_3121, l_9999, l_10000, l_11351, l_65536, l_100000, l_1000000, ↓l_m1, l_neg, nI_add, pk_mul, pk_sub, q_leT, q_leF, q_ltT, q_ltF, q_eqT, q_eqF, q_m1e, q_m1e2, q_m1lt, q_m1le, q_m1nl, q_m1nle, q_m1s, q_ix, q_jat, q_jput, q_min1, q_min2, q_max1, q_max2, q_or0, q_0or, q_bs, if_true, if_false, true_and, and_true, false_and, and_false, not_true_eq_false, not_false_eq_true, eq_self, Bool.false_eq_true, q_z0, q_z1]) (s0 := (nI (2 ^ C 0 0 3 - 1), f0)) ⟨f0, by
        obtain ⟨s, hs⟩ : ∃ s, 2 ^ C 0 0 3 = s + 1 := ⟨2 ^ C 0 0 3 - 1, by omega⟩
        rw [Nat.sub_zero, hs]; rfl, fun t ht => hf t (by omega), fun t h1 h2 => by omega⟩ (show 2 ^ C 0 0 3 < F by omega)
  refine ⟨f2, ?_, h2⟩
  unfold X12_covers
  simp (disch := omega) only [l_0, l_1, l_2, l_3, l_4, l_5, l_6, l_7, l_8, l_9, l_10, l_11, l_12, l_13, l_14, l_15, l_16, l_17, l_18, l_19, l_20, l_21, l_22, l_23, l_24, l_25, l_26, l_27, l_30, l_31, l_32, l_40, l_48, l_57, l_59, l_60, l_61, l_62, l_64, l_83, l_90, l_97, l_99, l_100, l_108, l_115, l_122, l_123, l_127, l_128, l_131, l_135, l_200, l_255, l_256, l_300, l_487, l_495, l_900, l_999, l_1000, l_1700, l_1792, l_1980, l_2048, l_2475, l_2970, l_3121, l_9999, l_10000, l_11351, l_65536, l_100000, l_1000000, ↓l_m1, l_neg, nI_add, pk_mul, pk_sub, q_leT, q_leF, q_ltT, q_ltF, q_eqT, q_eqF, q_m1e, q_m1e2, q_m1lt, q_m1le, q_m1nl, q_m1nle, q_m1s, q_ix, q_jat, q_jput, q_min1, q_min2, q_max1, q_max2, q_or0, q_0or, q_bs, if_true, if_false, true_and, and_true, false_and, and_false, not_true_eq_false, not_false_eq_true, eq_self, Bool.false_eq_true, q_z0, q_z1, m_0 hM, m_E hM, m_Es hM, m_Er hM, m_H hM, m_W hM, m_R0 hM, m_R1 hM, m_R2 hM, q_shl1, h1]
theorem m_areEnough {F : Nat} {C : Cy} {g fa f0 : Nat → Int32} {A : Nat → Nat → Bool} {T : Nat} (ok : Ok C) (hM : MS C g) (hT : T < 2 ^ C 0 0 2) (hA : ∀ x p, x < C 0 0 2 → p < 256 → fa (256 * x + p) = zb (A x p)) (hF : 2000 < F) :
    ∃ f2, (cov A T (C 0 0 2) (openS C) → X12_areEnough F g fa f0 (nI T) = some (nI 1, f2)) ∧ (¬ cov A T (C 0 0 2) (openS C) → X12_areEnough F g fa f0 (nI T) = some (nI 0, f2)) := by
  have o0 := ok.1
  have p8 := pow_nH ok
  have p7 := pow_nE ok
  have ol : openS C < 2 ^ C 0 0 3 := setOf_lt _ _
  have ma := m_ahead0 (F := F) ok hM (by omega)
  obtain ⟨f1, h1, h2⟩ := it_rel (b := X12_areEnough_b2 F g fa (nI T)) 256
    (fun i s => ∃ f, s = (nI i, f) ∧ ∀ t, t < i → cvd f (cov A T 0) t)
    (fun f => ∀ t, t < 256 → cvd f (cov A T 0) t) (fun i s hi hs => by
      obtain ⟨f, rfl, hf⟩ := hs
      by_cases e : i = 0
      · subst e
        refine Or.inl ⟨(nI (0 + 1), upd f 0 (nI 1)), ?_, _, rfl, fun t ht => ?_⟩
        · have jz := q_jputZ f (k := 0) true (by omega)
          rw [zb_t] at jz
          unfold X12_areEnough_b2 X12_areEnough_j23
          simp (disch := omega) only [l_0, l_1, l_2, l_3, l_4, l_5, l_6, l_7, l_8, l_9, l_10, l_11, l_12, l_13, l_14, l_15, l_16, l_17, l_18, l_19, l_20, l_21, l_22, l_23, l_24, l_25, l_26, l_27, l_30, l_31, l_32, l_40, l_48, l_57, l_59, l_60, l_61, l_62, l_64, l_83, l_90, l_97, l_99, l_100, l_108, l_115, l_122, l_123, l_127, l_128, l_131, l_135, l_200, l_255, l_256, l_300, l_487, l_495, l_900, l_999, l_1000, l_1700, l_1792, l_1980, l_2048, l_2475, l_2970, l_3121, l_9999, l_10000, l_11351, l_65536, l_100000, l_1000000, ↓l_m1, l_neg, nI_add, pk_mul, pk_sub, q_leT, q_leF, q_ltT, q_ltF, q_eqT, q_eqF, q_m1e, q_m1e2, q_m1lt, q_m1le, q_m1nl, q_m1nle, q_m1s, q_ix, q_jat, q_jput, q_min1, q_min2, q_max1, q_max2, q_or0, q_0or, q_bs, if_true, if_false, true_and, and_true, false_and, and_false, not_true_eq_false, not_false_eq_true, eq_self, Bool.false_eq_true, q_z0, q_z1, jz]
        · have : t = 0 := by omega
          subst this
          exact Or.inl ⟨pk_us, rfl⟩
      · refine Or.inl ⟨(nI (i + 1), upd f i (nI 0)), ?_, _, rfl, fun t ht => ?_⟩
        · have jz := q_jputZ f (k := i) false (by omega)
          rw [zb_f] at jz
          unfold X12_areEnough_b2 X12_areEnough_j23
          simp (disch := omega) only [l_0, l_1, l_2, l_3, l_4, l_5, l_6, l_7, l_8, l_9, l_10, l_11, l_12, l_13, l_14, l_15, l_16, l_17, l_18, l_19, l_20, l_21, l_22, l_23, l_24, l_25, l_26, l_27, l_30, l_31, l_32, l_40, l_48, l_57, l_59, l_60, l_61, l_62, l_64, l_83, l_90, l_97, l_99, l_100, l_108, l_115, l_122, l_123, l_127, l_128, l_131, l_135, l_200, l_255, l_256, l_300, l_487, l_495, l_900, l_999, l_1000, l_1700, l_1792, l_1980, l_2048, l_2475, l_2970, l_3121, l_9999, l_10000, l_11351, l_65536, l_100000, l_1000000, ↓l_m1, l_neg, nI_add, pk_mul, pk_sub, q_leT, q_leF, q_ltT, q_ltF, q_eqT, q_eqF, q_m1e, q_m1e2, q_m1lt, q_m1le, q_m1nl, q_m1nle, q_m1s, q_ix, q_jat, q_jput, q_min1, q_min2, q_max1, q_max2, q_or0, q_0or, q_bs, if_true, if_false, true_and, and_true, false_and, and_false, not_true_eq_false, not_false_eq_true, eq_self, Bool.false_eq_true, q_z0, q_z1, jz]
        · by_cases y : t = i
          · rw [y]; exact Or.inr ⟨pk_us, e⟩
          · have := hf t (by omega)
            unfold cvd at this ⊢
            rw [pk_un y]; exact this) (fun s hs => by
      obtain ⟨f, rfl, hf⟩ := hs
      refine ⟨f, ?_, hf⟩
      unfold X12_areEnough_b2
      simp (disch := omega) only [l_0, l_1, l_2, l_3, l_4, l_5, l_6, l_7, l_8, l_9, l_10, l_11, l_12, l_13, l_14, l_15, l_16, l_17, l_18, l_19, l_20, l_21, l_22, l_23, l_24, l_25, l_26, l_27, l_30, l_31, l_32, l_40, l_48, l_57, l_59, l_60, l_61, l_62, l_64, l_83, l_90, l_97, l_99, l_100, l_108, l_115, l_122, l_123, l_127, l_128, l_131, l_135, l_200, l_255, l_256, l_300, l_487, l_495, l_900, l_999, l_1000, l_1700, l_1792, l_1980, l_2048, l_2475, l_2970, l_3121, l_9999, l_10000, l_11351, l_65536, l_100000, l_1000000, ↓l_m1, l_neg, nI_add, pk_mul, pk_sub, q_leT, q_leF, q_ltT, q_ltF, q_eqT, q_eqF, q_m1e, q_m1e2, q_m1lt, q_m1le, q_m1nl, q_m1nle, q_m1s, q_ix, q_jat, q_jput, q_min1, q_min2, q_max1, q_max2, q_or0, q_0or, q_bs, if_true, if_false, true_and, and_true, false_and, and_false, not_true_eq_false, not_false_eq_true, eq_self, Bool.false_eq_true, q_z0, q_z1]) (s0 := (nI 0, f0)) ⟨f0, rfl, fun t ht => by omega⟩ (show 256 < F by omega)
  obtain ⟨f2, k1, k2⟩ := it_rel (b := X12_areEnough_b32 F g fa (nI T)) (C 0 0 2)
    (fun i s => ∃ f, s = (nI i, f) ∧ ∀ t, t < 2 ^ C 0 0 3 → cvd f (cov A T i) t)
    (fun f => ∀ t, t < 2 ^ C 0 0 3 → cvd f (cov A T (C 0 0 2)) t) (fun x s hx hs => by
      obtain ⟨f, rfl, hf⟩ := hs
      unfold X12_areEnough_b32 X12_areEnough_j56
      cases hb : T.testBit x with
      | true =>
        obtain ⟨f2, c1, c2⟩ := m_covers (F := F) ok hM hx hb (fun p hp => hA x p hx hp) hf hF
        refine Or.inl ⟨(nI (x + 1), f2), ?_, f2, rfl, c2⟩
        simp (disch := omega) only [l_0, l_1, l_2, l_3, l_4, l_5, l_6, l_7, l_8, l_9, l_10, l_11, l_12, l_13, l_14, l_15, l_16, l_17, l_18, l_19, l_20, l_21, l_22, l_23, l_24, l_25, l_26, l_27, l_30, l_31, l_32, l_40, l_48, l_57, l_59, l_60, l_61, l_62, l_64, l_83, l_90, l_97, l_99, l_100, l_108, l_115, l_122, l_123, l_127, l_128, l_131, l_135, l_200, l_255, l_256, l_300, l_487, l_495, l_900, l_999, l_1000, l_1700, l_1792, l_1980, l_2048, l_2475, l_2970, l_3121, l_9999, l_10000, l_11351, l_65536, l_100000, l_1000000, ↓l_m1, l_neg, nI_add, pk_mul, pk_sub, q_leT, q_leF, q_ltT, q_ltF, q_eqT, q_eqF, q_m1e, q_m1e2, q_m1lt, q_m1le, q_m1nl, q_m1nle, q_m1s, q_ix, q_jat, q_jput, q_min1, q_min2, q_max1, q_max2, q_or0, q_0or, q_bs, if_true, if_false, true_and, and_true, false_and, and_false, not_true_eq_false, not_false_eq_true, eq_self, Bool.false_eq_true, q_z0, q_z1, m_0 hM, m_E hM, m_Es hM, m_Er hM, m_H hM, m_W hM, m_R0 hM, m_R1 hM, m_R2 hM, q_isInT hb, c1]
      | false =>
        refine Or.inl ⟨(nI (x + 1), f), ?_, f, rfl, fun t ht => ?_⟩
        · simp (disch := omega) only [l_0, l_1, l_2, l_3, l_4, l_5, l_6, l_7, l_8, l_9, l_10, l_11, l_12, l_13, l_14, l_15, l_16, l_17, l_18, l_19, l_20, l_21, l_22, l_23, l_24, l_25, l_26, l_27, l_30, l_31, l_32, l_40, l_48, l_57, l_59, l_60, l_61, l_62, l_64, l_83, l_90, l_97, l_99, l_100, l_108, l_115, l_122, l_123, l_127, l_128, l_131, l_135, l_200, l_255, l_256, l_300, l_487, l_495, l_900, l_999, l_1000, l_1700, l_1792, l_1980, l_2048, l_2475, l_2970, l_3121, l_9999, l_10000, l_11351, l_65536, l_100000, l_1000000, ↓l_m1, l_neg, nI_add, pk_mul, pk_sub, q_leT, q_leF, q_ltT, q_ltF, q_eqT, q_eqF, q_m1e, q_m1e2, q_m1lt, q_m1le, q_m1nl, q_m1nle, q_m1s, q_ix, q_jat, q_jput, q_min1, q_min2, q_max1, q_max2, q_or0, q_0or, q_bs, if_true, if_false, true_and, and_true, false_and, and_false, not_true_eq_false, not_false_eq_true, eq_self, Bool.false_eq_true, q_z0, q_z1, m_0 hM, m_E hM, m_Es hM, m_Er hM, m_H hM, m_W hM, m_R0 hM, m_R1 hM, m_R2 hM, q_isInF hb]
        · rcases hf t ht with c | c
          · exact Or.inl ⟨c.1, Or.inl c.2⟩
          · refine Or.inr ⟨c.1, ?_⟩
            rintro (z | z)
            · exact c.2 z
            · rw [hb] at z; cases z.1) (fun s hs => by
      obtain ⟨f, rfl, hf⟩ := hs
      refine ⟨f, ?_, hf⟩
      unfold X12_areEnough_b32
      simp (disch := omega) only [l_0, l_1, l_2, l_3, l_4, l_5, l_6, l_7, l_8, l_9, l_10, l_11, l_12, l_13, l_14, l_15, l_16, l_17, l_18, l_19, l_20, l_21, l_22, l_23, l_24, l_25, l_26, l_27, l_30, l_31, l_32, l_40, l_48, l_57, l_59, l_60, l_61, l_62, l_64, l_83, l_90, l_97, l_99, l_100, l_108, l_115, l_122, l_123, l_127, l_128, l_131, l_135, l_200, l_255, l_256, l_300, l_487, l_495, l_900, l_999, l_1000, l_1700, l_1792, l_1980, l_2048, l_2475, l_2970, l_3121, l_9999, l_10000, l_11351, l_65536, l_100000, l_1000000, ↓l_m1, l_neg, nI_add, pk_mul, pk_sub, q_leT, q_leF, q_ltT, q_ltF, q_eqT, q_eqF, q_m1e, q_m1e2, q_m1lt, q_m1le, q_m1nl, q_m1nle, q_m1s, q_ix, q_jat, q_jput, q_min1, q_min2, q_max1, q_max2, q_or0, q_0or, q_bs, if_true, if_false, true_and, and_true, false_and, and_false, not_true_eq_false, not_false_eq_true, eq_self, Bool.false_eq_true, q_z0, q_z1, m_0 hM, m_E hM, m_Es hM, m_Er hM, m_H hM, m_W hM, m_R0 hM, m_R1 hM, m_R2 hM]) (s0 := (nI 0, f1)) ⟨f1, rfl, fun t ht => h2 t (by omega)⟩ (show C 0 0 2 < F by omega)
  refine ⟨f2, fun z => ?_, fun z => ?_⟩
  · have fo : f2 (openS C) = nI 1 := by
      rcases k2 _ ol with c | c
      · exact c.1
      · exact absurd z c.2
    unfold X12_areEnough
    rw [show ((0 : Int32), f0) = (nI 0, f0) from rfl, h1, q_bs, show ((0 : Int32), f1) = (nI 0, f1) from rfl, k1, q_bs, ma, q_bs]
    simp (disch := omega) only [l_0, l_1, l_2, l_3, l_4, l_5, l_6, l_7, l_8, l_9, l_10, l_11, l_12, l_13, l_14, l_15, l_16, l_17, l_18, l_19, l_20, l_21, l_22, l_23, l_24, l_25, l_26, l_27, l_30, l_31, l_32, l_40, l_48, l_57, l_59, l_60, l_61, l_62, l_64, l_83, l_90, l_97, l_99, l_100, l_108, l_115, l_122, l_123, l_127, l_128, l_131, l_135, l_200, l_255, l_256, l_300, l_487, l_495, l_900, l_999, l_1000, l_1700, l_1792, l_1980, l_2048, l_2475, l_2970, l_3121, l_9999, l_10000, l_11351, l_65536, l_100000, l_1000000, ↓l_m1, l_neg, nI_add, pk_mul, pk_sub, q_leT, q_leF, q_ltT, q_ltF, q_eqT, q_eqF, q_m1e, q_m1e2, q_m1lt, q_m1le, q_m1nl, q_m1nle, q_m1s, q_ix, q_jat, q_jput, q_min1, q_min2, q_max1, q_max2, q_or0, q_0or, q_bs, if_true, if_false, true_and, and_true, false_and, and_false, not_true_eq_false, not_false_eq_true, eq_self, Bool.false_eq_true, q_z0, q_z1, fo]
  · have fo : f2 (openS C) = nI 0 := by
      rcases k2 _ ol with c | c
      · exact absurd c.2 z
      · exact c.1
    unfold X12_areEnough
    rw [show ((0 : Int32), f0) = (nI 0, f0) from rfl, h1, q_bs, show ((0 : Int32), f1) = (nI 0, f1) from rfl, k1, q_bs, ma, q_bs]
    simp (disch := omega) only [l_0, l_1, l_2, l_3, l_4, l_5, l_6, l_7, l_8, l_9, l_10, l_11, l_12, l_13, l_14, l_15, l_16, l_17, l_18, l_19, l_20, l_21, l_22, l_23, l_24, l_25, l_26, l_27, l_30, l_31, l_32, l_40, l_48, l_57, l_59, l_60, l_61, l_62, l_64, l_83, l_90, l_97, l_99, l_100, l_108, l_115, l_122, l_123, l_127, l_128, l_131, l_135, l_200, l_255, l_256, l_300, l_487, l_495, l_900, l_999, l_1000, l_1700, l_1792, l_1980, l_2048, l_2475, l_2970, l_3121, l_9999, l_10000, l_11351, l_65536, l_100000, l_1000000, ↓l_m1, l_neg, nI_add, pk_mul, pk_sub, q_leT, q_leF, q_ltT, q_ltF, q_eqT, q_eqF, q_m1e, q_m1e2, q_m1lt, q_m1le, q_m1nl, q_m1nle, q_m1s, q_ix, q_jat, q_jput, q_min1, q_min2, q_max1, q_max2, q_or0, q_0or, q_bs, if_true, if_false, true_and, and_true, false_and, and_false, not_true_eq_false, not_false_eq_true, eq_self, Bool.false_eq_true, q_z0, q_z1, fo]
theorem m_team {F : Nat} {C : Cy} {g f0 f1 f2 : Nat → Int32} {n : Nat} {L : Nat → Nat} {P : Nat → Bool} (ok : Ok C) (hM : MS C g) (hL : LineOK C (C 0 0 3) n L) (hP : ∀ t, t < 2 ^ C 0 0 2 → (P t = true ↔ cov (attA C L n) t (C 0 0 2) (openS C))) (hF : 2000 < F) :
    ∃ a b c, X12_fewestOf F g f0 f1 f2 = some (oI (smT P (2 ^ C 0 0 2)), a, b, c) := by
  have o0 := ok.1
  have p7 := pow_nE ok
  obtain ⟨ff, fa, a1, a2⟩ := m_attends (F := F) (f0 := f0) (f1 := f1) ok hM hL hF
  obtain ⟨e, h1, c, rfl⟩ := it_rel (b := X12_fewestOf_b8 F g ff fa) (2 ^ C 0 0 2)
    (fun t s => ∃ f, s = (oI (smT P t), nI t, f)) (fun e => ∃ f, e = (oI (smT P (2 ^ C 0 0 2)), f)) (fun t s ht hs => by
      obtain ⟨f, rfl⟩ := hs
      obtain ⟨f2, e1, e2⟩ := m_areEnough (F := F) (f0 := f) ok hM ht a2 hF
      have q1 := q_bits (F := F) (n := t) (by omega) (by omega)
      have pl1 := popc_le t
      unfold X12_fewestOf_b8 X12_fewestOf_j36 X12_fewestOf_j46
      cases q : smT P t with
      | none =>
        rw [oI_n]
        cases z : P t with
        | true =>
          have e3 := e1 ((hP t ht).mp z)
          refine Or.inl ⟨(oI (smT P (t + 1)), nI (t + 1), f2), ?_, f2, rfl⟩
          rw [show smT P (t + 1) = some t from by rw [smT_n q, z]; rfl, oI_s]
          simp (disch := omega) only [l_0, l_1, l_2, l_3, l_4, l_5, l_6, l_7, l_8, l_9, l_10, l_11, l_12, l_13, l_14, l_15, l_16, l_17, l_18, l_19, l_20, l_21, l_22, l_23, l_24, l_25, l_26, l_27, l_30, l_31, l_32, l_40, l_48, l_57, l_59, l_60, l_61, l_62, l_64, l_83, l_90, l_97, l_99, l_100, l_108, l_115, l_122, l_123, l_127, l_128, l_131, l_135, l_200, l_255, l_256, l_300, l_487, l_495, l_900, l_999, l_1000, l_1700, l_1792, l_1980, l_2048, l_2475, l_2970, l_3121, l_9999, l_10000, l_11351, l_65536, l_100000, l_1000000, ↓l_m1, l_neg, nI_add, pk_mul, pk_sub, q_leT, q_leF, q_ltT, q_ltF, q_eqT, q_eqF, q_m1e, q_m1e2, q_m1lt, q_m1le, q_m1nl, q_m1nle, q_m1s, q_ix, q_jat, q_jput, q_min1, q_min2, q_max1, q_max2, q_or0, q_0or, q_bs, if_true, if_false, true_and, and_true, false_and, and_false, not_true_eq_false, not_false_eq_true, eq_self, Bool.false_eq_true, q_z0, q_z1, m_0 hM, m_E hM, m_Es hM, m_Er hM, m_H hM, m_W hM, m_R0 hM, m_R1 hM, m_R2 hM, q_shl1, e3]
        | false =>
          have e3 := e2 (fun y => by rw [(hP t ht).mpr y] at z; cases z)
          refine Or.inl ⟨(oI (smT P (t + 1)), nI (t + 1), f2), ?_, f2, rfl⟩
          rw [show smT P (t + 1) = none from by rw [smT_n q, z]; rfl, oI_n]
          simp (disch := omega) only [l_0, l_1, l_2, l_3, l_4, l_5, l_6, l_7, l_8, l_9, l_10, l_11, l_12, l_13, l_14, l_15, l_16, l_17, l_18, l_19, l_20, l_21, l_22, l_23, l_24, l_25, l_26, l_27, l_30, l_31, l_32, l_40, l_48, l_57, l_59, l_60, l_61, l_62, l_64, l_83, l_90, l_97, l_99, l_100, l_108, l_115, l_122, l_123, l_127, l_128, l_131, l_135, l_200, l_255, l_256, l_300, l_487, l_495, l_900, l_999, l_1000, l_1700, l_1792, l_1980, l_2048, l_2475, l_2970, l_3121, l_9999, l_10000, l_11351, l_65536, l_100000, l_1000000, ↓l_m1, l_neg, nI_add, pk_mul, pk_sub, q_leT, q_leF, q_ltT, q_ltF, q_eqT, q_eqF, q_m1e, q_m1e2, q_m1lt, q_m1le, q_m1nl, q_m1nle, q_m1s, q_ix, q_jat, q_jput, q_min1, q_min2, q_max1, q_max2, q_or0, q_0or, q_bs, if_true, if_false, true_and, and_true, false_and, and_false, not_true_eq_false, not_false_eq_true, eq_self, Bool.false_eq_true, q_z0, q_z1, m_0 hM, m_E hM, m_Es hM, m_Er hM, m_H hM, m_W hM, m_R0 hM, m_R1 hM, m_R2 hM, q_shl1, e3]
      | some b =>
        have bl := smT_lt q
        have q2 := q_bits (F := F) (n := b) (by omega) (by omega)
        have pl2 := popc_le b
        rw [oI_s]
        by_cases y : popc t < popc b
        · cases z : P t with
          | true =>
            have e3 := e1 ((hP t ht).mp z)
            refine Or.inl ⟨(oI (smT P (t + 1)), nI (t + 1), f2), ?_, f2, rfl⟩
            rw [show smT P (t + 1) = some t from by rw [smT_s q, z, decide_eq_true y]; rfl, oI_s]
            simp (disch := omega) only [l_0, l_1, l_2, l_3, l_4, l_5, l_6, l_7, l_8, l_9, l_10, l_11, l_12, l_13, l_14, l_15, l_16, l_17, l_18, l_19, l_20, l_21, l_22, l_23, l_24, l_25, l_26, l_27, l_30, l_31, l_32, l_40, l_48, l_57, l_59, l_60, l_61, l_62, l_64, l_83, l_90, l_97, l_99, l_100, l_108, l_115, l_122, l_123, l_127, l_128, l_131, l_135, l_200, l_255, l_256, l_300, l_487, l_495, l_900, l_999, l_1000, l_1700, l_1792, l_1980, l_2048, l_2475, l_2970, l_3121, l_9999, l_10000, l_11351, l_65536, l_100000, l_1000000, ↓l_m1, l_neg, nI_add, pk_mul, pk_sub, q_leT, q_leF, q_ltT, q_ltF, q_eqT, q_eqF, q_m1e, q_m1e2, q_m1lt, q_m1le, q_m1nl, q_m1nle, q_m1s, q_ix, q_jat, q_jput, q_min1, q_min2, q_max1, q_max2, q_or0, q_0or, q_bs, if_true, if_false, true_and, and_true, false_and, and_false, not_true_eq_false, not_false_eq_true, eq_self, Bool.false_eq_true, q_z0, q_z1, m_0 hM, m_E hM, m_Es hM, m_Er hM, m_H hM, m_W hM, m_R0 hM, m_R1 hM, m_R2 hM, q_shl1, q1, q2, e3]
          | false =>
            have e3 := e2 (fun y => by rw [(hP t ht).mpr y] at z; cases z)
            refine Or.inl ⟨(oI (smT P (t + 1)), nI (t + 1), f2), ?_, f2, rfl⟩
            rw [show smT P (t + 1) = some b from by rw [smT_s q, z, Bool.and_false]; rfl, oI_s]
            simp (disch := omega) only [l_0, l_1, l_2, l_3, l_4, l_5, l_6, l_7, l_8, l_9, l_10, l_11, l_12, l_13, l_14, l_15, l_16, l_17, l_18, l_19, l_20, l_21, l_22, l_23, l_24, l_25, l_26, l_27, l_30, l_31, l_32, l_40, l_48, l_57, l_59, l_60, l_61, l_62, l_64, l_83, l_90, l_97, l_99, l_100, l_108, l_115, l_122, l_123, l_127, l_128, l_131, l_135, l_200, l_255, l_256, l_300, l_487, l_495, l_900, l_999, l_1000, l_1700, l_1792, l_1980, l_2048, l_2475, l_2970, l_3121, l_9999, l_10000, l_11351, l_65536, l_100000, l_1000000, ↓l_m1, l_neg, nI_add, pk_mul, pk_sub, q_leT, q_leF, q_ltT, q_ltF, q_eqT, q_eqF, q_m1e, q_m1e2, q_m1lt, q_m1le, q_m1nl, q_m1nle, q_m1s, q_ix, q_jat, q_jput, q_min1, q_min2, q_max1, q_max2, q_or0, q_0or, q_bs, if_true, if_false, true_and, and_true, false_and, and_false, not_true_eq_false, not_false_eq_true, eq_self, Bool.false_eq_true, q_z0, q_z1, m_0 hM, m_E hM, m_Es hM, m_Er hM, m_H hM, m_W hM, m_R0 hM, m_R1 hM, m_R2 hM, q_shl1, q1, q2, e3]
        · refine Or.inl ⟨(oI (smT P (t + 1)), nI (t + 1), f), ?_, f, rfl⟩
          rw [show smT P (t + 1) = some b from by rw [smT_s q, decide_eq_false y]; rfl, oI_s]
          simp (disch := omega) only [l_0, l_1, l_2, l_3, l_4, l_5, l_6, l_7, l_8, l_9, l_10, l_11, l_12, l_13, l_14, l_15, l_16, l_17, l_18, l_19, l_20, l_21, l_22, l_23, l_24, l_25, l_26, l_27, l_30, l_31, l_32, l_40, l_48, l_57, l_59, l_60, l_61, l_62, l_64, l_83, l_90, l_97, l_99, l_100, l_108, l_115, l_122, l_123, l_127, l_128, l_131, l_135, l_200, l_255, l_256, l_300, l_487, l_495, l_900, l_999, l_1000, l_1700, l_1792, l_1980, l_2048, l_2475, l_2970, l_3121, l_9999, l_10000, l_11351, l_65536, l_100000, l_1000000, ↓l_m1, l_neg, nI_add, pk_mul, pk_sub, q_leT, q_leF, q_ltT, q_ltF, q_eqT, q_eqF, q_m1e, q_m1e2, q_m1lt, q_m1le, q_m1nl, q_m1nle, q_m1s, q_ix, q_jat, q_jput, q_min1, q_min2, q_max1, q_max2, q_or0, q_0or, q_bs, if_true, if_false, true_and, and_true, false_and, and_false, not_true_eq_false, not_false_eq_true, eq_self, Bool.false_eq_true, q_z0, q_z1, m_0 hM, m_E hM, m_Es hM, m_Er hM, m_H hM, m_W hM, m_R0 hM, m_R1 hM, m_R2 hM, q_shl1, q1, q2]) (fun s hs => by
      obtain ⟨f, rfl⟩ := hs
      refine ⟨_, ?_, f, rfl⟩
      unfold X12_fewestOf_b8
      simp (disch := omega) only [l_0, l_1, l_2, l_3, l_4, l_5, l_6, l_7, l_8, l_9, l_10, l_11, l_12, l_13, l_14, l_15, l_16, l_17, l_18, l_19, l_20, l_21, l_22, l_23, l_24, l_25, l_26, l_27, l_30, l_31, l_32, l_40, l_48, l_57, l_59, l_60, l_61, l_62, l_64, l_83, l_90, l_97, l_99, l_100, l_108, l_115, l_122, l_123, l_127, l_128, l_131, l_135, l_200, l_255, l_256, l_300, l_487, l_495, l_900, l_999, l_1000, l_1700, l_1792, l_1980, l_2048, l_2475, l_2970, l_3121, l_9999, l_10000, l_11351, l_65536, l_100000, l_1000000, ↓l_m1, l_neg, nI_add, pk_mul, pk_sub, q_leT, q_leF, q_ltT, q_ltF, q_eqT, q_eqF, q_m1e, q_m1e2, q_m1lt, q_m1le, q_m1nl, q_m1nle, q_m1s, q_ix, q_jat, q_jput, q_min1, q_min2, q_max1, q_max2, q_or0, q_0or, q_bs, if_true, if_false, true_and, and_true, false_and, and_false, not_true_eq_false, not_false_eq_true, eq_self, Bool.false_eq_true, q_z0, q_z1, m_0 hM, m_E hM, m_Es hM, m_Er hM, m_H hM, m_W hM, m_R0 hM, m_R1 hM, m_R2 hM, q_shl1]) (s0 := (m1, nI 0, f2)) ⟨f2, rfl⟩ (show 2 ^ C 0 0 2 < F by omega)
  refine ⟨ff, fa, c, ?_⟩
  unfold X12_fewestOf
  rw [a1, q_bs]
  show (iter (X12_fewestOf_b8 F g ff fa) F (m1, nI 0, f2)).bind _ = _
  rw [h1, q_bs]
