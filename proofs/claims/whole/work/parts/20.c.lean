/-! ===== PURE 20.c: names on both sides ===== -/
theorem lN_or (a b : Nat) : lN a ||| lN b = lN (a ||| b) := by
  apply Int64.toBitVec_inj.1
  show BitVec.ofNat 64 a ||| BitVec.ofNat 64 b = BitVec.ofNat 64 (a ||| b)
  apply BitVec.eq_of_toNat_eq
  rw [BitVec.toNat_or, BitVec.toNat_ofNat, BitVec.toNat_ofNat, BitVec.toNat_ofNat, Nat.or_mod_two_pow]
theorem lN_tn {a : Nat} (h : a < 2 ^ 64) : (lN a).toBitVec.toNat = a := by
  show (BitVec.ofNat 64 a).toNat = a
  rw [BitVec.toNat_ofNat, Nat.mod_eq_of_lt h]
theorem lN_cmp {a b : Nat} (ha : a < 2 ^ 64) (hb : b < 2 ^ 64) : (lg_cmp (lN a) (lN b) = 0) ↔ a = b := by
  rw [lg_cmp_eq]
  constructor
  · intro h
    rw [← lN_tn ha, ← lN_tn hb, h]
  · intro h; rw [h]
def c256 (B : Nat → Nat) (q : Nat) : Nat → Nat
  | 0 => 0
  | k + 1 => c256 B q k * 256 + B (q + k)
theorem c256_lt {B : Nat → Nat} {q : Nat} : ∀ k, (∀ i, i < k → B (q + i) < 256) → c256 B q k < 256 ^ k
  | 0, _ => by show 0 < 1; omega
  | k + 1, h => by
    have i := c256_lt k (fun j hj => h j (by omega))
    have d := h k (by omega)
    rw [c256, Nat.pow_succ]; omega
theorem c8_lt : ∀ n v, c8 n v < 256 ^ n
  | 0, v => by show 0 < 1; omega
  | n + 1, v => by
    have i := c8_lt n (v / 32)
    rw [c8, Nat.pow_succ]
    by_cases h : v = 0
    · rw [if_pos h]; have := Nat.pow_pos (n := n) (show 0 < 256 by omega); omega
    · rw [if_neg h]; have := Nat.mod_lt v (show 0 < 32 by omega); omega
theorem c8_inj : ∀ n a b, a < 32 ^ n → b < 32 ^ n → c8 n a = c8 n b → a = b
  | 0, a, b, ha, hb, _ => by
    rw [Nat.pow_zero] at ha hb; omega
  | n + 1, a, b, ha, hb, h => by
    rw [Nat.pow_succ] at ha hb
    rw [c8, c8] at h
    have ma := Nat.mod_lt a (show 0 < 32 by omega)
    have mb := Nat.mod_lt b (show 0 < 32 by omega)
    by_cases a0 : a = 0
    · by_cases b0 : b = 0
      · omega
      · rw [if_pos a0, if_neg b0] at h; omega
    · by_cases b0 : b = 0
      · rw [if_neg a0, if_pos b0] at h; omega
      · rw [if_neg a0, if_neg b0] at h
        have i := c8_inj n (a / 32) (b / 32) (by omega) (by omega) (by omega)
        omega
theorem w8_lt : ∀ n v, w8 n v → v < 32 ^ n
  | 0, v, h => by
    have : v = 0 := h
    rw [this]; show 0 < 1; omega
  | n + 1, v, h => by
    rw [Nat.pow_succ]
    rcases h with h | ⟨h1, h2, h3⟩
    · rw [h]; have := Nat.pow_pos (n := n) (show 0 < 32 by omega); omega
    · have := w8_lt n _ h3; omega
/-- the letters from q on as a word by 32 and by 256 -/
theorem c32_w8 {B : Nat → Nat} {q : Nat} : ∀ k n, k ≤ n → (∀ i, i < k → isLt (B (q + i)) = true) → w8 n (c32 B q k) ∧ c8 n (c32 B q k) = c256 B q k
  | 0, n, _, _ => by
    cases n with
    | zero => exact ⟨rfl, rfl⟩
    | succ n => exact ⟨Or.inl rfl, by rw [c8, if_pos (show c32 B q 0 = 0 from rfl)]; rfl⟩
  | k + 1, n, hk, h => by
    obtain ⟨m, rfl⟩ : ∃ m, n = m + 1 := ⟨n - 1, by omega⟩
    obtain ⟨i1, i2⟩ := c32_w8 (B := B) (q := q) k m (by omega) (fun j hj => h j (by omega))
    have d := of_decide_eq_true (h k (by omega))
    have e1 : (c32 B q k * 32 + (B (q + k) - 96)) / 32 = c32 B q k := by omega
    have e2 : (c32 B q k * 32 + (B (q + k) - 96)) % 32 = B (q + k) - 96 := by omega
    rw [c32]
    refine ⟨Or.inr ⟨by omega, by omega, by rw [e1]; exact i1⟩, ?_⟩
    rw [c8, if_neg (by omega), e1, e2, i2, c256]; omega
theorem c32_pos {B : Nat → Nat} {q k : Nat} (hk : 0 < k) (h : ∀ i, i < k → isLt (B (q + i)) = true) : c32 B q k ≠ 0 := by
  obtain ⟨m, rfl⟩ : ∃ m, k = m + 1 := ⟨k - 1, by omega⟩
  have d := of_decide_eq_true (h m (by omega))
  rw [c32]; omega
theorem m_nameHere {F n q e : Nat} {B : Nat → Nat} {f g : Nat → Int32} (hx : TX n B f g) (hqe : q ≤ e) (hen : e ≤ n) (h8 : e - q ≤ 8) (hF : 2000 < F) : X12_nameHere F (nI n) (nI q) (nI e) g = some (lN (c256 B q (e - q))) := by
  have n9 := hx.1
  have it : iter (X12_nameHere_b7 F (nI n) (nI q) (nI e) g) F (lN (c256 B q 0), nI (q + 0)) = some (lN (c256 B q (e - q))) := by
    refine iter_count (b := X12_nameHere_b7 F (nI n) (nI q) (nI e) g) (fun i => (lN (c256 B q i), nI (q + i))) (e - q) (fun i hi => ?_) ?_ F (by omega)
    · have y1 := byte_in hx (show q + i < n by omega)
      have y2 := (hx.2 (q + i) (by omega)).1
      have sh : jshl64 (lN (c256 B q i)) (nI 8) = lN (c256 B q i * 256) := by
        unfold jshl64; exact wb_shl _ (by omega)
      have o : c256 B q i * 256 ||| B (q + i) = c256 B q i * 256 + B (q + i) := by
        rw [Nat.mul_comm, show (256 : Nat) = 2 ^ 8 from rfl, Nat.two_pow_add_eq_or_of_lt (show B (q + i) < 2 ^ 8 from y2)]
      have nl := nI_l (n := B (q + i)) (by omega)
      rw [c256]
      unfold X12_nameHere_b7
      simp (disch := omega) only [l_0, l_1, l_2, l_3, l_4, l_5, l_6, l_7, l_8, l_9, l_10, l_11, l_12, l_13, l_14, l_15, l_16, l_17, l_18, l_19, l_20, l_21, l_22, l_23, l_24, l_25, l_26, l_27, l_30, l_31, l_32, l_40, l_48, l_57, l_59, l_60, l_61, l_62, l_64, l_83, l_90, l_97, l_99, l_100, l_108, l_115, l_122, l_123, l_127, l_128, l_131, l_135, l_200, l_255, l_256, l_300, l_487, l_495, l_900, l_999, l_1000, l_1700, l_1792, l_1980, l_2048, l_2475, l_2970, l_3121, l_9999, l_10000, l_11351, l_65536, l_100000, l_1000000, ↓l_m1, l_neg, nI_add, pk_mul, pk_sub, q_leT, q_leF, q_ltT, q_ltF, q_eqT, q_eqF, q_m1e, q_m1e2, q_m1lt, q_m1le, q_m1nl, q_m1nle, q_m1s, q_ix, q_jat, q_jput, q_min1, q_min2, q_max1, q_max2, q_or0, q_0or, q_bs, if_true, if_false, true_and, and_true, false_and, and_false, not_true_eq_false, not_false_eq_true, eq_self, Bool.false_eq_true, q_z0, q_z1, y1, sh, nl, lN_or, o, Nat.add_assoc]
    · rw [show q + (e - q) = e by omega]
      unfold X12_nameHere_b7
      simp (disch := omega) only [l_0, l_1, l_2, l_3, l_4, l_5, l_6, l_7, l_8, l_9, l_10, l_11, l_12, l_13, l_14, l_15, l_16, l_17, l_18, l_19, l_20, l_21, l_22, l_23, l_24, l_25, l_26, l_27, l_30, l_31, l_32, l_40, l_48, l_57, l_59, l_60, l_61, l_62, l_64, l_83, l_90, l_97, l_99, l_100, l_108, l_115, l_122, l_123, l_127, l_128, l_131, l_135, l_200, l_255, l_256, l_300, l_487, l_495, l_900, l_999, l_1000, l_1700, l_1792, l_1980, l_2048, l_2475, l_2970, l_3121, l_9999, l_10000, l_11351, l_65536, l_100000, l_1000000, ↓l_m1, l_neg, nI_add, pk_mul, pk_sub, q_leT, q_leF, q_ltT, q_ltF, q_eqT, q_eqF, q_m1e, q_m1e2, q_m1lt, q_m1le, q_m1nl, q_m1nle, q_m1s, q_ix, q_jat, q_jput, q_min1, q_min2, q_max1, q_max2, q_or0, q_0or, q_bs, if_true, if_false, true_and, and_true, false_and, and_false, not_true_eq_false, not_false_eq_true, eq_self, Bool.false_eq_true, q_z0, q_z1]
  unfold X12_nameHere
  rw [show ((0 : Int64), nI q) = (lN (c256 B q 0), nI (q + 0)) from rfl, it, q_bs]
/-- the two lists of names, of both sides -/
def NM (C : Cy) (n : Nat) (nm : Nat → Nat → Nat) (co : Nat → Int64) (so nu : Nat → Int32) (mn : Nat → Int64) : Prop :=
  n ≤ 27 ∧ (∀ i, i < n → ∃ s k, 1 ≤ s ∧ s ≤ 4 ∧ k < cnt C s ∧ co i = lN (nm s k) ∧ so i = nI s ∧ nu i = nI k ∧ nm s k ≠ 0) ∧
    (∀ s k, 1 ≤ s → s ≤ 4 → k < cnt C s → nm s k ≠ 0 → ∃ i, i < n ∧ co i = lN (nm s k) ∧ so i = nI s ∧ nu i = nI k) ∧
    (∀ s k, 1 ≤ s → s ≤ 4 → k < cnt C s → w8 8 (nm s k) ∧ mn (nb s + k) = lN (c8 8 (nm s k))) ∧
    (∀ s k s' k', 1 ≤ s → s ≤ 4 → k < cnt C s → 1 ≤ s' → s' ≤ 4 → k' < cnt C s' → nm s k ≠ 0 → nm s k = nm s' k' → s = s' ∧ k = k')
theorem NM_of {C : Cy} {nN : Int32} {co : Nat → Int64} {so nu : Nat → Int32} {mn : Nat → Int64} (h : NR C nN co so nu mn) : ∃ n nm, nN = nI n ∧ NM C n nm co so nu mn := by
  obtain ⟨n, nm, a1, a2, a3, a4, a5, a6⟩ := h
  exact ⟨n, nm, a1, a2, a3, a4, a5, a6⟩
theorem NM_to {C : Cy} {n : Nat} {nm : Nat → Nat → Nat} {co : Nat → Int64} {so nu : Nat → Int32} {mn : Nat → Int64} (h : NM C n nm co so nu mn) : NR C (nI n) co so nu mn := by
  obtain ⟨a2, a3, a4, a5, a6⟩ := h
  exact ⟨n, nm, rfl, a2, a3, a4, a5, a6⟩
theorem p32 {a : Nat} (h : a < 32 ^ 8) : a < 2 ^ 64 := Nat.lt_trans h (by decide)
/-- the class looks a word up -/
theorem c_index {F n w : Nat} {C : Cy} {nm : Nat → Nat → Nat} {co : Nat → Int64} {so nu : Nat → Int32} {mn : Nat → Int64} (h : NM C n nm co so nu mn) (hw : w < 32 ^ 8) (hF : 2000 < F) :
    (∃ s k i, 1 ≤ s ∧ s ≤ 4 ∧ k < cnt C s ∧ nm s k = w ∧ i < n ∧ X3_indexOf F (nI n) co (lN w) = some (nI i) ∧ so i = nI s ∧ nu i = nI k) ∨ ((∀ s k, 1 ≤ s → s ≤ 4 → k < cnt C s → nm s k = w → w = 0) ∧ X3_indexOf F (nI n) co (lN w) = some m1) := by
  obtain ⟨a1, a2, a3, a4, a5⟩ := h
  have it : ∀ p : Nat → Bool, (∀ i, i < n → (p i = true ↔ co i = lN w)) → iter (X3_indexOf_b2 F (nI n) co (lN w)) F 0 = some (if fa_first p n < n then .inl (nI (fa_first p n)) else .inr ()) := by
    intro p hp
    refine it_find p n (fun i hi => ?_) ?_ (by omega)
    · obtain ⟨s, k, s1, s4, hk, e1, e2, e3, e4⟩ := a2 i hi
      have wl := w8_lt 8 _ (a4 s k s1 s4 hk).1
      have le := lN_cmp (p32 wl) (p32 hw)
      unfold X3_indexOf_b2
      rw [← e1] at le
      by_cases z : co i = lN w
      · have z1 : (lg_cmp (co i) (lN w) = nI 0) = True := by rw [z]; exact eq_true ((lg_cmp_eq _ _).mpr rfl)
        rw [(hp i hi).mpr z]
        simp (disch := omega) only [l_0, l_1, l_2, l_3, l_4, l_5, l_6, l_7, l_8, l_9, l_10, l_11, l_12, l_13, l_14, l_15, l_16, l_17, l_18, l_19, l_20, l_21, l_22, l_23, l_24, l_25, l_26, l_27, l_30, l_31, l_32, l_40, l_48, l_57, l_59, l_60, l_61, l_62, l_64, l_83, l_90, l_97, l_99, l_100, l_108, l_115, l_122, l_123, l_127, l_128, l_131, l_135, l_200, l_255, l_256, l_300, l_487, l_495, l_900, l_999, l_1000, l_1700, l_1792, l_1980, l_2048, l_2475, l_2970, l_3121, l_9999, l_10000, l_11351, l_65536, l_100000, l_1000000, ↓l_m1, l_neg, nI_add, pk_mul, pk_sub, q_leT, q_leF, q_ltT, q_ltF, q_eqT, q_eqF, q_m1e, q_m1e2, q_m1lt, q_m1le, q_m1nl, q_m1nle, q_m1s, q_ix, q_jat, q_jput, q_min1, q_min2, q_max1, q_max2, q_or0, q_0or, q_bs, if_true, if_false, true_and, and_true, false_and, and_false, not_true_eq_false, not_false_eq_true, eq_self, Bool.false_eq_true, q_z0, q_z1, z1]
      · have z1 : (lg_cmp (co i) (lN w) = nI 0) = False := eq_false (fun y => z ((lg_cmp_eq _ _).mp y))
        have pf : p i = false := by
          cases y : p i with
          | false => rfl
          | true => exact absurd ((hp i hi).mp y) z
        rw [pf]
        simp (disch := omega) only [l_0, l_1, l_2, l_3, l_4, l_5, l_6, l_7, l_8, l_9, l_10, l_11, l_12, l_13, l_14, l_15, l_16, l_17, l_18, l_19, l_20, l_21, l_22, l_23, l_24, l_25, l_26, l_27, l_30, l_31, l_32, l_40, l_48, l_57, l_59, l_60, l_61, l_62, l_64, l_83, l_90, l_97, l_99, l_100, l_108, l_115, l_122, l_123, l_127, l_128, l_131, l_135, l_200, l_255, l_256, l_300, l_487, l_495, l_900, l_999, l_1000, l_1700, l_1792, l_1980, l_2048, l_2475, l_2970, l_3121, l_9999, l_10000, l_11351, l_65536, l_100000, l_1000000, ↓l_m1, l_neg, nI_add, pk_mul, pk_sub, q_leT, q_leF, q_ltT, q_ltF, q_eqT, q_eqF, q_m1e, q_m1e2, q_m1lt, q_m1le, q_m1nl, q_m1nle, q_m1s, q_ix, q_jat, q_jput, q_min1, q_min2, q_max1, q_max2, q_or0, q_0or, q_bs, if_true, if_false, true_and, and_true, false_and, and_false, not_true_eq_false, not_false_eq_true, eq_self, Bool.false_eq_true, q_z0, q_z1, z1]
    · unfold X3_indexOf_b2
      simp (disch := omega) only [l_0, l_1, l_2, l_3, l_4, l_5, l_6, l_7, l_8, l_9, l_10, l_11, l_12, l_13, l_14, l_15, l_16, l_17, l_18, l_19, l_20, l_21, l_22, l_23, l_24, l_25, l_26, l_27, l_30, l_31, l_32, l_40, l_48, l_57, l_59, l_60, l_61, l_62, l_64, l_83, l_90, l_97, l_99, l_100, l_108, l_115, l_122, l_123, l_127, l_128, l_131, l_135, l_200, l_255, l_256, l_300, l_487, l_495, l_900, l_999, l_1000, l_1700, l_1792, l_1980, l_2048, l_2475, l_2970, l_3121, l_9999, l_10000, l_11351, l_65536, l_100000, l_1000000, ↓l_m1, l_neg, nI_add, pk_mul, pk_sub, q_leT, q_leF, q_ltT, q_ltF, q_eqT, q_eqF, q_m1e, q_m1e2, q_m1lt, q_m1le, q_m1nl, q_m1nle, q_m1s, q_ix, q_jat, q_jput, q_min1, q_min2, q_max1, q_max2, q_or0, q_0or, q_bs, if_true, if_false, true_and, and_true, false_and, and_false, not_true_eq_false, not_false_eq_true, eq_self, Bool.false_eq_true, q_z0, q_z1]
  have it' := it (fun i => decide (co i = lN w)) (fun i _ => by rw [decide_eq_true_eq])
  by_cases z : fa_first (fun i => decide (co i = lN w)) n < n
  · left
    obtain ⟨s, k, s1, s4, hk, e1, e2, e3, e4⟩ := a2 _ z
    have yes := of_decide_eq_true (fa_first_yes _ n z)
    have wl := w8_lt 8 _ (a4 s k s1 s4 hk).1
    rw [e1] at yes
    have ew : nm s k = w := (lN_cmp (p32 wl) (p32 hw)).mp ((lg_cmp_eq _ _).mpr yes)
    refine ⟨s, k, _, s1, s4, hk, ew, z, ?_, e2, e3⟩
    unfold X3_indexOf
    rw [it', if_pos z]; rfl
  · right
    refine ⟨fun s k s1 s4 hk e => Classical.byContradiction fun w0 => ?_, ?_⟩
    · obtain ⟨i, i1, i2, i3, i4⟩ := a3 s k s1 s4 hk (by rw [e]; exact w0)
      have nl := fa_first_no (fun i => decide (co i = lN w)) n i (by have := fa_first_le (fun i => decide (co i = lN w)) n; omega)
      rw [i2, e, decide_eq_true rfl] at nl; cases nl
    · unfold X3_indexOf
      rw [it', if_neg z]; rfl
/-- the model looks it up among those of one sort -/
theorem m_find {F n q e N s off : Nat} {C : Cy} {nm : Nat → Nat → Nat} {co : Nat → Int64} {so nu : Nat → Int32} {names : Nat → Int64} {B : Nat → Nat} {f g : Nat → Int32} (ok : Ok C) (h : NM C N nm co so nu (fun k => names (off + k))) (ho : off ≤ 108) (hx : TX n B f g) (hqe : q < e) (hen : e ≤ n) (h8 : e - q ≤ 8) (hl : ∀ k, q ≤ k → k < e → isLt (B k) = true) (s1 : 1 ≤ s) (s4 : s ≤ 4) (hF : 2000 < F) :
    (∃ k, k < cnt C s ∧ nm s k = c32 B q (e - q) ∧ X12_findHere F (nI n) (nI q) (nI e) names g (nI (off + nb s)) (nI (cnt C s)) = some (nI k)) ∨ ((∀ k, k < cnt C s → nm s k ≠ c32 B q (e - q)) ∧ X12_findHere F (nI n) (nI q) (nI e) names g (nI (off + nb s)) (nI (cnt C s)) = some m1) := by
  obtain ⟨a1, a2, a3, a4, a5⟩ := h
  have cl := cnt_le ok s1 s4
  have nh := m_nameHere (F := F) hx (show q ≤ e by omega) hen h8 hF
  have lt : ∀ i, i < e - q → isLt (B (q + i)) = true := fun i hi => hl _ (by omega) (by omega)
  obtain ⟨cw, ce⟩ := c32_w8 (B := B) (q := q) (e - q) 8 h8 lt
  have c3 := w8_lt 8 _ cw
  have hit : ∀ k, k < cnt C s → (lg_cmp (names (off + nb s + k)) (lN (c256 B q (e - q))) = 0 ↔ nm s k = c32 B q (e - q)) := fun k hk => by
    obtain ⟨w1, w2⟩ := a4 s k s1 s4 hk
    have w2 : names (off + (nb s + k)) = lN (c8 8 (nm s k)) := w2
    rw [show off + nb s + k = off + (nb s + k) by omega, w2, ← ce, lN_cmp (Nat.lt_of_lt_of_le (c8_lt 8 _) (by decide)) (Nat.lt_of_lt_of_le (c8_lt 8 _) (by decide))]
    exact ⟨fun z => c8_inj 8 _ _ (w8_lt 8 _ w1) c3 z, fun z => by rw [z]⟩
  have it : iter (X12_findHere_b2 F (nI n) (nI q) (nI e) names g (nI (off + nb s)) (nI (cnt C s))) F 0 = some (if fa_first (fun k => decide (nm s k = c32 B q (e - q))) (cnt C s) < cnt C s then .inl (nI (fa_first (fun k => decide (nm s k = c32 B q (e - q))) (cnt C s))) else .inr ()) := by
    refine it_find _ (cnt C s) (fun k hk => ?_) ?_ (by omega)
    · have hh := hit k hk
      unfold X12_findHere_b2
      by_cases z : nm s k = c32 B q (e - q)
      · have z1 : (lg_cmp (names (off + nb s + k)) (lN (c256 B q (e - q))) = nI 0) = True := eq_true (hh.mpr z)
        rw [decide_eq_true z]
        simp (disch := omega) only [l_0, l_1, l_2, l_3, l_4, l_5, l_6, l_7, l_8, l_9, l_10, l_11, l_12, l_13, l_14, l_15, l_16, l_17, l_18, l_19, l_20, l_21, l_22, l_23, l_24, l_25, l_26, l_27, l_30, l_31, l_32, l_40, l_48, l_57, l_59, l_60, l_61, l_62, l_64, l_83, l_90, l_97, l_99, l_100, l_108, l_115, l_122, l_123, l_127, l_128, l_131, l_135, l_200, l_255, l_256, l_300, l_487, l_495, l_900, l_999, l_1000, l_1700, l_1792, l_1980, l_2048, l_2475, l_2970, l_3121, l_9999, l_10000, l_11351, l_65536, l_100000, l_1000000, ↓l_m1, l_neg, nI_add, pk_mul, pk_sub, q_leT, q_leF, q_ltT, q_ltF, q_eqT, q_eqF, q_m1e, q_m1e2, q_m1lt, q_m1le, q_m1nl, q_m1nle, q_m1s, q_ix, q_jat, q_jput, q_min1, q_min2, q_max1, q_max2, q_or0, q_0or, q_bs, if_true, if_false, true_and, and_true, false_and, and_false, not_true_eq_false, not_false_eq_true, eq_self, Bool.false_eq_true, q_z0, q_z1, nh, z1]
      · have z1 : (lg_cmp (names (off + nb s + k)) (lN (c256 B q (e - q))) = nI 0) = False := eq_false (fun y => z (hh.mp y))
        rw [decide_eq_false z]
        simp (disch := omega) only [l_0, l_1, l_2, l_3, l_4, l_5, l_6, l_7, l_8, l_9, l_10, l_11, l_12, l_13, l_14, l_15, l_16, l_17, l_18, l_19, l_20, l_21, l_22, l_23, l_24, l_25, l_26, l_27, l_30, l_31, l_32, l_40, l_48, l_57, l_59, l_60, l_61, l_62, l_64, l_83, l_90, l_97, l_99, l_100, l_108, l_115, l_122, l_123, l_127, l_128, l_131, l_135, l_200, l_255, l_256, l_300, l_487, l_495, l_900, l_999, l_1000, l_1700, l_1792, l_1980, l_2048, l_2475, l_2970, l_3121, l_9999, l_10000, l_11351, l_65536, l_100000, l_1000000, ↓l_m1, l_neg, nI_add, pk_mul, pk_sub, q_leT, q_leF, q_ltT, q_ltF, q_eqT, q_eqF, q_m1e, q_m1e2, q_m1lt, q_m1le, q_m1nl, q_m1nle, q_m1s, q_ix, q_jat, q_jput, q_min1, q_min2, q_max1, q_max2, q_or0, q_0or, q_bs, if_true, if_false, true_and, and_true, false_and, and_false, not_true_eq_false, not_false_eq_true, eq_self, Bool.false_eq_true, q_z0, q_z1, nh, z1]
    · unfold X12_findHere_b2
      simp (disch := omega) only [l_0, l_1, l_2, l_3, l_4, l_5, l_6, l_7, l_8, l_9, l_10, l_11, l_12, l_13, l_14, l_15, l_16, l_17, l_18, l_19, l_20, l_21, l_22, l_23, l_24, l_25, l_26, l_27, l_30, l_31, l_32, l_40, l_48, l_57, l_59, l_60, l_61, l_62, l_64, l_83, l_90, l_97, l_99, l_100, l_108, l_115, l_122, l_123, l_127, l_128, l_131, l_135, l_200, l_255, l_256, l_300, l_487, l_495, l_900, l_999, l_1000, l_1700, l_1792, l_1980, l_2048, l_2475, l_2970, l_3121, l_9999, l_10000, l_11351, l_65536, l_100000, l_1000000, ↓l_m1, l_neg, nI_add, pk_mul, pk_sub, q_leT, q_leF, q_ltT, q_ltF, q_eqT, q_eqF, q_m1e, q_m1e2, q_m1lt, q_m1le, q_m1nl, q_m1nle, q_m1s, q_ix, q_jat, q_jput, q_min1, q_min2, q_max1, q_max2, q_or0, q_0or, q_bs, if_true, if_false, true_and, and_true, false_and, and_false, not_true_eq_false, not_false_eq_true, eq_self, Bool.false_eq_true, q_z0, q_z1]
  by_cases z : fa_first (fun k => decide (nm s k = c32 B q (e - q))) (cnt C s) < cnt C s
  · left
    refine ⟨_, z, of_decide_eq_true (fa_first_yes _ _ z), ?_⟩
    unfold X12_findHere
    rw [it, if_pos z]; rfl
  · right
    refine ⟨fun k hk y => ?_, ?_⟩
    · have nl := fa_first_no (fun k => decide (nm s k = c32 B q (e - q))) (cnt C s) k (by have := fa_first_le (fun k => decide (nm s k = c32 B q (e - q))) (cnt C s); omega)
      rw [decide_eq_true y] at nl; cases nl
    · unfold X12_findHere
      rw [it, if_neg z]; rfl
/-- both sides look the word at hand up: it is the k-th of sort s, or no such one -/
theorem both_find {F n q e N s off : Nat} {C : Cy} {nm : Nat → Nat → Nat} {co : Nat → Int64} {so nu : Nat → Int32} {names : Nat → Int64} {B : Nat → Nat} {f g : Nat → Int32} (ok : Ok C) (h : NM C N nm co so nu (fun k => names (off + k))) (ho : off ≤ 108) (hx : TX n B f g) (hqe : q < e) (hen : e ≤ n) (h8 : e - q ≤ 8) (hl : ∀ k, q ≤ k → k < e → isLt (B k) = true) (s1 : 1 ≤ s) (s4 : s ≤ 4) (hF : 2000 < F) :
    (∃ k i, k < cnt C s ∧ nm s k = c32 B q (e - q) ∧ X12_findHere F (nI n) (nI q) (nI e) names g (nI (off + nb s)) (nI (cnt C s)) = some (nI k) ∧ i < N ∧ X3_indexOf F (nI N) co (lN (c32 B q (e - q))) = some (nI i) ∧ so i = nI s ∧ nu i = nI k) ∨
    ((∀ k, k < cnt C s → nm s k ≠ c32 B q (e - q)) ∧ X12_findHere F (nI n) (nI q) (nI e) names g (nI (off + nb s)) (nI (cnt C s)) = some m1 ∧ ((∃ s' k i, 1 ≤ s' ∧ s' ≤ 4 ∧ s' ≠ s ∧ k < cnt C s' ∧ i < N ∧ X3_indexOf F (nI N) co (lN (c32 B q (e - q))) = some (nI i) ∧ so i = nI s') ∨ X3_indexOf F (nI N) co (lN (c32 B q (e - q))) = some m1)) := by
  have lt : ∀ i, i < e - q → isLt (B (q + i)) = true := fun i hi => hl _ (by omega) (by omega)
  have c3 := w8_lt 8 _ (c32_w8 (B := B) (q := q) (e - q) 8 h8 lt).1
  have c0 := c32_pos (B := B) (q := q) (show 0 < e - q by omega) lt
  have ci := c_index (F := F) h c3 hF
  rcases m_find (F := F) (s := s) ok h ho hx hqe hen h8 hl s1 s4 hF with ⟨k, k1, k2, k3⟩ | ⟨k1, k2⟩
  · left
    rcases ci with ⟨s', k', i, t1, t4, hk, ew, i1, i2, i3, i4⟩ | ⟨no, _⟩
    · obtain ⟨es, ek⟩ := h.2.2.2.2 s k s' k' s1 s4 k1 t1 t4 hk (by rw [k2]; exact c0) (by rw [k2, ew])
      subst es; subst ek
      exact ⟨k, i, k1, k2, k3, i1, i2, i3, i4⟩
    · exact absurd (no s k s1 s4 k1 k2) c0
  · right
    refine ⟨k1, k2, ?_⟩
    rcases ci with ⟨s', k', i, t1, t4, hk, ew, i1, i2, i3, i4⟩ | ⟨_, no⟩
    · left
      exact ⟨s', k', i, t1, t4, fun z => k1 k' (by rw [← z]; exact hk) (by rw [← z]; exact ew), hk, i1, i2, i3⟩
    · exact Or.inr no
