/-! ===== PURE 13.a: numbers for simp, loops ===== -/
theorem l_0 : (0 : Int32) = nI 0 := rfl
theorem l_1 : (1 : Int32) = nI 1 := rfl
theorem l_2 : (2 : Int32) = nI 2 := rfl
theorem l_3 : (3 : Int32) = nI 3 := rfl
theorem l_4 : (4 : Int32) = nI 4 := rfl
theorem l_5 : (5 : Int32) = nI 5 := rfl
theorem l_6 : (6 : Int32) = nI 6 := rfl
theorem l_7 : (7 : Int32) = nI 7 := rfl
theorem l_8 : (8 : Int32) = nI 8 := rfl
theorem l_9 : (9 : Int32) = nI 9 := rfl
theorem l_10 : (10 : Int32) = nI 10 := rfl
theorem l_11 : (11 : Int32) = nI 11 := rfl
theorem l_12 : (12 : Int32) = nI 12 := rfl
theorem l_13 : (13 : Int32) = nI 13 := rfl
theorem l_14 : (14 : Int32) = nI 14 := rfl
theorem l_15 : (15 : Int32) = nI 15 := rfl
theorem l_16 : (16 : Int32) = nI 16 := rfl
theorem l_17 : (17 : Int32) = nI 17 := rfl
theorem l_18 : (18 : Int32) = nI 18 := rfl
theorem l_19 : (19 : Int32) = nI 19 := rfl
theorem l_20 : (20 : Int32) = nI 20 := rfl
theorem l_21 : (21 : Int32) = nI 21 := rfl
theorem l_22 : (22 : Int32) = nI 22 := rfl
theorem l_23 : (23 : Int32) = nI 23 := rfl
theorem l_24 : (24 : Int32) = nI 24 := rfl
theorem l_25 : (25 : Int32) = nI 25 := rfl
theorem l_26 : (26 : Int32) = nI 26 := rfl
theorem l_27 : (27 : Int32) = nI 27 := rfl
theorem l_30 : (30 : Int32) = nI 30 := rfl
theorem l_31 : (31 : Int32) = nI 31 := rfl
theorem l_32 : (32 : Int32) = nI 32 := rfl
theorem l_40 : (40 : Int32) = nI 40 := rfl
theorem l_48 : (48 : Int32) = nI 48 := rfl
theorem l_57 : (57 : Int32) = nI 57 := rfl
theorem l_59 : (59 : Int32) = nI 59 := rfl
theorem l_60 : (60 : Int32) = nI 60 := rfl
theorem l_61 : (61 : Int32) = nI 61 := rfl
theorem l_62 : (62 : Int32) = nI 62 := rfl
theorem l_64 : (64 : Int32) = nI 64 := rfl
theorem l_83 : (83 : Int32) = nI 83 := rfl
theorem l_90 : (90 : Int32) = nI 90 := rfl
theorem l_97 : (97 : Int32) = nI 97 := rfl
theorem l_99 : (99 : Int32) = nI 99 := rfl
theorem l_100 : (100 : Int32) = nI 100 := rfl
theorem l_108 : (108 : Int32) = nI 108 := rfl
theorem l_115 : (115 : Int32) = nI 115 := rfl
theorem l_122 : (122 : Int32) = nI 122 := rfl
theorem l_123 : (123 : Int32) = nI 123 := rfl
theorem l_127 : (127 : Int32) = nI 127 := rfl
theorem l_128 : (128 : Int32) = nI 128 := rfl
theorem l_131 : (131 : Int32) = nI 131 := rfl
theorem l_135 : (135 : Int32) = nI 135 := rfl
theorem l_200 : (200 : Int32) = nI 200 := rfl
theorem l_255 : (255 : Int32) = nI 255 := rfl
theorem l_256 : (256 : Int32) = nI 256 := rfl
theorem l_300 : (300 : Int32) = nI 300 := rfl
theorem l_487 : (487 : Int32) = nI 487 := rfl
theorem l_495 : (495 : Int32) = nI 495 := rfl
theorem l_900 : (900 : Int32) = nI 900 := rfl
theorem l_999 : (999 : Int32) = nI 999 := rfl
theorem l_1000 : (1000 : Int32) = nI 1000 := rfl
theorem l_1700 : (1700 : Int32) = nI 1700 := rfl
theorem l_1792 : (1792 : Int32) = nI 1792 := rfl
theorem l_1980 : (1980 : Int32) = nI 1980 := rfl
theorem l_2048 : (2048 : Int32) = nI 2048 := rfl
theorem l_2475 : (2475 : Int32) = nI 2475 := rfl
theorem l_2970 : (2970 : Int32) = nI 2970 := rfl
theorem l_3121 : (3121 : Int32) = nI 3121 := rfl
theorem l_9999 : (9999 : Int32) = nI 9999 := rfl
theorem l_10000 : (10000 : Int32) = nI 10000 := rfl
theorem l_11351 : (11351 : Int32) = nI 11351 := rfl
theorem l_65536 : (65536 : Int32) = nI 65536 := rfl
theorem l_100000 : (100000 : Int32) = nI 100000 := rfl
theorem l_1000000 : (1000000 : Int32) = nI 1000000 := rfl

def m1 : Int32 := -1
theorem l_m1 : (-1 : Int32) = m1 := rfl
theorem l_neg : -nI 1 = m1 := rfl
theorem q_leT {a b : Nat} (h : a ≤ b) (hb : b < 2 ^ 31) : (nI a ≤ nI b) = True := eq_true (nI_le h hb)
theorem q_leF {a b : Nat} (h : b < a) (ha : a < 2 ^ 31) : (nI a ≤ nI b) = False := eq_false (nI_ge h ha)
theorem q_ltT {a b : Nat} (h : a < b) (hb : b < 2 ^ 31) : (nI a < nI b) = True := eq_true (nI_lt h hb)
theorem q_ltF {a b : Nat} (h : b ≤ a) (ha : a < 2 ^ 31) : (nI a < nI b) = False := eq_false (nI_nlt h ha)
theorem q_eqT {a b : Nat} (h : a = b) : (nI a = nI b) = True := eq_true (by rw [h])
theorem q_eqF {a b : Nat} (h : a ≠ b) (ha : a < 2 ^ 31) (hb : b < 2 ^ 31) : (nI a = nI b) = False := eq_false (fun e => h ((nI_eq ha hb).mp e))
theorem q_m1e {a : Nat} (h : a < 2 ^ 31) : (nI a = m1) = False := eq_false (nI_ne_m1 h)
theorem q_m1e2 {a : Nat} (h : a < 2 ^ 31) : (m1 = nI a) = False := eq_false (fun e => nI_ne_m1 h e.symm)
theorem q_m1_lt' {a : Nat} (h : a < 2 ^ 31) : m1 < nI a := by
  rw [Int32.lt_iff_toInt_lt, nI_toInt h, show m1.toInt = -1 from by decide]; omega
theorem q_m1lt {a : Nat} (h : a < 2 ^ 31) : (m1 < nI a) = True := eq_true (q_m1_lt' h)
theorem q_m1le {a : Nat} (h : a < 2 ^ 31) : (m1 ≤ nI a) = True := eq_true (Int32.le_of_lt (q_m1_lt' h))
theorem q_m1nl {a : Nat} (h : a < 2 ^ 31) : (nI a < m1) = False := eq_false (Int32.not_lt.mpr (Int32.le_of_lt (q_m1_lt' h)))
theorem q_m1nle {a : Nat} (h : a < 2 ^ 31) : (nI a ≤ m1) = False := eq_false (Int32.not_le.mpr (q_m1_lt' h))
theorem q_m1s : (m1 = m1) = True := eq_true rfl
theorem q_ix {k n : Nat} (h : k < n) (hn : n < 2 ^ 31) : (ix (nI k) n = true) = True := eq_true (ix_nI h hn)
theorem q_jat {α : Type} (f : Nat → α) {k : Nat} (h : k < 2 ^ 31) : jat f (nI k) = f k := jat_nI f h
theorem q_jput (f : Nat → Int32) {k : Nat} (x : Int32) (h : k < 2 ^ 31) : jput f (nI k) x = upd f k x := jput_nI f x h
theorem q_min1 {a b : Nat} (h : a ≤ b) (hb : b < 2 ^ 31) : jmin (nI a) (nI b) = nI a := by
  unfold jmin; rw [if_neg (nI_nlt h hb)]
theorem q_min2 {a b : Nat} (h : b ≤ a) (ha : a < 2 ^ 31) : jmin (nI a) (nI b) = nI b := by
  unfold jmin
  by_cases e : b = a
  · rw [e, ite_self]
  · rw [if_pos (nI_lt (by omega) ha)]
theorem q_min {a b : Nat} (ha : a < 2 ^ 31) (hb : b < 2 ^ 31) : jmin (nI a) (nI b) = nI (min a b) := by
  by_cases h : a ≤ b
  · rw [q_min1 h hb, Nat.min_eq_left h]
  · rw [q_min2 (by omega) ha, Nat.min_eq_right (by omega)]
theorem q_max1 {a b : Nat} (h : b ≤ a) (ha : a < 2 ^ 31) : jmax (nI a) (nI b) = nI a := by
  unfold jmax; rw [if_neg (nI_nlt h ha)]
theorem q_max2 {a b : Nat} (h : a ≤ b) (hb : b < 2 ^ 31) : jmax (nI a) (nI b) = nI b := by
  unfold jmax
  by_cases e : a = b
  · rw [e, ite_self]
  · rw [if_pos (nI_lt (by omega) hb)]
theorem q_max {a b : Nat} (ha : a < 2 ^ 31) (hb : b < 2 ^ 31) : jmax (nI a) (nI b) = nI (max a b) := by
  by_cases h : a ≤ b
  · rw [q_max2 h hb, Nat.max_eq_right h]
  · rw [q_max1 (by omega) ha, Nat.max_eq_left (by omega)]
theorem q_or0 (x : Int32) : x ||| nI 0 = x := Int32.or_zero
theorem q_0or (x : Int32) : nI 0 ||| x = x := Int32.zero_or
theorem q_z0 : (isZ (nI 0) = true) = True := eq_true rfl
theorem q_z1 : (isZ (nI 1) = true) = True := eq_true rfl
/-- an answer that may be none -/
def oI : Option Nat → Int32
  | none => m1
  | some k => nI k
theorem q_shamt : ∀ i, i < 31 → ((nI i &&& 31).toBitVec.smod 32).toNat = i := by decide +kernel
theorem q_shr {s i : Nat} (hs : s < 2 ^ 31) (hi : i < 31) : jshr (nI s) (nI i) = nI (s / 2 ^ i) := by
  unfold jshr; exact pk_shrN hs _ i (q_shamt i hi)
theorem q_and1 (s : Nat) : nI s &&& nI 1 = nI (s % 2) := fa_mask s 1
theorem q_bitT {s i : Nat} (h : s.testBit i = true) (hs : s < 2 ^ 31) (hi : i < 31) : (jshr (nI s) (nI i) &&& nI 1 = nI 1) = True := by
  rw [Nat.testBit_eq_decide_div_mod_eq, decide_eq_true_eq] at h
  rw [q_shr hs hi, q_and1, h]; exact eq_true rfl
theorem q_bitF {s i : Nat} (h : s.testBit i = false) (hs : s < 2 ^ 31) (hi : i < 31) : (jshr (nI s) (nI i) &&& nI 1 = nI 1) = False := by
  rw [Nat.testBit_eq_decide_div_mod_eq, decide_eq_false_iff_not] at h
  rw [q_shr hs hi, q_and1, show s / 2 ^ i % 2 = 0 by omega]; exact eq_false (by decide)
theorem q_bit0T {s i : Nat} (h : s.testBit i = false) (hs : s < 2 ^ 31) (hi : i < 31) : (jshr (nI s) (nI i) &&& nI 1 = nI 0) = True := by
  rw [Nat.testBit_eq_decide_div_mod_eq, decide_eq_false_iff_not] at h
  rw [q_shr hs hi, q_and1, show s / 2 ^ i % 2 = 0 by omega]; exact eq_true rfl
theorem q_bit0F {s i : Nat} (h : s.testBit i = true) (hs : s < 2 ^ 31) (hi : i < 31) : (jshr (nI s) (nI i) &&& nI 1 = nI 0) = False := by
  rw [Nat.testBit_eq_decide_div_mod_eq, decide_eq_true_eq] at h
  rw [q_shr hs hi, q_and1, h]; exact eq_false (by decide)
theorem q_isInT {s i : Nat} (h : s.testBit i = true) (hs : s < 2 ^ 31) (hi : i < 31) : X12_isIn (nI s) (nI i) = some (nI 1) := by
  unfold X12_isIn; simp (disch := omega) only [l_0, l_1, l_2, l_3, l_4, l_5, l_6, l_7, l_8, l_9, l_10, l_11, l_12, l_13, l_14, l_15, l_16, l_17, l_18, l_19, l_20, l_21, l_22, l_23, l_24, l_25, l_26, l_27, l_30, l_31, l_32, l_40, l_48, l_57, l_59, l_60, l_61, l_62, l_64, l_83, l_90, l_97, l_99, l_100, l_108, l_115, l_122, l_123, l_127, l_128, l_131, l_135, l_200, l_255, l_256, l_300, l_487, l_495, l_900, l_999, l_1000, l_1700, l_1792, l_1980, l_2048, l_2475, l_2970, l_3121, l_9999, l_10000, l_11351, l_65536, l_100000, l_1000000, ↓l_m1, l_neg, nI_add, pk_mul, pk_sub, q_leT, q_leF, q_ltT, q_ltF, q_eqT, q_eqF, q_m1e, q_m1e2, q_m1lt, q_m1le, q_m1nl, q_m1nle, q_m1s, q_ix, q_jat, q_jput, q_min1, q_min2, q_max1, q_max2, q_or0, q_0or, Option.bind_some, if_true, if_false, true_and, and_true, false_and, and_false, not_true_eq_false, not_false_eq_true, eq_self, Bool.false_eq_true, q_z0, q_z1, q_bitT h hs hi]
theorem q_isInF {s i : Nat} (h : s.testBit i = false) (hs : s < 2 ^ 31) (hi : i < 31) : X12_isIn (nI s) (nI i) = some (nI 0) := by
  unfold X12_isIn; simp (disch := omega) only [l_0, l_1, l_2, l_3, l_4, l_5, l_6, l_7, l_8, l_9, l_10, l_11, l_12, l_13, l_14, l_15, l_16, l_17, l_18, l_19, l_20, l_21, l_22, l_23, l_24, l_25, l_26, l_27, l_30, l_31, l_32, l_40, l_48, l_57, l_59, l_60, l_61, l_62, l_64, l_83, l_90, l_97, l_99, l_100, l_108, l_115, l_122, l_123, l_127, l_128, l_131, l_135, l_200, l_255, l_256, l_300, l_487, l_495, l_900, l_999, l_1000, l_1700, l_1792, l_1980, l_2048, l_2475, l_2970, l_3121, l_9999, l_10000, l_11351, l_65536, l_100000, l_1000000, ↓l_m1, l_neg, nI_add, pk_mul, pk_sub, q_leT, q_leF, q_ltT, q_ltF, q_eqT, q_eqF, q_m1e, q_m1e2, q_m1lt, q_m1le, q_m1nl, q_m1nle, q_m1s, q_ix, q_jat, q_jput, q_min1, q_min2, q_max1, q_max2, q_or0, q_0or, Option.bind_some, if_true, if_false, true_and, and_true, false_and, and_false, not_true_eq_false, not_false_eq_true, eq_self, Bool.false_eq_true, q_z0, q_z1, q_bitF h hs hi]
theorem q_shl1 {i : Nat} (hi : i < 31) : jshl (nI 1) (nI i) = nI (2 ^ i) := jshl1 i hi
/-- loops with a state that is known up to a relation -/
theorem it_rel {σ ε : Type} {b : σ → Option (σ ⊕ ε)} (n : Nat) (P : Nat → σ → Prop) (Q : ε → Prop)
    (hs : ∀ i s, i < n → P i s → (∃ s', b s = some (.inl s') ∧ P (i + 1) s') ∨ (∃ e, b s = some (.inr e) ∧ Q e))
    (he : ∀ s, P n s → ∃ e, b s = some (.inr e) ∧ Q e) {s0 : σ} (h0 : P 0 s0) {F : Nat} (hF : n < F) : ∃ e, iter b F s0 = some e ∧ Q e := by
  have key : ∀ k i s, i + k = n → P i s → ∀ F, k < F → ∃ e, iter b F s = some e ∧ Q e := by
    intro k
    induction k with
    | zero =>
      intro i s hi hp F hF
      obtain ⟨G, rfl⟩ : ∃ G, F = G + 1 := ⟨F - 1, by omega⟩
      have : i = n := by omega
      subst this
      obtain ⟨e, h1, h2⟩ := he s hp
      exact ⟨e, by simp only [iter, h1], h2⟩
    | succ k ih =>
      intro i s hi hp F hF
      obtain ⟨G, rfl⟩ : ∃ G, F = G + 1 := ⟨F - 1, by omega⟩
      rcases hs i s (by omega) hp with ⟨s', h1, h2⟩ | ⟨e, h1, h2⟩
      · obtain ⟨e, h3, h4⟩ := ih (i + 1) s' (by omega) h2 G (by omega)
        exact ⟨e, by simp only [iter, h1, h3], h4⟩
      · exact ⟨e, by simp only [iter, h1], h2⟩
  exact key n 0 s0 (by omega) h0 F hF
/-- loops that look for the first -/
theorem it_find {b : Int32 → Option (Int32 ⊕ (Int32 ⊕ Unit))} (p : Nat → Bool) (n : Nat) (hs : ∀ i, i < n → b (nI i) = if p i then some (.inr (.inl (nI i))) else some (.inl (nI (i + 1)))) (he : b (nI n) = some (.inr (.inr ()))) {F : Nat} (hF : n < F) :
    iter b F 0 = some (if fa_first p n < n then .inl (nI (fa_first p n)) else .inr ()) := by
  have := it_rel (b := b) n (fun i s => s = nI i ∧ ∀ k, k < i → p k = false) (fun e => e = if fa_first p n < n then .inl (nI (fa_first p n)) else .inr ()) ?_ ?_ (s0 := 0) ⟨rfl, fun k hk => absurd hk (by omega)⟩ hF
  · obtain ⟨e, h1, h2⟩ := this; rw [h1, h2]
  · rintro i s hi ⟨rfl, hp⟩
    by_cases h : p i = true
    · refine Or.inr ⟨.inl (nI i), by rw [hs i hi, if_pos h], ?_⟩
      have hf : fa_first p n = i := by
        have h1 := fa_first_le p n
        have h3 : fa_first p n ≤ i := by
          refine Nat.not_lt.mp fun z => ?_
          have := fa_first_no p n i z
          rw [this] at h; cases h
        refine Nat.le_antisymm h3 (Nat.not_lt.mp fun z => ?_)
        have := fa_first_yes p n (by omega)
        rw [hp _ z] at this; cases this
      rw [hf, if_pos hi]
    · refine Or.inl ⟨nI (i + 1), by rw [hs i hi, if_neg h], rfl, fun k hk => ?_⟩
      by_cases e : k = i
      · rw [e]; exact ts_nt h
      · exact hp k (by omega)
  · rintro s ⟨rfl, hp⟩
    refine ⟨.inr (), he, ?_⟩
    rw [if_neg fun z => ?_]
    have := fa_first_yes p n z
    rw [hp _ z] at this; cases this
/-! how many bits -/
def popc (n : Nat) : Nat := fb_ct n.testBit 15
theorem popc_bits : ∀ a, a < 64 → ∀ b, b < 64 → iter (X12_bits_b4 0) 20 (0, nI (64 * a + b)) = some (nI (popc (64 * a + b))) := by decide +kernel
theorem q_bits {n F : Nat} (h : n < 4096) (hF : 20 ≤ F) : X12_bits F (nI n) = some (nI (popc n)) := by
  have := popc_bits (n / 64) (by omega) (n % 64) (by omega)
  rw [show 64 * (n / 64) + n % 64 = n by omega] at this
  unfold X12_bits
  rw [iter_mono 20 _ _ (show iter (X12_bits_b4 F) 20 (0, nI n) = some (nI (popc n)) from this) F hF]; rfl
def jsA (n : Nat) : Nat := n - (n / 2 &&& 1431655765)
def jsB (n : Nat) : Nat := (n &&& 858993459) + (n / 4 &&& 858993459)
def jsC (n : Nat) : Nat := (n + n / 16) &&& 252645135
def jsD (n : Nat) : Nat := n + n / 256
def jsE (n : Nat) : Nat := (n + n / 65536) &&& 63
def pcs (n : Nat) : Nat := n % 2 + n / 2 % 2 + n / 4 % 2 + n / 8 % 2 + n / 16 % 2 + n / 32 % 2 + n / 64 % 2 + n / 128 % 2 + n / 256 % 2 + n / 512 % 2 + n / 1024 % 2 + n / 2048 % 2 + n / 4096 % 2 + n / 8192 % 2 + n / 16384 % 2
theorem pcs_e (n : Nat) : popc n = pcs n := by
  unfold popc pcs
  simp only [fb_ct, Nat.testBit_eq_decide_div_mod_eq, decide_eq_true_eq]
  have h : ∀ m : Nat, (if m % 2 = 1 then 1 else 0) = m % 2 := fun m => by
    by_cases q : m % 2 = 1
    · rw [if_pos q, q]
    · rw [if_neg q]; omega
  simp only [h]
  simp only [Nat.reducePow, Nat.div_one, Nat.zero_add]
theorem js_0 : ∀ a, a < 64 → ∀ b, b < 128 → jsE (jsD (jsC (jsB (jsA (128 * a + b))))) = pcs (128 * a + b) := by decide +kernel
theorem js_1 : ∀ a, a < 64 → ∀ b, b < 128 → jsE (jsD (jsC (jsB (jsA (8192 + (128 * a + b)))))) = pcs (8192 + (128 * a + b)) := by decide +kernel
theorem js_2 : ∀ a, a < 64 → ∀ b, b < 128 → jsE (jsD (jsC (jsB (jsA (16384 + (128 * a + b)))))) = pcs (16384 + (128 * a + b)) := by decide +kernel
theorem js_3 : ∀ a, a < 64 → ∀ b, b < 128 → jsE (jsD (jsC (jsB (jsA (24576 + (128 * a + b)))))) = pcs (24576 + (128 * a + b)) := by decide +kernel
theorem js_all {n : Nat} (h : n < 32768) : jsE (jsD (jsC (jsB (jsA n)))) = popc n := by
  rw [pcs_e]
  rcases (show n < 8192 ∨ (8192 ≤ n ∧ n < 16384) ∨ (16384 ≤ n ∧ n < 24576) ∨ 24576 ≤ n by omega) with q | q | q | q
  · have := js_0 (n / 128) (by omega) (n % 128) (by omega)
    rwa [show 128 * (n / 128) + n % 128 = n by omega] at this
  · have := js_1 ((n - 8192) / 128) (by omega) ((n - 8192) % 128) (by omega)
    rwa [show 8192 + (128 * ((n - 8192) / 128) + (n - 8192) % 128) = n by omega] at this
  · have := js_2 ((n - 16384) / 128) (by omega) ((n - 16384) % 128) (by omega)
    rwa [show 16384 + (128 * ((n - 16384) / 128) + (n - 16384) % 128) = n by omega] at this
  · have := js_3 ((n - 24576) / 128) (by omega) ((n - 24576) % 128) (by omega)
    rwa [show 24576 + (128 * ((n - 24576) / 128) + (n - 24576) % 128) = n by omega] at this
theorem q_ushr {n k : Nat} (hn : n < 2 ^ 31) (hk : k < 31) : jushr (nI n) (nI k) = nI (n / 2 ^ k) := by
  unfold jushr
  exact pk_ushrN (by omega) _ k (by
    have : ∀ k, k < 31 → (((nI k).toUInt32 &&& Int32.toUInt32 31).toBitVec % 32).toNat = k := by decide +kernel
    exact this k hk)
theorem q_popc {n : Nat} (h : n < 32768) : J6_bitCount_0f7a4 (nI n) = some (nI (popc n)) := by
  rw [← js_all h]
  unfold J6_bitCount_0f7a4
  have a0 : n / 2 ^ 1 &&& 1431655765 ≤ n / 2 ^ 1 := Nat.and_le_left
  have a1 : jushr (nI n) 1 &&& 1431655765 = nI (n / 2 ^ 1 &&& 1431655765) := by
    rw [show (1 : Int32) = nI 1 from rfl, q_ushr (by omega) (by omega), show (1431655765 : Int32) = nI 1431655765 from rfl, fa_and]
  have a2 : nI n - nI (n / 2 ^ 1 &&& 1431655765) = nI (jsA n) := by rw [pk_sub (by omega)]; rfl
  have b0 : jsA n < 65536 := by unfold jsA; omega
  rw [a1, a2]
  generalize jsA n = x at b0
  have a3 : (nI x &&& 858993459) + (jushr (nI x) 2 &&& 858993459) = nI (jsB x) := by
    rw [show (2 : Int32) = nI 2 from rfl, q_ushr (by omega) (by omega), show (858993459 : Int32) = nI 858993459 from rfl, fa_and, fa_and, nI_add]; rfl
  have b1 : jsB x < 131072 := by
    have i1 : x &&& 858993459 ≤ x := Nat.and_le_left
    have i2 : x / 4 &&& 858993459 ≤ x / 4 := Nat.and_le_left
    unfold jsB; omega
  rw [a3]
  generalize jsB x = y at b1
  have a4 : (nI y + jushr (nI y) 4) &&& 252645135 = nI (jsC y) := by
    rw [show (4 : Int32) = nI 4 from rfl, q_ushr (by omega) (by omega), show (252645135 : Int32) = nI 252645135 from rfl, nI_add, fa_and]; rfl
  have b2 : jsC y < 262144 := by
    have i1 : (y + y / 16) &&& 252645135 ≤ y + y / 16 := Nat.and_le_left
    unfold jsC; omega
  rw [a4]
  generalize jsC y = z at b2
  have a5 : nI z + jushr (nI z) 8 = nI (jsD z) := by
    rw [show (8 : Int32) = nI 8 from rfl, q_ushr (by omega) (by omega), nI_add]; rfl
  have b3 : jsD z < 524288 := by unfold jsD; omega
  rw [a5]
  generalize jsD z = u at b3
  rw [show (16 : Int32) = nI 16 from rfl, q_ushr (by omega) (by omega), show (63 : Int32) = nI 63 from rfl, nI_add, fa_and]; rfl
theorem popc_setOf (p : Nat → Bool) {n : Nat} (hn : n ≤ 15) : popc (setOf p n) = fb_ct p n := by
  unfold popc
  have h1 : fb_ct (setOf p n).testBit 15 = fb_ct (fun k => decide (k < n) && p k) 15 := fb_ct_cong (fun k _ => setOf_bit p n k)
  rw [h1]
  have key : ∀ m, n ≤ m → fb_ct (fun k => decide (k < n) && p k) m = fb_ct p n := by
    intro m
    induction m with
    | zero => intro h; rw [show n = 0 by omega]; rfl
    | succ m ih =>
      intro h
      by_cases e : n = m + 1
      · rw [e]; exact fb_ct_cong (fun k hk => by rw [decide_eq_true hk, Bool.true_and])
      · rw [fb_ct_succ, ih (by omega), decide_eq_false (show ¬ m < n by omega)]; rfl
  exact key 15 hn
theorem popc_le (n : Nat) : popc n ≤ 15 := fb_ct_le _ _
