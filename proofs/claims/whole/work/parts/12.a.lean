/-! ===== sets as numbers ===== -/
def setOf (p : Nat → Bool) : Nat → Nat
  | 0 => 0
  | n + 1 => setOf p n + (if p n then 2 ^ n else 0)
theorem setOf_lt (p : Nat → Bool) : ∀ n, setOf p n < 2 ^ n
  | 0 => Nat.one_pos
  | n + 1 => by
    have := setOf_lt p n
    rw [setOf, Nat.pow_succ]
    by_cases h : p n = true
    · rw [if_pos h]; omega
    · rw [if_neg h]; omega
theorem setOf_cong {p q : Nat → Bool} : ∀ {n : Nat}, (∀ k, k < n → p k = q k) → setOf p n = setOf q n
  | 0, _ => rfl
  | n + 1, h => by rw [setOf, setOf, setOf_cong (fun k hk => h k (by omega)), h n (by omega)]
theorem setOf_bit (p : Nat → Bool) : ∀ n i, (setOf p n).testBit i = (decide (i < n) && p i)
  | 0, i => by rw [setOf, Nat.zero_testBit]; rfl
  | n + 1, i => by
    have hl := setOf_lt p n
    have ih := setOf_bit p n
    by_cases h : p n = true
    · rw [setOf, if_pos h, show setOf p n + 2 ^ n = 2 ^ n * 1 + setOf p n by omega, Nat.two_pow_add_eq_or_of_lt hl, Nat.mul_one, Nat.testBit_or, Nat.testBit_two_pow, ih]
      by_cases q : i = n
      · subst q; simp [h]
      · by_cases q2 : i < n
        · simp [q2, show i < n + 1 by omega, show ¬ n = i from fun e => q e.symm]
        · simp [q2, show ¬ i < n + 1 by omega, show ¬ n = i from fun e => q e.symm]
    · rw [setOf, if_neg h, Nat.add_zero, ih]
      by_cases q : i = n
      · subst q; simp [ts_nt h]
      · by_cases q2 : i < n
        · simp [q2, show i < n + 1 by omega]
        · simp [q2, show ¬ i < n + 1 by omega]
theorem jshl1 : ∀ n, n < 31 → jshl 1 (nI n) = nI (2 ^ n) := by decide +kernel
theorem set_step (p : Nat → Bool) {i : Nat} (hi : i < 31) : (if p i then nI (setOf p i) ||| jshl 1 (nI i) else nI (setOf p i)) = nI (setOf p (i + 1)) := by
  rw [setOf]
  by_cases h : p i = true
  · rw [if_pos h, if_pos h, jshl1 i hi, fa_or, Nat.or_comm]
    have := Nat.two_pow_add_eq_or_of_lt (setOf_lt p i) 1
    rw [Nat.mul_one] at this
    rw [← this, Nat.add_comm]
  · rw [if_neg h, if_neg h]; rfl
theorem loop_set {b : Int32 × Int32 → Option ((Int32 × Int32) ⊕ Int32)} {n : Nat} (p : Nat → Bool) (hn : n ≤ 30) (hs : ∀ i x, i < n → b (x, nI i) = some (.inl (if p i then x ||| jshl 1 (nI i) else x, nI (i + 1)))) (he : ∀ x, b (x, nI n) = some (.inr x)) {F : Nat} (hF : n < F) : iter b F (0, 0) = some (nI (setOf p n)) := by
  refine iter_count (fun i => (nI (setOf p i), nI i)) n (fun i hi => ?_) (he _) F hF
  rw [hs i _ hi, set_step p (by omega)]
/-- a sum of ints that may wrap -/
def sumI (f : Nat → Int32) : Nat → Int32
  | 0 => 0
  | n + 1 => sumI f n + f n
theorem sumI_cong {f g : Nat → Int32} : ∀ {n : Nat}, (∀ k, k < n → f k = g k) → sumI f n = sumI g n
  | 0, _ => rfl
  | n + 1, h => by rw [sumI, sumI, sumI_cong (fun k hk => h k (by omega)), h n (by omega)]
theorem loop_sum {b : Int32 × Int32 → Option ((Int32 × Int32) ⊕ Int32)} {n : Nat} (f : Nat → Int32) (hs : ∀ i x, i < n → b (x, nI i) = some (.inl (x + f i, nI (i + 1)))) (he : ∀ x, b (x, nI n) = some (.inr x)) {F : Nat} (hF : n < F) : iter b F (0, 0) = some (sumI f n) := by
  refine iter_count (fun i => (sumI f i, nI i)) n (fun i hi => ?_) (he _) F hF
  rw [hs i _ hi]; rfl
/-! ===== a table: many rows of width w in an array of n ===== -/
theorem withValue_e {F n w m c : Nat} {f : Nat → Int32} {W C v : Int32} (hW : W = nI w) (hC : C = nI c) (hc : c < w) (hm : m * w ≤ n) (hn : n < 2 ^ 31) (hm30 : m ≤ 30) (hF : m < F) : X7_withValue F n W (nI m) f C v = some (nI (setOf (fun r => decide (f (r * w + c) = v)) m)) := by
  unfold X7_withValue
  rw [loop_set (n := m) (fun r => decide (f (r * w + c) = v)) hm30 ?_ ?_ hF]; rfl
  · intro i x hi
    unfold X7_withValue_b5
    rw [if_neg (show ¬ nI m ≤ nI i from nI_ge hi (by omega))]
    simp only [tget hW hC hi hc hm hn, Option.bind_some, decide_eq_true_eq]
    unfold X7_withValue_j32
    by_cases q : f (i * w + c) = v
    · rw [if_pos q, if_pos q, nI_1]
    · rw [if_neg q, if_neg q, nI_1]
  · intro x
    unfold X7_withValue_b5
    rw [if_pos (show nI m ≤ nI m from Int32.le_refl _)]
theorem tsum_e {F n w m c : Nat} {f : Nat → Int32} {W C : Int32} (hW : W = nI w) (hC : C = nI c) (hc : c < w) (hm : m * w ≤ n) (hn : n < 2 ^ 31) (hm30 : m ≤ 30) (hF : m < F) : X7_sum F n W (nI m) f C = some (sumI (fun r => f (r * w + c)) m) := by
  unfold X7_sum
  rw [loop_sum (n := m) (fun r => f (r * w + c)) ?_ ?_ hF]; rfl
  · intro i x hi
    unfold X7_sum_b4
    rw [if_neg (show ¬ nI m ≤ nI i from nI_ge hi (by omega))]
    simp only [tget hW hC hi hc hm hn, Option.bind_some, nI_1]
  · intro x
    unfold X7_sum_b4
    rw [if_pos (show nI m ≤ nI m from Int32.le_refl _)]
