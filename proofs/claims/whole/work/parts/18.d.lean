/-! ===== PURE 18.d: marriages and chains ===== -/
def anyB (p : Nat → Bool) : Nat → Bool
  | 0 => false
  | n + 1 => anyB p n || p n
theorem anyB_t {p : Nat → Bool} : ∀ {n : Nat}, anyB p n = true ↔ ∃ k, k < n ∧ p k = true
  | 0 => ⟨fun h => (by cases h), fun ⟨k, hk, _⟩ => by omega⟩
  | n + 1 => by
    rw [anyB, Bool.or_eq_true, anyB_t]
    constructor
    · rintro (⟨k, h1, h2⟩ | h)
      · exact ⟨k, by omega, h2⟩
      · exact ⟨n, by omega, h⟩
    · rintro ⟨k, h1, h2⟩
      by_cases e : k = n
      · subst e; exact Or.inr h2
      · exact Or.inl ⟨k, by omega, h2⟩
theorem anyB_f {p : Nat → Bool} {n : Nat} (h : ∀ k, k < n → p k = false) : anyB p n = false := by
  cases q : anyB p n with
  | false => rfl
  | true =>
    obtain ⟨k, h1, h2⟩ := anyB_t.mp q
    rw [h k h1] at h2; cases h2
/-- the neighbours, of those in R, of a set -/
def nbs (E : Nat → Nat → Bool) (n : Nat) (R S : Nat → Bool) (r : Nat) : Bool := R r && anyB (fun h => S h && E h r) n
theorem nbs_t {E : Nat → Nat → Bool} {n : Nat} {R S : Nat → Bool} {r : Nat} : nbs E n R S r = true ↔ R r = true ∧ ∃ h, h < n ∧ S h = true ∧ E h r = true := by
  unfold nbs
  rw [Bool.and_eq_true, anyB_t]
  constructor
  · rintro ⟨h1, k, h2, h3⟩
    rw [Bool.and_eq_true] at h3
    exact ⟨h1, k, h2, h3⟩
  · rintro ⟨h1, k, h2, h3, h4⟩
    exact ⟨h1, k, h2, by rw [h3, h4]; rfl⟩
theorem ct_less {p q : Nat → Bool} {n k : Nat} (hs : ∀ j, j < n → p j = true → q j = true) (hk : k < n) (h1 : q k = true) (h2 : p k = false) : fb_ct p n < fb_ct q n := by
  have u := fb_ct_upd p true hk
  rw [h2] at u
  have v : fb_ct (fun j => if j = k then true else p j) n ≤ fb_ct q n := by
    refine fb_ct_sub (fun j hj hj2 => ?_)
    by_cases e : j = k
    · rw [e]; exact h1
    · rw [if_neg e] at hj2; exact hs j hj hj2
  simp only [if_true, Bool.false_eq_true, if_false] at u
  omega
theorem hall (n m : Nat) (E : Nat → Nat → Bool) : ∀ (k : Nat) (A R : Nat → Bool), fb_ct A n = k → (∀ S : Nat → Bool, (∀ h, h < n → S h = true → A h = true) → fb_ct S n ≤ fb_ct (nbs E n R S) m) → ∃ f : Nat → Nat, (∀ h, h < n → A h = true → f h < m ∧ R (f h) = true ∧ E h (f h) = true) ∧ ∀ h h', h < n → h' < n → A h = true → A h' = true → f h = f h' → h = h' := by
  intro k
  induction k using Nat.strongRecOn with
  | ind k ih =>
    intro A R hk H
    by_cases h0 : k = 0
    · have z := fb_ct_zero.mp (hk.trans h0)
      exact ⟨fun _ => 0, fun h hh ha => (by rw [z h hh] at ha; cases ha), fun h h' hh _ ha => (by rw [z h hh] at ha; cases ha)⟩
    obtain ⟨a, ha, hA⟩ := fb_ct_pos.mp (show 0 < fb_ct A n by omega)
    by_cases c1 : ∀ S : Nat → Bool, (∀ h, h < n → S h = true → A h = true) → (∃ h, h < n ∧ S h = true) → (∃ h, h < n ∧ A h = true ∧ S h = false) → fb_ct S n + 1 ≤ fb_ct (nbs E n R S) m
    · have h1 := H (fun h => decide (h = a)) (fun h _ hs => by rw [of_decide_eq_true hs]; exact hA)
      have h2 : 0 < fb_ct (fun h => decide (h = a)) n := fb_ct_pos.mpr ⟨a, ha, decide_eq_true rfl⟩
      obtain ⟨r0, hr0, hq⟩ := fb_ct_pos.mp (show 0 < fb_ct (nbs E n R (fun h => decide (h = a))) m by omega)
      obtain ⟨hR0, b, hb, e, hE⟩ := nbs_t.mp hq
      rw [of_decide_eq_true e] at hE
      have uA := fb_ct_upd A false ha
      rw [hA] at uA
      simp only [if_true, Bool.false_eq_true, if_false] at uA
      obtain ⟨f, f1, f2⟩ := ih (fb_ct (fun j => if j = a then false else A j) n) (by omega) (fun j => if j = a then false else A j) (fun r => if r = r0 then false else R r) rfl (fun S hS => by
        by_cases hex : ∃ h, h < n ∧ S h = true
        · have Sa : S a = false := by
            cases q : S a with
            | false => rfl
            | true => have := hS a ha q; rw [if_pos rfl] at this; cases this
          have c := c1 S (fun h hh hs => by
            have := hS h hh hs
            by_cases e : h = a
            · rw [e]; exact hA
            · rw [if_neg e] at this; exact this) hex ⟨a, ha, hA, Sa⟩
          have u := fb_ct_upd (nbs E n R S) false hr0
          have v : fb_ct (fun r => if r = r0 then false else nbs E n R S r) m = fb_ct (nbs E n (fun r => if r = r0 then false else R r) S) m := fb_ct_cong (fun r _ => by
            by_cases e : r = r0
            · simp only [nbs, if_pos e, Bool.false_and]
            · simp only [nbs, if_neg e])
          have w : (if nbs E n R S r0 = true then 1 else 0) ≤ 1 := by split <;> omega
          simp only [Bool.false_eq_true, if_false] at u
          omega
        · have : fb_ct S n = 0 := fb_ct_zero.mpr (fun h hh => by
            cases q : S h with
            | false => rfl
            | true => exact absurd ⟨h, hh, q⟩ hex)
          omega)
      have g1 : ∀ h, h < n → A h = true → h ≠ a → f h < m ∧ R (f h) = true ∧ E h (f h) = true ∧ f h ≠ r0 := fun h hh hAh e => by
        have z := f1 h hh (by rw [if_neg e]; exact hAh)
        have y : f h ≠ r0 := fun w => by
          have := z.2.1
          rw [if_pos w] at this; cases this
        have z2 := z.2.1
        rw [if_neg y] at z2
        exact ⟨z.1, z2, z.2.2, y⟩
      refine ⟨fun h => if h = a then r0 else f h, fun h hh hAh => ?_, fun h h' hh hh' hAh hAh' e => ?_⟩
      · by_cases e : h = a
        · simp only [if_pos e]; rw [e]; exact ⟨hr0, hR0, hE⟩
        · simp only [if_neg e]; have := g1 h hh hAh e; exact ⟨this.1, this.2.1, this.2.2.1⟩
      · by_cases e1 : h = a
        · by_cases e2 : h' = a
          · rw [e1, e2]
          · simp only [if_pos e1, if_neg e2] at e; exact absurd e.symm (g1 h' hh' hAh' e2).2.2.2
        · by_cases e2 : h' = a
          · simp only [if_pos e2, if_neg e1] at e; exact absurd e (g1 h hh hAh e1).2.2.2
          · simp only [if_neg e1, if_neg e2] at e; exact f2 h h' hh hh' (by rw [if_neg e1]; exact hAh) (by rw [if_neg e2]; exact hAh') e
    · have c2 : ∃ S : Nat → Bool, (∀ h, h < n → S h = true → A h = true) ∧ (∃ h, h < n ∧ S h = true) ∧ (∃ h, h < n ∧ A h = true ∧ S h = false) ∧ ¬ fb_ct S n + 1 ≤ fb_ct (nbs E n R S) m :=
        Classical.byContradiction fun z => c1 (fun S s1 s2 s3 => Classical.byContradiction fun y => z ⟨S, s1, s2, s3, y⟩)
      obtain ⟨S0, s1, ⟨p, hp, hpS⟩, ⟨q, hq, hqA, hqS⟩, tight⟩ := c2
      obtain ⟨f, f1, f2⟩ := ih (fb_ct S0 n) (by have := ct_less s1 hq hqA hqS; omega) S0 R rfl (fun S hS => H S (fun h hh hs => s1 h hh (hS h hh hs)))
      have l2 : fb_ct (fun h => A h && !S0 h) n < fb_ct A n := ct_less (fun h _ hs => (by rw [Bool.and_eq_true] at hs; exact hs.1)) hp (s1 p hp hpS) (by rw [hpS]; exact Bool.and_false _)
      obtain ⟨g, g1, g2⟩ := ih (fb_ct (fun h => A h && !S0 h) n) (by omega) (fun h => A h && !S0 h) (fun r => R r && !anyB (fun h => S0 h && E h r) n) rfl (fun S hS => by
        have hS' : ∀ h, h < n → S h = true → A h = true ∧ S0 h = false := fun h hh hs => by
          have := hS h hh hs
          rw [Bool.and_eq_true, Bool.not_eq_true'] at this; exact this
        have u := H (fun h => S0 h || S h) (fun h hh hs => by
          rw [Bool.or_eq_true] at hs
          rcases hs with z | z
          · exact s1 h hh z
          · exact (hS' h hh z).1)
        rw [fb_ct_or (p := S0) (q := S) (fun h hh z => by have := (hS' h hh z.2).2; rw [z.1] at this; cases this)] at u
        have v : fb_ct (nbs E n R (fun h => S0 h || S h)) m = fb_ct (fun r => nbs E n R S0 r || nbs E n (fun r => R r && !anyB (fun h => S0 h && E h r) n) S r) m := fb_ct_cong (fun r _ => by
          have e : anyB (fun h => (S0 h || S h) && E h r) n = (anyB (fun h => S0 h && E h r) n || anyB (fun h => S h && E h r) n) := by
            rw [Bool.eq_iff_iff, Bool.or_eq_true, anyB_t, anyB_t, anyB_t]
            constructor
            · rintro ⟨h, hh, z⟩
              rw [Bool.and_eq_true, Bool.or_eq_true] at z
              rcases z.1 with y | y
              · exact Or.inl ⟨h, hh, by rw [y, z.2]; rfl⟩
              · exact Or.inr ⟨h, hh, by rw [y, z.2]; rfl⟩
            · rintro (⟨h, hh, z⟩ | ⟨h, hh, z⟩)
              · rw [Bool.and_eq_true] at z; exact ⟨h, hh, by rw [z.1, z.2]; rfl⟩
              · rw [Bool.and_eq_true] at z; exact ⟨h, hh, by rw [z.1, z.2, Bool.or_true]; rfl⟩
          simp only [nbs, e]
          cases R r <;> cases anyB (fun h => S0 h && E h r) n <;> cases anyB (fun h => S h && E h r) n <;> rfl)
        rw [v, fb_ct_or (fun r _ z => by
          have z1 := z.1; have z2 := z.2
          simp only [nbs, Bool.and_eq_true] at z1 z2
          have := z2.1.2
          rw [z1.2] at this; cases this)] at u
        omega)
      have gg : ∀ h, h < n → A h = true → S0 h = false → g h < m ∧ R (g h) = true ∧ E h (g h) = true ∧ anyB (fun j => S0 j && E j (g h)) n = false := fun h hh hAh e => by
        have z := g1 h hh (by rw [hAh, e]; rfl)
        have z2 := z.2.1
        rw [Bool.and_eq_true, Bool.not_eq_true'] at z2
        exact ⟨z.1, z2.1, z.2.2, z2.2⟩
      have cross : ∀ h h', h < n → h' < n → A h' = true → S0 h = true → S0 h' = false → f h ≠ g h' := fun h h' hh hh' ha1 z1 z2 e => by
        have y := (gg h' hh' ha1 z2).2.2.2
        rw [anyB_t.mpr ⟨h, hh, by rw [z1, ← e, (f1 h hh z1).2.2]; rfl⟩] at y; cases y
      refine ⟨fun h => if S0 h then f h else g h, fun h hh hAh => ?_, fun h h' hh hh' hAh hAh' e => ?_⟩
      · cases z : S0 h with
        | true => simp only [z, if_true]; exact f1 h hh z
        | false => simp only [z, Bool.false_eq_true, if_false]; have := gg h hh hAh z; exact ⟨this.1, this.2.1, this.2.2.1⟩
      · cases z : S0 h with
        | true =>
          cases z' : S0 h' with
          | true => simp only [z, z', if_true] at e; exact f2 h h' hh hh' z z' e
          | false => simp only [z, z', if_true, Bool.false_eq_true, if_false] at e; exact absurd e (cross h h' hh hh' hAh' z z')
        | false =>
          cases z' : S0 h' with
          | true => simp only [z, z', if_true, Bool.false_eq_true, if_false] at e; exact absurd e.symm (cross h' h hh' hh hAh z' z)
          | false =>
            simp only [z, z', Bool.false_eq_true, if_false] at e
            exact g2 h h' hh hh' (by rw [hAh, z]; rfl) (by rw [hAh', z']; rfl) e
theorem inj_ct {m : Nat} {f : Nat → Nat} : ∀ (n : Nat) (S Q : Nat → Bool), (∀ h, h < n → S h = true → f h < m ∧ Q (f h) = true) → (∀ h h', h < n → h' < n → S h = true → S h' = true → f h = f h' → h = h') → fb_ct S n ≤ fb_ct Q m
  | 0, _, _, _, _ => Nat.zero_le _
  | n + 1, S, Q, h1, h2 => by
    rw [fb_ct_succ]
    cases q : S n with
    | false =>
      have := inj_ct n S Q (fun h hh => h1 h (by omega)) (fun h h' hh hh' => h2 h h' (by omega) (by omega))
      simpa using this
    | true =>
      have z := h1 n (by omega) q
      have u := fb_ct_upd Q false z.1
      rw [z.2] at u
      have := inj_ct n S (fun r => if r = f n then false else Q r) (fun h hh hs => by
        have y := h1 h (by omega) hs
        refine ⟨y.1, ?_⟩
        have : f h ≠ f n := fun e => by have := h2 h n (by omega) (by omega) hs q e; omega
        rw [if_neg this]; exact y.2) (fun h h' hh hh' => h2 h h' (by omega) (by omega))
      simp only [if_true, Bool.false_eq_true, if_false] at u ⊢
      omega
/-! chains: w tells whose each place is, lstW what came last ahead of it -/
def lstW (L w : Nat → Nat) (x : Nat) : Nat → Nat
  | 0 => 8 + x
  | j + 1 => if w j = x then L j else lstW L w x j
theorem lstW_spec (L w : Nat → Nat) (x : Nat) : ∀ j, (lstW L w x j = 8 + x ∧ ∀ k, k < j → w k ≠ x) ∨ ∃ i, i < j ∧ lstW L w x j = L i ∧ w i = x ∧ ∀ k, i < k → k < j → w k ≠ x
  | 0 => Or.inl ⟨rfl, fun k hk => by omega⟩
  | j + 1 => by
    rw [lstW]
    by_cases e : w j = x
    · rw [if_pos e]; exact Or.inr ⟨j, by omega, rfl, e, fun k h1 h2 => by omega⟩
    · rw [if_neg e]
      rcases lstW_spec L w x j with ⟨h1, h2⟩ | ⟨i, h1, h2, h3, h4⟩
      · refine Or.inl ⟨h1, fun k hk => ?_⟩
        by_cases z : k = j
        · rw [z]; exact e
        · exact h2 k (by omega)
      · refine Or.inr ⟨i, by omega, h2, h3, fun k z1 z2 => ?_⟩
        by_cases z : k = j
        · rw [z]; exact e
        · exact h4 k z1 (by omega)
theorem chain_ne {L w : Nat → Nat} {n : Nat} (h8 : ∀ j, j < n → L j < 8) (hi : ∀ i j, i < n → j < n → L i = L j → i = j) {j j' : Nat} (hj : j < j') (hn : j' < n) : lstW L w (w j) j ≠ lstW L w (w j') j' := by
  intro e
  rcases lstW_spec L w (w j) j with ⟨a1, a2⟩ | ⟨i, a1, a2, a3, a4⟩
  · rcases lstW_spec L w (w j') j' with ⟨b1, b2⟩ | ⟨i', b1, b2, b3, b4⟩
    · exact b2 j hj (by omega)
    · have := h8 i' (by omega); omega
  · rcases lstW_spec L w (w j') j' with ⟨b1, b2⟩ | ⟨i', b1, b2, b3, b4⟩
    · have := h8 i (by omega); omega
    · have := hi i i' (by omega) (by omega) (by omega)
      subst this
      exact b4 j a1 hj (by omega)
theorem chain1 {L w : Nat → Nat} {n : Nat} (h8 : ∀ j, j < n → L j < 8) (hi : ∀ i j, i < n → j < n → L i = L j → i = j) (j j' : Nat) (hj : j < n) (hj' : j' < n) (e : lstW L w (w j) j = lstW L w (w j') j') : j = j' := by
  rcases Nat.lt_trichotomy j j' with z | z | z
  · exact absurd e (chain_ne h8 hi z hj')
  · exact z
  · exact absurd e.symm (chain_ne h8 hi z hj)
def setW (w : Nat → Nat) (m v : Nat) : Nat → Nat := fun j => if j = m then v else w j
theorem setW_s (w : Nat → Nat) (m v : Nat) : setW w m v m = v := if_pos rfl
theorem setW_n {w : Nat → Nat} {m v j : Nat} (h : j ≠ m) : setW w m v j = w j := if_neg h
theorem chain_w {L f : Nat → Nat} {n : Nat} (h8 : ∀ j, j < n → L j < 8) (hi : ∀ i j, i < n → j < n → L i = L j → i = j) (hf : ∀ j, j < n → 8 ≤ f j ∨ ∃ i, i < j ∧ L i = f j) : ∀ m, m ≤ n → ∃ w : Nat → Nat, ∀ j, j < m → (8 ≤ f j → w j = f j - 8) ∧ (∀ i, i < j → L i = f j → w j = w i) ∧ ∃ i, i < n ∧ 8 ≤ f i ∧ w j = f i - 8
  | 0, _ => ⟨fun _ => 0, fun j hj => by omega⟩
  | m + 1, hm => by
    obtain ⟨w, hw⟩ := chain_w h8 hi hf m (by omega)
    have old : ∀ v j, j < m → (8 ≤ f j → setW w m v j = f j - 8) ∧ (∀ i, i < j → L i = f j → setW w m v j = setW w m v i) ∧ ∃ i, i < n ∧ 8 ≤ f i ∧ setW w m v j = f i - 8 := fun v j hj => by
      have q := hw j hj
      rw [setW_n (show j ≠ m by omega)]
      exact ⟨q.1, fun i h1 h2 => by rw [setW_n (show i ≠ m by omega)]; exact q.2.1 i h1 h2, q.2.2⟩
    by_cases z : 8 ≤ f m
    · refine ⟨setW w m (f m - 8), fun j hj => ?_⟩
      by_cases e : j = m
      · subst e
        refine ⟨fun _ => setW_s _ _ _, fun i h1 h2 => ?_, j, by omega, z, setW_s _ _ _⟩
        have := h8 i (by omega); omega
      · exact old _ j (by omega)
    · obtain ⟨i, i1, i2⟩ : ∃ i, i < m ∧ L i = f m := by
        rcases hf m (by omega) with y | y
        · exact absurd y z
        · exact y
      refine ⟨setW w m (w i), fun j hj => ?_⟩
      by_cases e : j = m
      · subst e
        refine ⟨fun y => absurd y z, fun i' h1 h2 => ?_, ?_⟩
        · have := hi i i' (by omega) (by omega) (by omega)
          subst this
          rw [setW_s, setW_n (by omega)]
        · rw [setW_s]; exact (hw i i1).2.2
      · exact old _ j (by omega)
theorem chain2 {L f : Nat → Nat} {n : Nat} (h8 : ∀ j, j < n → L j < 8) (hi : ∀ i j, i < n → j < n → L i = L j → i = j) (hf : ∀ j, j < n → 8 ≤ f j ∨ ∃ i, i < j ∧ L i = f j) (fi : ∀ j j', j < n → j' < n → f j = f j' → j = j') : ∃ w : Nat → Nat, (∀ j, j < n → ∃ i, i < n ∧ 8 ≤ f i ∧ w j = f i - 8) ∧ ∀ j, j < n → lstW L w (w j) j = f j := by
  obtain ⟨w, hw⟩ := chain_w h8 hi hf n (Nat.le_refl _)
  refine ⟨w, fun j hj => (hw j hj).2.2, ?_⟩
  have key : ∀ j, j ≤ n → (∀ x, (lstW L w x j ≠ 8 + x → ∃ k, k < j ∧ f k = 8 + x) ∧ ∀ i, i < j → w i = x → L i ≠ lstW L w x j → ∃ k, k < j ∧ f k = L i) ∧ ∀ k, k < j → lstW L w (w k) k = f k := by
    intro j
    induction j with
    | zero => exact fun _ => ⟨fun x => ⟨fun z => absurd rfl z, fun i hi => by omega⟩, fun k hk => by omega⟩
    | succ j ih =>
      intro hj
      obtain ⟨ih1, ih2⟩ := ih (by omega)
      have now : lstW L w (w j) j = f j := by
        refine Classical.byContradiction fun z => ?_
        rcases hf j (by omega) with y | ⟨i, y1, y2⟩
        · have e : f j = 8 + w j := by have := (hw j (by omega)).1 y; omega
          obtain ⟨k, k1, k2⟩ := (ih1 (w j)).1 (fun q => z (by rw [q, e]))
          have := fi k j (by omega) (by omega) (by omega); omega
        · have e := (hw j (by omega)).2.1 i y1 y2
          obtain ⟨k, k1, k2⟩ := (ih1 (w j)).2 i y1 e.symm (fun q => z (by rw [← q, y2]))
          have := fi k j (by omega) (by omega) (by omega); omega
      refine ⟨fun x => ?_, fun k hk => ?_⟩
      · rw [lstW]
        by_cases e : w j = x
        · rw [if_pos e]
          rw [e] at now
          refine ⟨fun _ => ?_, fun i h1 h2 h3 => ?_⟩
          · by_cases q : lstW L w x j = 8 + x
            · exact ⟨j, by omega, by omega⟩
            · obtain ⟨k, k1, k2⟩ := (ih1 x).1 q
              exact ⟨k, by omega, k2⟩
          · have ij : i < j := by
              by_cases q : i = j
              · subst q; exact absurd rfl h3
              · omega
            by_cases q : L i = lstW L w x j
            · exact ⟨j, by omega, by omega⟩
            · obtain ⟨k, k1, k2⟩ := (ih1 x).2 i ij h2 q
              exact ⟨k, by omega, k2⟩
        · rw [if_neg e]
          refine ⟨fun q => ?_, fun i h1 h2 h3 => ?_⟩
          · obtain ⟨k, k1, k2⟩ := (ih1 x).1 q
            exact ⟨k, by omega, k2⟩
          · have ij : i < j := by
              by_cases q : i = j
              · subst q; exact absurd h2 e
              · omega
            obtain ⟨k, k1, k2⟩ := (ih1 x).2 i ij h2 h3
            exact ⟨k, by omega, k2⟩
      · by_cases e : k = j
        · rw [e]; exact now
        · exact ih2 k (by omega)
  exact fun j hj => (key n (Nat.le_refl _)).2 j hj
