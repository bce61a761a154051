/-! ===== PURE 18.g: fewest: both sides agree; the calls ===== -/
theorem allB_t {p : Nat → Bool} : ∀ {n : Nat}, allB p n = true ↔ ∀ k, k < n → p k = true
  | 0 => ⟨fun _ k hk => by omega, fun _ => rfl⟩
  | n + 1 => by
    rw [allB, Bool.and_eq_true, allB_t]
    constructor
    · rintro ⟨h1, h2⟩ k hk
      by_cases e : k = n
      · rw [e]; exact h2
      · exact h1 k (by omega)
    · exact fun h => ⟨fun k hk => h k (by omega), h n (by omega)⟩
def lsN (L : Nat → Nat) (s x : Nat) : Nat → Nat
  | 0 => 8 + x
  | j + 1 => if s.testBit (L j) then L j else lsN L s x j
theorem canA_iff {C : Cy} {L : Nat → Nat} {s x n : Nat} (h8 : ∀ j, j < n → L j < 8) : ∀ d p, p + d = n → (canA C L s d p (ndc C (lsN L s x p)) (ndu C (lsN L s x p)) = true ↔ ∀ j, p ≤ j → j < n → s.testBit (L j) = true → EC C (L j) (lsN L s x j) = true)
  | 0, p, hp => ⟨fun _ j h1 h2 => by omega, fun _ => rfl⟩
  | d + 1, p, hp => by
    have ih := canA_iff (C := C) (s := s) (x := x) h8 d (p + 1) (by omega)
    have l8 := h8 p (by omega)
    rw [canA]
    cases q : s.testBit (L p) with
    | true =>
      have e : lsN L s x (p + 1) = L p := by rw [lsN, q]; rfl
      rw [e, show ndc C (L p) = C 3 (L p) 0 from if_pos l8, show ndu C (L p) = C 3 (L p) 1 + 1 from if_pos l8] at ih
      rw [if_pos rfl, Bool.and_eq_true, ih]
      constructor
      · rintro ⟨h1, h2⟩ j j1 j2 j3
        by_cases e : j = p
        · rw [e]; exact h1
        · exact h2 j (by omega) j2 j3
      · exact fun h => ⟨h p (Nat.le_refl _) (by omega) q, fun j j1 j2 j3 => h j (by omega) j2 j3⟩
    | false =>
      have e : lsN L s x (p + 1) = lsN L s x p := by rw [lsN, q]; rfl
      rw [e] at ih
      rw [if_neg (by decide), ih]
      constructor
      · intro h j j1 j2 j3
        by_cases e : j = p
        · rw [e, q] at j3; cases j3
        · exact h j (by omega) j2 j3
      · exact fun h j j1 j2 j3 => h j (by omega) j2 j3
theorem att_iff {C : Cy} {L : Nat → Nat} {s x n : Nat} (h8 : ∀ j, j < n → L j < 8) : att C L n x s = true ↔ ∀ j, j < n → s.testBit (L j) = true → EC C (L j) (lsN L s x j) = true := by
  have := canA_iff (C := C) (s := s) (x := x) h8 n 0 (by omega)
  rw [show lsN L s x 0 = 8 + x from rfl, show ndc C (8 + x) = C 2 x 0 from by unfold ndc; rw [if_neg (by omega), show 8 + x - 8 = x by omega], show ndu C (8 + x) = C 0 0 8 + C 2 x 1 from by unfold ndu; rw [if_neg (by omega), show 8 + x - 8 = x by omega]] at this
  unfold att
  rw [this]
  exact ⟨fun h j hj => h j (Nat.zero_le _) hj, fun h j _ hj => h j hj⟩
theorem lsN_lstW {L w : Nat → Nat} {s x n : Nat} (h : ∀ j, j < n → (s.testBit (L j) = true ↔ w j = x)) : ∀ j, j ≤ n → lsN L s x j = lstW L w x j
  | 0, _ => rfl
  | j + 1, hj => by
    rw [lsN, lstW, lsN_lstW h j (by omega)]
    by_cases e : w j = x
    · rw [if_pos e, if_pos ((h j (by omega)).mpr e)]
    · rw [if_neg e, if_neg (fun z => e ((h j (by omega)).mp z))]
theorem cov_iff {A : Nat → Nat → Bool} {T : Nat} (hA0 : ∀ x, A x 0 = true) : ∀ k s, s < 256 → (cov A T k s ↔ ∃ w : Nat → Nat, (∀ h, s.testBit h = true → w h < k ∧ T.testBit (w h) = true) ∧ ∀ x, x < k → A x (setOf (fun h => s.testBit h && decide (w h = x)) 8) = true)
  | 0, s, hs => by
    constructor
    · intro h
      have h0 : s = 0 := h
      subst h0
      exact ⟨fun _ => 0, fun h hh => (by rw [Nat.zero_testBit] at hh; cases hh), fun x hx => by omega⟩
    · rintro ⟨w, h1, _⟩
      show s = 0
      refine Nat.eq_of_testBit_eq (fun h => ?_)
      rw [Nat.zero_testBit]
      cases q : s.testBit h with
      | false => rfl
      | true => have := (h1 h q).1; omega
  | k + 1, s, hs => by
    have dl : ∀ p, dif s p < 256 := fun p => Nat.lt_of_le_of_lt Nat.and_le_left hs
    constructor
    · rintro (h | ⟨hT, p, p0, hp, h, hA⟩)
      · obtain ⟨w, h1, h2⟩ := (cov_iff hA0 k s hs).mp h
        refine ⟨w, fun h hh => ⟨by have := (h1 h hh).1; omega, (h1 h hh).2⟩, fun x hx => ?_⟩
        by_cases e : x = k
        · subst e
          have z : setOf (fun h => s.testBit h && decide (w h = x)) 8 = 0 := by
            refine Nat.eq_of_testBit_eq (fun h => ?_)
            rw [Nat.zero_testBit, setOf_bit]
            cases q : s.testBit h with
            | false => rw [Bool.false_and, Bool.and_false]
            | true =>
              have := (h1 h q).1
              rw [decide_eq_false (show ¬ w h = x by omega), Bool.and_false, Bool.and_false]
          rw [z]; exact hA0 x
        · exact h2 x (by omega)
      · obtain ⟨w, h1, h2⟩ := (cov_iff hA0 k (dif s p) (dl p)).mp h
        refine ⟨fun h => if p.testBit h then k else w h, fun h hh => ?_, fun x hx => ?_⟩
        · cases q : p.testBit h with
          | true => simp only [q, if_true]; exact ⟨by omega, hT⟩
          | false =>
            have := h1 h (by rw [dif_bit hs, hh, q]; rfl)
            simp only [q, Bool.false_eq_true, if_false]
            exact ⟨by omega, this.2⟩
        · by_cases e : x = k
          · subst e
            have z : setOf (fun h => s.testBit h && decide ((if p.testBit h then x else w h) = x)) 8 = p := by
              refine Nat.eq_of_testBit_eq (fun h => ?_)
              rw [setOf_bit]
              cases q : p.testBit h with
              | true =>
                have s1 := sub_iff.mp hp h q
                have h8 : h < 8 := by
                  by_cases z : h < 8
                  · exact z
                  · rw [lt_bit (show s < 2 ^ 8 from hs) (by omega)] at s1; cases s1
                rw [s1, if_pos rfl, decide_eq_true h8, decide_eq_true (rfl : x = x)]; rfl
              | false =>
                rw [if_neg (by decide)]
                cases q2 : s.testBit h with
                | false => rw [Bool.false_and, Bool.and_false]
                | true =>
                  have := (h1 h (by rw [dif_bit hs, q2, q]; rfl)).1
                  rw [decide_eq_false (show ¬ w h = x by omega), Bool.and_false, Bool.and_false]
            rw [z]; exact hA
          · have z : setOf (fun h => s.testBit h && decide ((if p.testBit h then k else w h) = x)) 8 = setOf (fun h => (dif s p).testBit h && decide (w h = x)) 8 := setOf_cong (fun h _ => by
              rw [dif_bit hs]
              cases q : p.testBit h with
              | true => rw [if_pos rfl, decide_eq_false (show ¬ k = x by omega), Bool.and_false, Bool.not_true, Bool.and_false, Bool.false_and]
              | false => rw [if_neg (by decide), Bool.not_false, Bool.and_true])
            rw [z]; exact h2 x (by omega)
    · rintro ⟨w, h1, h2⟩
      by_cases z : ∃ h, s.testBit h = true ∧ w h = k
      · obtain ⟨h0, z1, z2⟩ := z
        right
        have pb : ∀ h, (setOf (fun h => s.testBit h && decide (w h = k)) 8).testBit h = (s.testBit h && decide (w h = k)) := fun h => by
          rw [setOf_bit]
          by_cases q : h < 8
          · rw [decide_eq_true q, Bool.true_and]
          · rw [lt_bit (show s < 2 ^ 8 from hs) (by omega), Bool.false_and, Bool.and_false]
        refine ⟨by rw [← z2]; exact (h1 h0 z1).2, setOf (fun h => s.testBit h && decide (w h = k)) 8, ?_, sub_iff.mpr (fun h hh => by rw [pb, Bool.and_eq_true] at hh; exact hh.1), (cov_iff hA0 k _ (dl _)).mpr ⟨w, fun h hh => ?_, fun x hx => ?_⟩, h2 k (by omega)⟩
        · refine Nat.pos_of_ne_zero (fun e => ?_)
          have := pb h0
          rw [e, Nat.zero_testBit, z1, decide_eq_true z2] at this; cases this
        · rw [dif_bit hs, pb, Bool.and_eq_true] at hh
          have a := h1 h hh.1
          refine ⟨?_, a.2⟩
          have : w h ≠ k := fun e => by
            have := hh.2
            rw [hh.1, decide_eq_true e] at this; cases this
          omega
        · have e : setOf (fun h => (dif s (setOf (fun h => s.testBit h && decide (w h = k)) 8)).testBit h && decide (w h = x)) 8 = setOf (fun h => s.testBit h && decide (w h = x)) 8 := setOf_cong (fun h _ => by
            rw [dif_bit hs, pb]
            by_cases y : w h = x
            · rw [decide_eq_false (show ¬ w h = k by omega), Bool.and_false, Bool.not_false, Bool.and_true]
            · rw [decide_eq_false y, Bool.and_false, Bool.and_false])
          rw [e]; exact h2 x (by omega)
      · left
        refine (cov_iff hA0 k s hs).mpr ⟨w, fun h hh => ⟨?_, (h1 h hh).2⟩, fun x hx => h2 x (by omega)⟩
        have := (h1 h hh).1
        have : w h ≠ k := fun e => z ⟨h, hh, e⟩
        omega
theorem lstW_cong {L w v : Nat → Nat} {x : Nat} : ∀ {j : Nat}, (∀ k, k < j → w k = v k) → lstW L w x j = lstW L v x j
  | 0, _ => rfl
  | j + 1, h => by rw [lstW, lstW, lstW_cong (fun k hk => h k (by omega)), h j (by omega)]
def P1 (C : Cy) (L : Nat → Nat) (n T : Nat) : Prop := ∃ w : Nat → Nat, (∀ j, j < n → w j < C 0 0 2 ∧ T.testBit (w j) = true) ∧ ∀ j, j < n → EC C (L j) (lstW L w (w j) j) = true
theorem open256 {C : Cy} (ok : Ok C) : openS C < 256 := Nat.lt_of_lt_of_le (setOf_lt _ _) (pow_nH ok)
theorem cov_P1 {C : Cy} {L : Nat → Nat} {n T : Nat} (ok : Ok C) (hL : LineOK C (C 0 0 3) n L) : cov (attA C L n) T (C 0 0 2) (openS C) ↔ P1 C L n T := by
  have h8 := L8 ok hL
  have hA0 : ∀ x, attA C L n x 0 = true := fun x => by
    unfold attA
    rw [sub_0, Bool.true_and, att_iff h8]
    exact fun j hj hb => by rw [Nat.zero_testBit] at hb; cases hb
  rw [cov_iff hA0 _ _ (open256 ok)]
  constructor
  · rintro ⟨w, h1, h2⟩
    refine ⟨fun j => w (L j), fun j hj => h1 (L j) ((open_bit hL).mpr ⟨j, hj, rfl⟩), fun j hj => ?_⟩
    have ob := (open_bit hL).mpr ⟨j, hj, rfl⟩
    have a := h2 (w (L j)) (h1 (L j) ob).1
    unfold attA at a
    rw [Bool.and_eq_true, att_iff h8] at a
    have sb : ∀ k, k < n → ((setOf (fun h => (openS C).testBit h && decide (w h = w (L j))) 8).testBit (L k) = true ↔ w (L k) = w (L j)) := fun k hk => by
      rw [setBit (h8 k hk), (open_bit hL).mpr ⟨k, hk, rfl⟩, Bool.true_and, decide_eq_true_eq]
    have := a.2 j hj ((sb j hj).mpr rfl)
    rw [lsN_lstW (w := fun k => w (L k)) sb j (by omega)] at this
    exact this
  · rintro ⟨w, h1, h2⟩
    have wp : ∀ j, j < n → w (posOf L n (L j)) = w j := fun j hj => by rw [posOf_L hL hj]
    refine ⟨fun h => w (posOf L n h), fun h hh => ?_, fun x hx => ?_⟩
    · obtain ⟨j, hj, rfl⟩ := (open_bit hL).mp hh
      simp only [wp j hj]; exact h1 j hj
    · unfold attA
      rw [Bool.and_eq_true]
      refine ⟨sub_iff.mpr (fun h hh => by rw [setOf_bit, Bool.and_eq_true, Bool.and_eq_true] at hh; exact hh.2.1), (att_iff h8).mpr (fun j hj hb => ?_)⟩
      have sb : ∀ k, k < n → ((setOf (fun h => (openS C).testBit h && decide (w (posOf L n h) = x)) 8).testBit (L k) = true ↔ w k = x) := fun k hk => by
        rw [setBit (h8 k hk), (open_bit hL).mpr ⟨k, hk, rfl⟩, Bool.true_and, decide_eq_true_eq, wp k hk]
      rw [lsN_lstW (w := w) sb j (by omega)]
      have e := (sb j hj).mp hb
      have := h2 j hj
      rw [e] at this; exact this
theorem fr_bit {T o r : Nat} : (2 ^ 8 * T ||| o).testBit r = ((decide (8 ≤ r) && T.testBit (r - 8)) || o.testBit r) := by
  rw [Nat.testBit_or, Nat.testBit_two_pow_mul]
theorem team_iff {C : Cy} {L : Nat → Nat} {n T : Nat} {f : Nat → Int32} (ok : Ok C) (hL : LineOK C (C 0 0 3) n L) (hR : RI C L n (openS C + 1) f) : allB (fun i => HC f (openS C) (2 ^ 8 * T ||| openS C) (1 + i)) (openS C) = true ↔ cov (attA C L n) T (C 0 0 2) (openS C) := by
  have o0 := ok.1
  have h8 := L8 ok hL
  have o256 := open256 ok
  rw [cov_P1 ok hL, allB_t]
  have ebit : ∀ j r, j < n → (EB C L n (L j) r = true ↔ ((∃ i, i < j ∧ L i = r) ∨ (∃ x, x < C 0 0 2 ∧ r = 8 + x)) ∧ EC C (L j) r = true) := fun j r hj => by
    unfold EB
    rw [posOf_L hL hj]; exact cfB_bit _
  constructor
  · intro H
    obtain ⟨f', f1, f2⟩ := hall 8 15 (EB C L n) _ (openS C).testBit (2 ^ 8 * T ||| openS C).testBit rfl (fun S hS => by
      by_cases z : setOf S 8 = 0
      · have : fb_ct S 8 = 0 := fb_ct_zero.mpr (fun h hh => by
          have := setBit (p := S) hh
          rw [z, Nat.zero_testBit] at this; exact this.symm)
        omega
      · have sb : sub (setOf S 8) (openS C) = true := sub_iff.mpr (fun h hh => by
          rw [setOf_bit, Bool.and_eq_true] at hh
          exact hS h (of_decide_eq_true hh.1) hh.2)
        have sl := sub_le sb
        have hc := H (setOf S 8 - 1) (by omega)
        rw [show 1 + (setOf S 8 - 1) = setOf S 8 by omega] at hc
        unfold HC at hc
        rw [sb, Bool.not_true, Bool.false_or, decide_eq_true_eq, popc_setOf S (by omega)] at hc
        refine Nat.le_trans hc (Nat.le_of_eq ?_)
        refine fb_ct_cong (fun r _ => ?_)
        rw [Nat.testBit_and, (hR _ (by omega) sb).2 r, Bool.and_comm]
        unfold nbs
        congr 1
        rw [Bool.eq_iff_iff, anyB_t, anyB_t]
        constructor
        · rintro ⟨h, hh, y⟩; exact ⟨h, hh, by rw [setBit hh] at y; exact y⟩
        · rintro ⟨h, hh, y⟩; exact ⟨h, hh, by rw [setBit hh]; exact y⟩)
    have ob : ∀ j, j < n → (openS C).testBit (L j) = true := fun j hj => (open_bit hL).mpr ⟨j, hj, rfl⟩
    have g1 : ∀ j, j < n → _ := fun j hj => f1 (L j) (h8 j hj) (ob j hj)
    have ge : ∀ j, j < n → ((∃ i, i < j ∧ L i = f' (L j)) ∨ (∃ x, x < C 0 0 2 ∧ f' (L j) = 8 + x)) ∧ EC C (L j) (f' (L j)) = true := fun j hj => (ebit j _ hj).mp (g1 j hj).2.2
    obtain ⟨w, w1, w2⟩ := chain2 (L := L) (f := fun j => f' (L j)) (n := n) h8 (fun i j hi hj e => L_inj hL hi hj e) (fun j hj => by
      rcases (ge j hj).1 with y | ⟨x, _, y⟩
      · exact Or.inr y
      · exact Or.inl (by omega)) (fun j j' hj hj' e => L_inj hL hj hj' (f2 _ _ (h8 j hj) (h8 j' hj') (ob j hj) (ob j' hj') e))
    refine ⟨w, fun j hj => ?_, fun j hj => by rw [w2 j hj]; exact (ge j hj).2⟩
    obtain ⟨i, i1, i2, i3⟩ := w1 j hj
    rcases (ge i i1).1 with ⟨k, k1, k2⟩ | ⟨x, x1, x2⟩
    · have := h8 k (by omega); omega
    · have fb := (g1 i i1).2.1
      rw [x2, fr_bit, decide_eq_true (show 8 ≤ 8 + x by omega), show 8 + x - 8 = x by omega, lt_bit (show openS C < 2 ^ 8 from o256) (by omega), Bool.or_false, Bool.true_and] at fb
      have : w j = x := by omega
      rw [this]; exact ⟨x1, fb⟩
  · rintro ⟨w, h1, h2⟩ i hi
    unfold HC
    cases sb : sub (1 + i) (openS C) with
    | false => rfl
    | true =>
      have sb' := sub_iff.mp sb
      rw [Bool.not_true, Bool.false_or, decide_eq_true_eq, popc_bnd (n := 8) (by omega) (show 1 + i < 2 ^ 8 by omega)]
      have pos : ∀ h, (1 + i).testBit h = true → ∃ j, j < n ∧ L j = h ∧ posOf L n h = j := fun h hh => by
        obtain ⟨j, hj, e⟩ := (open_bit hL).mp (sb' h hh)
        exact ⟨j, hj, e, by rw [← e]; exact posOf_L hL hj⟩
      refine inj_ct (m := 15) (f := fun h => lstW L w (w (posOf L n h)) (posOf L n h)) 8 _ _ (fun h hh hs => ?_) (fun h h' _ _ hs hs' e => ?_)
      · obtain ⟨j, hj, rfl, e⟩ := pos h hs
        simp only [e]
        have ec := h2 j hj
        have hw := h1 j hj
        have nodes : ((∃ i, i < j ∧ L i = lstW L w (w j) j) ∨ (∃ x, x < C 0 0 2 ∧ lstW L w (w j) j = 8 + x)) ∧ lstW L w (w j) j < 15 ∧ (2 ^ 8 * T ||| openS C).testBit (lstW L w (w j) j) = true := by
          rcases lstW_spec L w (w j) j with ⟨y1, _⟩ | ⟨k, y1, y2, _, _⟩
          · refine ⟨Or.inr ⟨w j, hw.1, y1⟩, by omega, ?_⟩
            rw [y1, fr_bit, decide_eq_true (show 8 ≤ 8 + w j by omega), show 8 + w j - 8 = w j by omega, hw.2]; rfl
          · have := h8 k (by omega)
            refine ⟨Or.inl ⟨k, y1, y2.symm⟩, by omega, ?_⟩
            rw [y2, fr_bit, (open_bit hL).mpr ⟨k, by omega, rfl⟩, Bool.or_true]
        refine ⟨nodes.2.1, ?_⟩
        rw [Nat.testBit_and, (hR (1 + i) (by omega) sb).2, nodes.2.2, Bool.and_true]
        exact anyB_t.mpr ⟨L j, hh, by rw [hs, (ebit j _ hj).mpr ⟨nodes.1, ec⟩]; rfl⟩
      · obtain ⟨j, hj, rfl, e1⟩ := pos h hs
        obtain ⟨j', hj', rfl, e2⟩ := pos h' hs'
        simp only [e1, e2] at e
        rw [chain1 h8 (fun i j hi hj e => L_inj hL hi hj e) j j' hj hj' e]
theorem few_lift {S T : vS} (h : Rel S T) {x : Option (Int32 × Int32 × Int32 × Int32 × (Nat → Int32) × (Nat → Int32))} {y : Option (Int32 × Int32 × (Nat → Int32) × (Nat → Int32) × (Nat → Int32))} (hxy : ∃ r st a b l m f g k, x = some (r, st, a, b, l, m) ∧ y = some (r, st, f, g, k)) :
    ∃ (r : Int32) (S2 T2 : vS), x.map (fun u => (u.1, (sA (sA (sI (sI (sI S 5 u.2.1) 89 u.2.2.1) 90 u.2.2.2.1) 59 u.2.2.2.2.1) 60 u.2.2.2.2.2))) = some (r, S2) ∧ y.map (fun u => (u.1, (sA (sA (sA (sI T 0 u.2.1) 6 u.2.2.1) 7 u.2.2.2.1) 8 u.2.2.2.2))) = some (r, T2) ∧ Rel S2 T2 := by
  obtain ⟨r, st, a, b, l, m, f, g, k, rfl, rfl⟩ := hxy
  refine ⟨r, _, _, rfl, rfl, Rel_ask h ⟨fun k hk => ?_, ⟨rfl, rfl⟩, fun k hk => ?_, fun _ _ => rfl⟩ ⟨fun k hk => ?_, ⟨rfl, rfl⟩, fun k h1 h2 => rfl, fun k hk => ?_, fun _ _ _ => rfl, rfl⟩ ⟨fun k h1 h2 => ?_, fun k hk => ?_, rfl⟩ ⟨fun k hk => rfl, fun _ _ => rfl⟩ rfl⟩
  · simp (disch := omega) only [sI, sA, sB, up_n]
  · simp (disch := omega) only [sI, sA, sB, up_n]
  · simp (disch := omega) only [sI, sA, sB, up_n]
  · simp (disch := omega) only [sI, sA, sB, up_n]
  · simp (disch := omega) only [sI, sA, sB, up_n]
  · simp (disch := omega) only [sI, sA, sB, up_n]
theorem few_both {F : Nat} {S T : vS} {C : Cy} (ok : Ok C) (hM : MS C (T.2.2.1 0)) (cF : CF C (S.2.2.1 2)) (cX : CX C (S.2.2.1 5)) (cH : CH C (S.2.2.1 6)) (hF : 2000 < F) :
    ∃ n f2 v f3 a b c, X4_lineUp F (S.1 89) (S.1 90) (S.2.2.1 59) (nI (C 0 0 8)) (nI (C 0 0 3)) (S.2.2.1 6) = some (nI n, nI (openS C), f2) ∧ X4_smallestTeam F (nI n) (nI (openS C)) f2 (S.2.2.1 60) (nI (C 0 0 8)) (S.2.2.1 2) (nI (C 0 0 2)) (S.2.2.1 5) (nI (C 0 0 3)) (S.2.2.1 6) = some (oI v, f3) ∧ X12_fewestOf F (T.2.2.1 0) (T.2.2.1 6) (T.2.2.1 7) (T.2.2.1 8) = some (oI v, a, b, c) ∧ ∀ k, v = some k → k < 128 := by
  obtain ⟨n, L, f2, l1, hL, hl⟩ := c_lineUp (F := F) (f := S.2.2.1 59) (S.1 89) (S.1 90) ok cH (by omega)
  obtain ⟨f3, t1, t2⟩ := c_team (F := F) (f0 := S.2.2.1 60) ok cF cX cH hL hl hF
  obtain ⟨a, b, c, t3⟩ := m_team (F := F) (f0 := T.2.2.1 6) (f1 := T.2.2.1 7) (f2 := T.2.2.1 8) (P := fun t => allB (fun i => HC f3 (openS C) (2 ^ 8 * t ||| openS C) (1 + i)) (openS C)) ok hM hL (fun t _ => team_iff ok hL t2) hF
  exact ⟨n, f2, _, f3, a, b, c, l1, t1, t3, fun k hk => by have := smT_lt hk; have := pow_nE ok; omega⟩
theorem ok_fewest' {F : Nat} (hF : 2000 < F) : ok_fewest F Rel := fun S T h => by
  obtain ⟨C, ok, h8, wb, ⟨⟨c0, c1, c2, c3, c5, c6, c8, c9, c10⟩, cR, cT, cF, cX, cH, cW⟩, hM, nr, wr⟩ := Rel_city h
  have c0 : S.1 6 = nI (C 0 0 5) := c0; have c1 : S.1 7 = nI (C 0 0 6) := c1; have c2 : S.1 8 = nI (C 0 0 7) := c2; have c3 : S.1 9 = nI (C 0 0 8) := c3; have c5 : S.1 11 = nI (C 0 0 0) := c5; have c6 : S.1 12 = nI (C 0 0 1) := c6; have c8 : S.1 14 = nI (C 0 0 2) := c8; have c9 : S.1 15 = nI (C 0 0 3) := c9; have c10 : S.1 16 = nI (C 0 0 4) := c10; have cT : CT C (S.2.2.1 1) := cT; have cF : CF C (S.2.2.1 2) := cF; have cX : CX C (S.2.2.1 5) := cX; have cH : CH C (S.2.2.1 6) := cH; have cW : CW C (S.2.2.1 7) := cW
  refine few_lift h ?_
  rw [c3, c8, c9]
  obtain ⟨n, f2, v, f3, a, b, c, r1, r2, r3, r4⟩ := few_both (F := F) ok hM cF cX cH hF
  unfold X11_fewest X12_fewest X11_none X11_answer X12_refuse X12_gives
  rw [r1, q_bs, r2, q_bs, r3, q_bs]
  cases v with
  | none => exact ⟨m1, nI 6, nI n, nI (openS C), f2, f3, a, b, c, by simp (disch := omega) only [l_0, l_1, l_2, l_3, l_4, l_5, l_6, l_7, l_8, l_9, l_10, l_11, l_12, l_13, l_14, l_15, l_16, l_17, l_18, l_19, l_20, l_21, l_22, l_23, l_24, l_25, l_26, l_27, l_30, l_31, l_32, l_40, l_48, l_57, l_59, l_60, l_61, l_62, l_64, l_83, l_90, l_97, l_99, l_100, l_108, l_115, l_122, l_123, l_127, l_128, l_131, l_135, l_200, l_255, l_256, l_300, l_487, l_495, l_900, l_999, l_1000, l_1700, l_1792, l_1980, l_2048, l_2475, l_2970, l_3121, l_9999, l_10000, l_11351, l_65536, l_100000, l_1000000, ↓l_m1, l_neg, nI_add, pk_mul, pk_sub, q_leT, q_leF, q_ltT, q_ltF, q_eqT, q_eqF, q_m1e, q_m1e2, q_m1lt, q_m1le, q_m1nl, q_m1nle, q_m1s, q_ix, q_jat, q_jput, q_min1, q_min2, q_max1, q_max2, q_or0, q_0or, q_bs, if_true, if_false, true_and, and_true, false_and, and_false, not_true_eq_false, not_false_eq_true, eq_self, Bool.false_eq_true, q_z0, q_z1, oI_n], by simp (disch := omega) only [l_0, l_1, l_2, l_3, l_4, l_5, l_6, l_7, l_8, l_9, l_10, l_11, l_12, l_13, l_14, l_15, l_16, l_17, l_18, l_19, l_20, l_21, l_22, l_23, l_24, l_25, l_26, l_27, l_30, l_31, l_32, l_40, l_48, l_57, l_59, l_60, l_61, l_62, l_64, l_83, l_90, l_97, l_99, l_100, l_108, l_115, l_122, l_123, l_127, l_128, l_131, l_135, l_200, l_255, l_256, l_300, l_487, l_495, l_900, l_999, l_1000, l_1700, l_1792, l_1980, l_2048, l_2475, l_2970, l_3121, l_9999, l_10000, l_11351, l_65536, l_100000, l_1000000, ↓l_m1, l_neg, nI_add, pk_mul, pk_sub, q_leT, q_leF, q_ltT, q_ltF, q_eqT, q_eqF, q_m1e, q_m1e2, q_m1lt, q_m1le, q_m1nl, q_m1nle, q_m1s, q_ix, q_jat, q_jput, q_min1, q_min2, q_max1, q_max2, q_or0, q_0or, q_bs, if_true, if_false, true_and, and_true, false_and, and_false, not_true_eq_false, not_false_eq_true, eq_self, Bool.false_eq_true, q_z0, q_z1, oI_n]⟩
  | some k =>
    have k1 := r4 k rfl
    have q1 := q_popc (n := k) (by omega)
    have q2 := q_bits (F := F) (n := k) (by omega) (by omega)
    exact ⟨nI (popc k), nI 0, nI n, nI (openS C), f2, f3, a, b, c, by simp (disch := omega) only [l_0, l_1, l_2, l_3, l_4, l_5, l_6, l_7, l_8, l_9, l_10, l_11, l_12, l_13, l_14, l_15, l_16, l_17, l_18, l_19, l_20, l_21, l_22, l_23, l_24, l_25, l_26, l_27, l_30, l_31, l_32, l_40, l_48, l_57, l_59, l_60, l_61, l_62, l_64, l_83, l_90, l_97, l_99, l_100, l_108, l_115, l_122, l_123, l_127, l_128, l_131, l_135, l_200, l_255, l_256, l_300, l_487, l_495, l_900, l_999, l_1000, l_1700, l_1792, l_1980, l_2048, l_2475, l_2970, l_3121, l_9999, l_10000, l_11351, l_65536, l_100000, l_1000000, ↓l_m1, l_neg, nI_add, pk_mul, pk_sub, q_leT, q_leF, q_ltT, q_ltF, q_eqT, q_eqF, q_m1e, q_m1e2, q_m1lt, q_m1le, q_m1nl, q_m1nle, q_m1s, q_ix, q_jat, q_jput, q_min1, q_min2, q_max1, q_max2, q_or0, q_0or, q_bs, if_true, if_false, true_and, and_true, false_and, and_false, not_true_eq_false, not_false_eq_true, eq_self, Bool.false_eq_true, q_z0, q_z1, oI_s, q1], by simp (disch := omega) only [l_0, l_1, l_2, l_3, l_4, l_5, l_6, l_7, l_8, l_9, l_10, l_11, l_12, l_13, l_14, l_15, l_16, l_17, l_18, l_19, l_20, l_21, l_22, l_23, l_24, l_25, l_26, l_27, l_30, l_31, l_32, l_40, l_48, l_57, l_59, l_60, l_61, l_62, l_64, l_83, l_90, l_97, l_99, l_100, l_108, l_115, l_122, l_123, l_127, l_128, l_131, l_135, l_200, l_255, l_256, l_300, l_487, l_495, l_900, l_999, l_1000, l_1700, l_1792, l_1980, l_2048, l_2475, l_2970, l_3121, l_9999, l_10000, l_11351, l_65536, l_100000, l_1000000, ↓l_m1, l_neg, nI_add, pk_mul, pk_sub, q_leT, q_leF, q_ltT, q_ltF, q_eqT, q_eqF, q_m1e, q_m1e2, q_m1lt, q_m1le, q_m1nl, q_m1nle, q_m1s, q_ix, q_jat, q_jput, q_min1, q_min2, q_max1, q_max2, q_or0, q_0or, q_bs, if_true, if_false, true_and, and_true, false_and, and_false, not_true_eq_false, not_false_eq_true, eq_self, Bool.false_eq_true, q_z0, q_z1, oI_s, q2]⟩
theorem ok_fewestSet' {F : Nat} (hF : 2000 < F) : ok_fewestSet F Rel := fun S T h => by
  obtain ⟨C, ok, h8, wb, ⟨⟨c0, c1, c2, c3, c5, c6, c8, c9, c10⟩, cR, cT, cF, cX, cH, cW⟩, hM, nr, wr⟩ := Rel_city h
  have c0 : S.1 6 = nI (C 0 0 5) := c0; have c1 : S.1 7 = nI (C 0 0 6) := c1; have c2 : S.1 8 = nI (C 0 0 7) := c2; have c3 : S.1 9 = nI (C 0 0 8) := c3; have c5 : S.1 11 = nI (C 0 0 0) := c5; have c6 : S.1 12 = nI (C 0 0 1) := c6; have c8 : S.1 14 = nI (C 0 0 2) := c8; have c9 : S.1 15 = nI (C 0 0 3) := c9; have c10 : S.1 16 = nI (C 0 0 4) := c10; have cT : CT C (S.2.2.1 1) := cT; have cF : CF C (S.2.2.1 2) := cF; have cX : CX C (S.2.2.1 5) := cX; have cH : CH C (S.2.2.1 6) := cH; have cW : CW C (S.2.2.1 7) := cW
  refine few_lift h ?_
  rw [c3, c8, c9]
  obtain ⟨n, f2, v, f3, a, b, c, r1, r2, r3, r4⟩ := few_both (F := F) ok hM cF cX cH hF
  unfold X11_fewestSet X12_fewestSet X12_orNone X11_none X11_answer X12_refuse X12_gives
  rw [r1, q_bs, r2, q_bs, r3, q_bs]
  cases v with
  | none => exact ⟨m1, nI 6, nI n, nI (openS C), f2, f3, a, b, c, by simp (disch := omega) only [l_0, l_1, l_2, l_3, l_4, l_5, l_6, l_7, l_8, l_9, l_10, l_11, l_12, l_13, l_14, l_15, l_16, l_17, l_18, l_19, l_20, l_21, l_22, l_23, l_24, l_25, l_26, l_27, l_30, l_31, l_32, l_40, l_48, l_57, l_59, l_60, l_61, l_62, l_64, l_83, l_90, l_97, l_99, l_100, l_108, l_115, l_122, l_123, l_127, l_128, l_131, l_135, l_200, l_255, l_256, l_300, l_487, l_495, l_900, l_999, l_1000, l_1700, l_1792, l_1980, l_2048, l_2475, l_2970, l_3121, l_9999, l_10000, l_11351, l_65536, l_100000, l_1000000, ↓l_m1, l_neg, nI_add, pk_mul, pk_sub, q_leT, q_leF, q_ltT, q_ltF, q_eqT, q_eqF, q_m1e, q_m1e2, q_m1lt, q_m1le, q_m1nl, q_m1nle, q_m1s, q_ix, q_jat, q_jput, q_min1, q_min2, q_max1, q_max2, q_or0, q_0or, q_bs, if_true, if_false, true_and, and_true, false_and, and_false, not_true_eq_false, not_false_eq_true, eq_self, Bool.false_eq_true, q_z0, q_z1, oI_n], by simp (disch := omega) only [l_0, l_1, l_2, l_3, l_4, l_5, l_6, l_7, l_8, l_9, l_10, l_11, l_12, l_13, l_14, l_15, l_16, l_17, l_18, l_19, l_20, l_21, l_22, l_23, l_24, l_25, l_26, l_27, l_30, l_31, l_32, l_40, l_48, l_57, l_59, l_60, l_61, l_62, l_64, l_83, l_90, l_97, l_99, l_100, l_108, l_115, l_122, l_123, l_127, l_128, l_131, l_135, l_200, l_255, l_256, l_300, l_487, l_495, l_900, l_999, l_1000, l_1700, l_1792, l_1980, l_2048, l_2475, l_2970, l_3121, l_9999, l_10000, l_11351, l_65536, l_100000, l_1000000, ↓l_m1, l_neg, nI_add, pk_mul, pk_sub, q_leT, q_leF, q_ltT, q_ltF, q_eqT, q_eqF, q_m1e, q_m1e2, q_m1lt, q_m1le, q_m1nl, q_m1nle, q_m1s, q_ix, q_jat, q_jput, q_min1, q_min2, q_max1, q_max2, q_or0, q_0or, q_bs, if_true, if_false, true_and, and_true, false_and, and_false, not_true_eq_false, not_false_eq_true, eq_self, Bool.false_eq_true, q_z0, q_z1, oI_n]⟩
  | some k =>
    have k1 := r4 k rfl
    exact ⟨nI k, nI 0, nI n, nI (openS C), f2, f3, a, b, c, by simp (disch := omega) only [l_0, l_1, l_2, l_3, l_4, l_5, l_6, l_7, l_8, l_9, l_10, l_11, l_12, l_13, l_14, l_15, l_16, l_17, l_18, l_19, l_20, l_21, l_22, l_23, l_24, l_25, l_26, l_27, l_30, l_31, l_32, l_40, l_48, l_57, l_59, l_60, l_61, l_62, l_64, l_83, l_90, l_97, l_99, l_100, l_108, l_115, l_122, l_123, l_127, l_128, l_131, l_135, l_200, l_255, l_256, l_300, l_487, l_495, l_900, l_999, l_1000, l_1700, l_1792, l_1980, l_2048, l_2475, l_2970, l_3121, l_9999, l_10000, l_11351, l_65536, l_100000, l_1000000, ↓l_m1, l_neg, nI_add, pk_mul, pk_sub, q_leT, q_leF, q_ltT, q_ltF, q_eqT, q_eqF, q_m1e, q_m1e2, q_m1lt, q_m1le, q_m1nl, q_m1nle, q_m1s, q_ix, q_jat, q_jput, q_min1, q_min2, q_max1, q_max2, q_or0, q_0or, q_bs, if_true, if_false, true_and, and_true, false_and, and_false, not_true_eq_false, not_false_eq_true, eq_self, Bool.false_eq_true, q_z0, q_z1, oI_s], by simp (disch := omega) only [l_0, l_1, l_2, l_3, l_4, l_5, l_6, l_7, l_8, l_9, l_10, l_11, l_12, l_13, l_14, l_15, l_16, l_17, l_18, l_19, l_20, l_21, l_22, l_23, l_24, l_25, l_26, l_27, l_30, l_31, l_32, l_40, l_48, l_57, l_59, l_60, l_61, l_62, l_64, l_83, l_90, l_97, l_99, l_100, l_108, l_115, l_122, l_123, l_127, l_128, l_131, l_135, l_200, l_255, l_256, l_300, l_487, l_495, l_900, l_999, l_1000, l_1700, l_1792, l_1980, l_2048, l_2475, l_2970, l_3121, l_9999, l_10000, l_11351, l_65536, l_100000, l_1000000, ↓l_m1, l_neg, nI_add, pk_mul, pk_sub, q_leT, q_leF, q_ltT, q_ltF, q_eqT, q_eqF, q_m1e, q_m1e2, q_m1lt, q_m1le, q_m1nl, q_m1nle, q_m1s, q_ix, q_jat, q_jput, q_min1, q_min2, q_max1, q_max2, q_or0, q_0or, q_bs, if_true, if_false, true_and, and_true, false_and, and_false, not_true_eq_false, not_false_eq_true, eq_self, Bool.false_eq_true, q_z0, q_z1, oI_s]⟩
