/-! ===== PURE 13.f: cells that change; walking ===== -/
theorem setC_id (C : Cy) (t r c : Nat) : setC C t r c (C t r c) = C := by
  funext t' r' c'; unfold setC
  by_cases h : t' = t ∧ r' = r ∧ c' = c
  · rw [if_pos h, h.1, h.2.1, h.2.2]
  · rw [if_neg h]
theorem CX_upd {C : Cy} {xf : Nat → Int32} {x c v : Nat} (h : CX C xf) (hc : c < 5) : CX (setC C 2 x c v) (upd xf (x * 5 + c) (nI v)) := by
  intro y d hy hd
  rw [setC_t C (show (0 : Nat) ≠ 2 by omega)] at hy
  by_cases q : y = x ∧ d = c
  · obtain ⟨rfl, rfl⟩ := q
    rw [pk_us, setC_s]
  · rw [pk_un (by omega), h y d hy hd]
    unfold setC; rw [if_neg (fun z => q z.2)]
theorem CH_upd {C : Cy} {xf : Nat → Int32} {x c v : Nat} (h : CH C xf) (hc : c < 5) : CH (setC C 3 x c v) (upd xf (x * 5 + c) (nI v)) := by
  intro y d hy hd
  rw [setC_t C (show (0 : Nat) ≠ 3 by omega)] at hy
  by_cases q : y = x ∧ d = c
  · obtain ⟨rfl, rfl⟩ := q
    rw [pk_us, setC_s]
  · rw [pk_un (by omega), h y d hy hd]
    unfold setC; rw [if_neg (fun z => q z.2)]
theorem CW_upd {C : Cy} {xf : Nat → Int32} {x c v : Nat} (h : CW C xf) (hc : c < 3) : CW (setC C 4 x c v) (upd xf (x * 3 + c) (nI v)) := by
  intro y d hy hd
  rw [setC_t C (show (0 : Nat) ≠ 4 by omega)] at hy
  by_cases q : y = x ∧ d = c
  · obtain ⟨rfl, rfl⟩ := q
    rw [pk_us, setC_s]
  · rw [pk_un (by omega), h y d hy hd]
    unfold setC; rw [if_neg (fun z => q z.2)]
theorem CX_o {C : Cy} {xf : Nat → Int32} {t r c v : Nat} (h : CX C xf) (ht : t ≠ 2) (h0 : t = 0 → c ≠ 2) : CX (setC C t r c v) xf := by
  intro y d hy hd
  have e : setC C t r c v 0 0 2 = C 0 0 2 := by
    unfold setC; rw [if_neg (fun z => h0 z.1.symm z.2.2.symm)]
  rw [e] at hy
  rw [setC_t C (fun z => ht z.symm), h y d hy hd]
theorem CH_o {C : Cy} {xf : Nat → Int32} {t r c v : Nat} (h : CH C xf) (ht : t ≠ 3) (h0 : t = 0 → c ≠ 3) : CH (setC C t r c v) xf := by
  intro y d hy hd
  have e : setC C t r c v 0 0 3 = C 0 0 3 := by
    unfold setC; rw [if_neg (fun z => h0 z.1.symm z.2.2.symm)]
  rw [e] at hy
  rw [setC_t C (fun z => ht z.symm), h y d hy hd]
theorem CW_o {C : Cy} {xf : Nat → Int32} {t r c v : Nat} (h : CW C xf) (ht : t ≠ 4) (h0 : t = 0 → c ≠ 4) : CW (setC C t r c v) xf := by
  intro y d hy hd
  have e : setC C t r c v 0 0 4 = C 0 0 4 := by
    unfold setC; rw [if_neg (fun z => h0 z.1.symm z.2.2.symm)]
  rw [e] at hy
  rw [setC_t C (fun z => ht z.symm), h y d hy hd]
theorem tk_cong {C D : Cy} (h0 : D 0 0 1 = C 0 0 1) (h1 : ∀ r c, D 1 r c = C 1 r c) : tk D = tk C := by
  funext a b
  unfold tk
  rw [h0]
  have : ∀ n, rd D a b n = rd C a b n := by
    intro n
    induction n with
    | zero => rfl
    | succ n ih => rw [rd, rd, ih]; unfold rdj; rw [h1, h1, h1]
  exact this _
theorem far_cong {C D : Cy} (h0 : D 0 0 1 = C 0 0 1) (h1 : ∀ r c, D 1 r c = C 1 r c) : far D = far C := by
  have e : dz D = dz C := by funext a b; unfold dz; rw [tk_cong h0 h1]
  unfold far; rw [e]
/-- the streets are the same -/
def SameS (C D : Cy) : Prop := D 0 0 0 = C 0 0 0 ∧ D 0 0 1 = C 0 0 1 ∧ ∀ r c, D 1 r c = C 1 r c
theorem CT_s {C D : Cy} {f : Nat → Int32} (h : CT C f) (s : SameS C D) : CT D f := by
  intro a b ha hb
  rw [h a b ha hb]; unfold tk0; rw [tk_cong s.2.1 s.2.2]
theorem CF_s {C D : Cy} {f : Nat → Int32} (h : CF C f) (s : SameS C D) : CF D f := by
  intro h0 a b ha hb
  rw [h (by rw [← s.1]; exact h0) a b ha hb, far_cong s.2.1 s.2.2]
theorem FB_s {C D : Cy} {f : Nat → Int32} (h : FB C f) (s : SameS C D) : FB D f := by
  intro a b ha hb
  rw [h a b ha hb, far_cong s.2.1 s.2.2]
theorem wayS_s {C D : Cy} (s : SameS C D) (a b : Nat) : wayS D a b = wayS C a b := by
  unfold wayS wayP; rw [s.1, far_cong s.2.1 s.2.2, tk_cong s.2.1 s.2.2]
theorem SameS_set {C : Cy} {t r c v : Nat} (h : 2 ≤ t ∨ (t = 0 ∧ 2 ≤ c)) : SameS C (setC C t r c v) := by
  unfold setC
  refine ⟨if_neg (by omega), if_neg (by omega), fun r c => if_neg (by omega)⟩
theorem SameS_t {C D E : Cy} (h : SameS C D) (h2 : SameS D E) : SameS C E := ⟨h2.1.trans h.1, h2.2.1.trans h.2.1, fun r c => (h2.2.2 r c).trans (h.2.2 r c)⟩
theorem SameS_r (C : Cy) : SameS C C := ⟨rfl, rfl, fun _ _ => rfl⟩
/-- outside of what a city is the model's cells stay -/
def Fr (g g2 : Nat → Int32) : Prop := ∀ k, (k = 9 ∨ 127 ≤ k) → g2 k = g k
theorem Fr_r (g : Nat → Int32) : Fr g g := fun _ _ => rfl
theorem Fr_t {g g2 g3 : Nat → Int32} (h : Fr g g2) (h2 : Fr g2 g3) : Fr g g3 := fun k hk => (h2 k hk).trans (h k hk)
theorem Fr_upd {g : Nat → Int32} {k : Nat} {v : Int32} (h : k ≠ 9) (h2 : k < 127) : Fr g (upd g k v) := fun j hj => pk_un (by omega)
theorem Fr_upd' {g g2 : Nat → Int32} {k : Nat} {v : Int32} (h0 : Fr g g2) (h : k ≠ 9) (h2 : k < 127) : Fr g (upd g2 k v) := Fr_t h0 (Fr_upd h h2)
/-- a column 2, 3, 4 of an extra -/
theorem MS_Ec {C : Cy} {g : Nat → Int32} {x c v : Nat} (ok : Ok C) (hM : MS C g) (hx : x < C 0 0 2) (h1 : 2 ≤ c) (hc : c < 5) : MS (setC C 2 x c v) (upd g (48 + 5 * x + c) (nI v)) := by
  obtain ⟨o0, oR, oE, oH, oW⟩ := ok
  obtain ⟨a0, a1, a2, a3, a4, a5, a6⟩ := hM
  refine ⟨fun k hk => ?_, fun r d hr hd => ?_, fun y hy h => ?_, fun y hy h => ?_, fun y d hy hd hd2 => ?_, fun y d hy hd => ?_, fun y d hy hd => ?_⟩
  · rw [pk_un (by omega), setC_t C (by omega), a0 k hk]
  · rw [setC_t C (by omega)] at hr
    rw [pk_un (by omega), setC_t C (by omega), a1 r d hr hd]
  · rw [setC_t C (by omega)] at hy
    rw [setC_c C (by omega)] at h
    rw [pk_un (by omega), setC_c C (by omega), a2 y hy h]
  · rw [setC_t C (by omega)] at hy
    rw [setC_c C (by omega)] at h
    rw [pk_un (by omega), setC_c C (by omega), a3 y hy h]
  · rw [setC_t C (by omega)] at hy
    by_cases q : y = x ∧ d = c
    · obtain ⟨rfl, rfl⟩ := q
      rw [pk_us, setC_s]
    · rw [pk_un (by omega), a4 y d hy hd hd2]
      unfold setC; rw [if_neg (fun z => q z.2)]
  · rw [setC_t C (by omega)] at hy
    rw [pk_un (by omega), setC_t C (by omega), a5 y d hy hd]
  · rw [setC_t C (by omega)] at hy
    rw [pk_un (by omega), setC_t C (by omega), a6 y d hy hd]
theorem MS_H {C : Cy} {g : Nat → Int32} {x c v : Nat} (ok : Ok C) (hM : MS C g) (hx : x < C 0 0 3) (hc : c < 4) : MS (setC C 3 x c v) (upd g (83 + 4 * x + c) (nI v)) := by
  obtain ⟨o0, oR, oE, oH, oW⟩ := ok
  obtain ⟨a0, a1, a2, a3, a4, a5, a6⟩ := hM
  refine ⟨fun k hk => ?_, fun r d hr hd => ?_, fun y hy h => ?_, fun y hy h => ?_, fun y d hy hd hd2 => ?_, fun y d hy hd => ?_, fun y d hy hd => ?_⟩
  · rw [pk_un (by omega), setC_t C (by omega), a0 k hk]
  · rw [setC_t C (by omega)] at hr
    rw [pk_un (by omega), setC_t C (by omega), a1 r d hr hd]
  · rw [setC_t C (by omega)] at hy h
    rw [pk_un (by omega), setC_t C (by omega), a2 y hy h]
  · rw [setC_t C (by omega)] at hy h
    rw [pk_un (by omega), setC_t C (by omega), a3 y hy h]
  · rw [setC_t C (by omega)] at hy
    rw [pk_un (by omega), setC_t C (by omega), a4 y d hy hd hd2]
  · rw [setC_t C (by omega)] at hy
    by_cases q : y = x ∧ d = c
    · obtain ⟨rfl, rfl⟩ := q
      rw [pk_us, setC_s]
    · rw [pk_un (by omega), a5 y d hy hd]
      unfold setC; rw [if_neg (fun z => q z.2)]
  · rw [setC_t C (by omega)] at hy
    rw [pk_un (by omega), setC_t C (by omega), a6 y d hy hd]
theorem MS_W {C : Cy} {g : Nat → Int32} {x c v : Nat} (ok : Ok C) (hM : MS C g) (hx : x < C 0 0 4) (hc : c < 3) : MS (setC C 4 x c v) (upd g (115 + 3 * x + c) (nI v)) := by
  obtain ⟨o0, oR, oE, oH, oW⟩ := ok
  obtain ⟨a0, a1, a2, a3, a4, a5, a6⟩ := hM
  refine ⟨fun k hk => ?_, fun r d hr hd => ?_, fun y hy h => ?_, fun y hy h => ?_, fun y d hy hd hd2 => ?_, fun y d hy hd => ?_, fun y d hy hd => ?_⟩
  · rw [pk_un (by omega), setC_t C (by omega), a0 k hk]
  · rw [setC_t C (by omega)] at hr
    rw [pk_un (by omega), setC_t C (by omega), a1 r d hr hd]
  · rw [setC_t C (by omega)] at hy h
    rw [pk_un (by omega), setC_t C (by omega), a2 y hy h]
  · rw [setC_t C (by omega)] at hy h
    rw [pk_un (by omega), setC_t C (by omega), a3 y hy h]
  · rw [setC_t C (by omega)] at hy
    rw [pk_un (by omega), setC_t C (by omega), a4 y d hy hd hd2]
  · rw [setC_t C (by omega)] at hy
    rw [pk_un (by omega), setC_t C (by omega), a5 y d hy hd]
  · rw [setC_t C (by omega)] at hy
    by_cases q : y = x ∧ d = c
    · obtain ⟨rfl, rfl⟩ := q
      rw [pk_us, setC_s]
    · rw [pk_un (by omega), a6 y d hy hd]
      unfold setC; rw [if_neg (fun z => q z.2)]
theorem MS_0 {C : Cy} {g : Nat → Int32} {c v : Nat} (ok : Ok C) (hM : MS C g) (hc : 5 ≤ c) (hc2 : c < 9) : MS (setC C 0 0 c v) (upd g c (nI v)) := by
  obtain ⟨o0, oR, oE, oH, oW⟩ := ok
  obtain ⟨a0, a1, a2, a3, a4, a5, a6⟩ := hM
  refine ⟨fun k hk => ?_, fun r d hr hd => ?_, fun y hy h => ?_, fun y hy h => ?_, fun y d hy hd hd2 => ?_, fun y d hy hd => ?_, fun y d hy hd => ?_⟩
  · by_cases q : k = c
    · rw [q, pk_us, setC_s]
    · rw [pk_un q, setC_c C q, a0 k hk]
  · rw [setC_c C (by omega)] at hr
    rw [pk_un (by omega), setC_t C (by omega), a1 r d hr hd]
  · rw [setC_c C (by omega)] at hy
    rw [setC_t C (by omega)] at h
    rw [pk_un (by omega), setC_t C (by omega), a2 y hy h]
  · rw [setC_c C (by omega)] at hy
    rw [setC_t C (by omega)] at h
    rw [pk_un (by omega), setC_t C (by omega), a3 y hy h]
  · rw [setC_c C (by omega)] at hy
    rw [pk_un (by omega), setC_t C (by omega), a4 y d hy hd hd2]
  · rw [setC_c C (by omega)] at hy
    rw [pk_un (by omega), setC_t C (by omega), a5 y d hy hd]
  · rw [setC_c C (by omega)] at hy
    rw [pk_un (by omega), setC_t C (by omega), a6 y d hy hd]
/-- where an extra is -/
def setE (C : Cy) (x l a : Nat) : Cy := setC (setC C 2 x 1 l) 2 x 0 a
theorem setE_t (C : Cy) {x l a t r c : Nat} (h : t ≠ 2) : setE C x l a t r c = C t r c := by unfold setE; rw [setC_t _ h, setC_t _ h]
theorem setE_r (C : Cy) {x l a t r c : Nat} (h : r ≠ x) : setE C x l a t r c = C t r c := by unfold setE; rw [setC_r _ h, setC_r _ h]
theorem setE_c (C : Cy) {x l a t r c : Nat} (h : 2 ≤ c) : setE C x l a t r c = C t r c := by unfold setE; rw [setC_c _ (by omega), setC_c _ (by omega)]
theorem setE_0 (C : Cy) (x l a : Nat) : setE C x l a 2 x 0 = a := setC_s _ _ _ _ _
theorem setE_1 (C : Cy) (x l a : Nat) : setE C x l a 2 x 1 = l := by unfold setE; rw [setC_c _ (by omega), setC_s]
theorem setE_id (C : Cy) (x : Nat) : setE C x (C 2 x 1) (C 2 x 0) = C := by unfold setE; rw [setC_id, setC_id]
theorem MS_E {C : Cy} {g g2 : Nat → Int32} {x l a : Nat} (ok : Ok C) (hM : MS C g) (hx : x < C 0 0 2) (hs : ∀ k, k ≠ 48 + 5 * x → k ≠ 48 + 5 * x + 1 → g2 k = g k) (h1 : g2 (48 + 5 * x + 1) = nI l) (h0 : l = 0 → g2 (48 + 5 * x) = nI a) (h2 : l ≠ 0 → g2 (48 + 5 * x) = nI (10 + a)) : MS (setE C x l a) g2 := by
  obtain ⟨o0, oR, oE, oH, oW⟩ := ok
  obtain ⟨a0, a1, a2, a3, a4, a5, a6⟩ := hM
  refine ⟨fun k hk => ?_, fun r d hr hd => ?_, fun y hy h => ?_, fun y hy h => ?_, fun y d hy hd hd2 => ?_, fun y d hy hd => ?_, fun y d hy hd => ?_⟩
  · rw [hs k (by omega) (by omega), setE_t C (by omega), a0 k hk]
  · rw [setE_t C (by omega)] at hr
    rw [hs _ (by omega) (by omega), setE_t C (by omega), a1 r d hr hd]
  · rw [setE_t C (by omega)] at hy
    by_cases q : y = x
    · subst q
      rw [setE_1] at h
      rw [setE_0]; exact h0 h
    · rw [setE_r C q] at h
      rw [hs _ (by omega) (by omega), setE_r C q, a2 y hy h]
  · rw [setE_t C (by omega)] at hy
    by_cases q : y = x
    · subst q
      rw [setE_1] at h
      rw [setE_0]; exact h2 h
    · rw [setE_r C q] at h
      rw [hs _ (by omega) (by omega), setE_r C q, a3 y hy h]
  · rw [setE_t C (by omega)] at hy
    by_cases q : y = x
    · subst q
      by_cases q2 : d = 1
      · subst q2; rw [setE_1]; exact h1
      · rw [hs _ (by omega) (by omega), setE_c C (by omega), a4 y d hy hd hd2]
    · rw [hs _ (by omega) (by omega), setE_r C q, a4 y d hy hd hd2]
  · rw [setE_t C (by omega)] at hy
    rw [hs _ (by omega) (by omega), setE_t C (by omega), a5 y d hy hd]
  · rw [setE_t C (by omega)] at hy
    rw [hs _ (by omega) (by omega), setE_t C (by omega), a6 y d hy hd]
theorem Ok_E {C : Cy} {x l a : Nat} (ok : Ok C) (hx : x < C 0 0 2) (hl : l ≤ 8) (ha : a < C 0 0 0) : Ok (setE C x l a) := by
  obtain ⟨o0, oR, oE, oH, oW⟩ := ok
  refine ⟨?_, fun r hr => ?_, fun y hy => ?_, fun y hy => ?_, fun y hy => ?_⟩
  · simp only [setE_t C (show (0 : Nat) ≠ 2 by omega)]; exact o0
  · simp only [setE_t C (show (0 : Nat) ≠ 2 by omega), setE_t C (show (1 : Nat) ≠ 2 by omega)] at hr ⊢; exact oR r hr
  · simp only [setE_t C (show (0 : Nat) ≠ 2 by omega)] at hy ⊢
    by_cases q : y = x
    · subst q; rw [setE_0, setE_1, setE_c C (by omega)]; exact ⟨ha, hl, (oE y hy).2.2⟩
    · simp only [setE_r C q]; exact oE y hy
  · simp only [setE_t C (show (0 : Nat) ≠ 2 by omega), setE_t C (show (3 : Nat) ≠ 2 by omega)] at hy ⊢; exact oH y hy
  · simp only [setE_t C (show (0 : Nat) ≠ 2 by omega), setE_t C (show (4 : Nat) ≠ 2 by omega)] at hy ⊢; exact oW y hy
theorem CX_E {C : Cy} {xf : Nat → Int32} {x l a : Nat} (h : CX C xf) : CX (setE C x l a) (upd (upd xf (x * 5 + 1) (nI l)) (x * 5 + 0) (nI a)) := CX_upd (CX_upd h (by omega)) (by omega)
theorem CH_E {C : Cy} {xf : Nat → Int32} {x l a : Nat} (h : CH C xf) : CH (setE C x l a) xf := CH_o (CH_o h (by omega) (by omega)) (by omega) (by omega)
theorem CW_E {C : Cy} {xf : Nat → Int32} {x l a : Nat} (h : CW C xf) : CW (setE C x l a) xf := CW_o (CW_o h (by omega) (by omega)) (by omega) (by omega)
theorem SameS_E {C : Cy} {x l a : Nat} : SameS C (setE C x l a) := SameS_t (SameS_set (by omega)) (SameS_set (by omega))
/-- what an hour does to an extra: left, at -/
def stepE (C : Cy) (x : Nat) : Nat × Nat :=
  if C 2 x 1 ≠ 0 then (C 2 x 1 - 1, C 2 x 0) else
  match goalS C x with
  | none => (0, C 2 x 0)
  | some h => if C 3 h 0 = C 2 x 0 then (0, C 2 x 0) else
    match wayS C (C 2 x 0) (C 3 h 0) with
    | none => (0, C 2 x 0)
    | some c => (tk C (C 2 x 0) c - 1, c)
/-- whether he stirs -/
def stirE (C : Cy) (x : Nat) : Bool :=
  if C 2 x 1 ≠ 0 then true else
  match goalS C x with
  | none => false
  | some h => if C 3 h 0 = C 2 x 0 then false else (wayS C (C 2 x 0) (C 3 h 0)).isSome
def walk1 (C : Cy) (x : Nat) : Cy := setE C x (stepE C x).1 (stepE C x).2
theorem wayS_in {C : Cy} {a b c : Nat} (h : wayS C a b = some c) : c < C 0 0 0 ∧ tk C a c < 1000000 ∧ tk C a c + far C c b = far C a b := by
  unfold wayS at h
  by_cases h1 : far C a b < 1000000
  · rw [if_pos h1] at h
    by_cases h2 : fa_first (wayP C a b) (C 0 0 0) < C 0 0 0
    · rw [if_pos h2] at h
      have := fa_first_yes _ _ h2
      cases h
      exact ⟨h2, of_decide_eq_true this⟩
    · rw [if_neg h2] at h; cases h
  · rw [if_neg h1] at h; cases h
theorem stepE_ok {C : Cy} {x : Nat} (ok : Ok C) (hx : x < C 0 0 2) : (stepE C x).1 ≤ 8 ∧ (stepE C x).2 < C 0 0 0 := by
  have e1 := ok.2.2.1 x hx
  unfold stepE
  by_cases h1 : C 2 x 1 ≠ 0
  · rw [if_pos h1]; exact ⟨by show C 2 x 1 - 1 ≤ 8; omega, e1.1⟩
  rw [if_neg h1]
  cases goalS C x with
  | none => exact ⟨Nat.zero_le _, e1.1⟩
  | some h =>
    dsimp only
    by_cases h2 : C 3 h 0 = C 2 x 0
    · rw [if_pos h2]; exact ⟨Nat.zero_le _, e1.1⟩
    · rw [if_neg h2]
      cases hw : wayS C (C 2 x 0) (C 3 h 0) with
      | none => exact ⟨Nat.zero_le _, e1.1⟩
      | some c =>
        have w := wayS_in hw
        have t := tk_val ok (C 2 x 0) c
        exact ⟨by show tk C (C 2 x 0) c - 1 ≤ 8; omega, w.1⟩
theorem walk1_still {C : Cy} {x : Nat} (h : stirE C x = false) : walk1 C x = C := by
  have e : stepE C x = (C 2 x 1, C 2 x 0) := by
    unfold stirE at h; unfold stepE
    by_cases h1 : C 2 x 1 ≠ 0
    · rw [if_pos h1] at h; cases h
    rw [if_neg h1] at h ⊢
    have z : C 2 x 1 = 0 := Decidable.not_not.mp h1
    cases hg : goalS C x with
    | none => rw [z]
    | some k =>
      rw [hg] at h
      dsimp only at h ⊢
      by_cases h2 : C 3 k 0 = C 2 x 0
      · rw [if_pos h2, z]
      · rw [if_neg h2] at h ⊢
        cases hw : wayS C (C 2 x 0) (C 3 k 0) with
        | none => rw [z]
        | some c => rw [hw] at h; cases h
  unfold walk1; rw [e]; exact setE_id C x
def walkN (C : Cy) : Nat → Cy
  | 0 => C
  | n + 1 => walk1 (walkN C n) n
theorem walkN_t (C : Cy) {t r c : Nat} (h : t ≠ 2) : ∀ n, walkN C n t r c = C t r c
  | 0 => rfl
  | n + 1 => by rw [walkN]; unfold walk1; rw [setE_t _ h, walkN_t C h n]
theorem walkN_same (C : Cy) : ∀ n, SameS C (walkN C n)
  | 0 => SameS_r C
  | n + 1 => SameS_t (walkN_same C n) SameS_E
theorem walkN_ok {C : Cy} (ok : Ok C) : ∀ n, n ≤ C 0 0 2 → Ok (walkN C n)
  | 0, _ => ok
  | n + 1, h => by
    have ih := walkN_ok ok n (by omega)
    have hx : n < walkN C n 0 0 2 := by rw [walkN_t C (by omega)]; omega
    have s := stepE_ok ih hx
    exact Ok_E ih hx s.1 s.2
