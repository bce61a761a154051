/-! ===== PURE 14.a: what ties the two objects ===== -/
theorem up_s {α : Type} (f : Nat → α) (k : Nat) (v : α) : va_up f k v k = v := if_pos rfl
theorem up_n {α : Type} (f : Nat → α) {k j : Nat} (v : α) (h : j ≠ k) : va_up f k v j = f j := if_neg h
/-! names: sort 1 corners, 2 extras, 3 happenings, 4 watchers; nm s k the letters by 32, 0 without a name -/
def c8 : Nat → Nat → Nat
  | 0, _ => 0
  | n + 1, v => if v = 0 then 0 else c8 n (v / 32) * 256 + (v % 32 + 96)
def w8 : Nat → Nat → Prop
  | 0, v => v = 0
  | n + 1, v => v = 0 ∨ (1 ≤ v % 32 ∧ v % 32 ≤ 26 ∧ w8 n (v / 32))
def cnt (C : Cy) (s : Nat) : Nat := if s = 1 then C 0 0 0 else C 0 0 s
def nb (s : Nat) : Nat := if s = 1 then 0 else if s = 2 then 8 else if s = 3 then 15 else 23
def NR (C : Cy) (nN : Int32) (co : Nat → Int64) (so nu : Nat → Int32) (mn : Nat → Int64) : Prop :=
  ∃ (n : Nat) (nm : Nat → Nat → Nat), nN = nI n ∧ n ≤ 27 ∧
    (∀ i, i < n → ∃ s k, 1 ≤ s ∧ s ≤ 4 ∧ k < cnt C s ∧ co i = lN (nm s k) ∧ so i = nI s ∧ nu i = nI k ∧ nm s k ≠ 0) ∧
    (∀ s k, 1 ≤ s → s ≤ 4 → k < cnt C s → nm s k ≠ 0 → ∃ i, i < n ∧ co i = lN (nm s k) ∧ so i = nI s ∧ nu i = nI k) ∧
    (∀ s k, 1 ≤ s → s ≤ 4 → k < cnt C s → w8 8 (nm s k) ∧ mn (nb s + k) = lN (c8 8 (nm s k))) ∧
    (∀ s k s' k', 1 ≤ s → s ≤ 4 → k < cnt C s → 1 ≤ s' → s' ≤ 4 → k' < cnt C s' → nm s k ≠ 0 → nm s k = nm s' k' → s = s' ∧ k = k')
/-! weeks: R q c the model's rows -/
def ncl (R : Nat → Nat → Nat) (k : Nat) : Bool := decide (R k 0 ≠ 19)
def cls (R : Nat → Nat → Nat) (q : Nat) : Nat := fb_ct (ncl R) q
def cw (k : Nat) : Nat := if k = 11 then 10 else if k = 14 then 15 else if k = 15 then 16 else if k = 16 then 17 else if k = 18 then 23 else if k = 20 then 25 else 18
def ctst (k : Nat) : Nat := if k = 1721 then 19 else if k = 1722 then 20 else if k = 1723 then 21 else 22
def opn (k : Nat) : Prop := k = 18 ∨ 1700 ≤ k
def RowOk (C : Cy) (R : Nat → Nat → Nat) (q : Nat) : Prop :=
  (R q 0 = 11 ∧ 1 ≤ R q 1 ∧ R q 1 ≤ 48) ∨ (R q 0 = 14 ∧ R q 1 < C 0 0 2 ∧ R q 2 < C 0 0 3) ∨ (R q 0 = 15 ∧ R q 1 < C 0 0 3 ∧ 1 ≤ R q 2 ∧ R q 2 ≤ 99) ∨ R q 0 = 16 ∨ (R q 0 = 18 ∧ 1 ≤ R q 1 ∧ R q 1 ≤ 99) ∨ R q 0 = 19 ∨ R q 0 = 20 ∨ (R q 0 = 1721 ∧ R q 1 < C 0 0 3 ∧ R q 2 ≤ 2) ∨ (R q 0 = 1722 ∧ R q 1 < C 0 0 2 ∧ R q 2 < C 0 0 0) ∨ (R q 0 = 1723 ∧ R q 1 < C 0 0 3) ∨ (R q 0 = 1724 ∧ R q 1 < C 0 0 4 ∧ R q 2 ≤ 9999 ∧ (R q 5 = 60 ∨ R q 5 = 61 ∨ R q 5 = 62))
def ClRow (R : Nat → Nat → Nat) (wf : Nat → Int32) (q : Nat) : Prop :=
  wf (cls R q * 6 + 0) = nI (cw (R q 0)) ∧ (R q 0 ≠ 11 → R q 0 ≠ 18 → wf (cls R q * 6 + 1) = nI (R q 1) ∧ wf (cls R q * 6 + 2) = nI (R q 2)) ∧ ((R q 0 = 11 ∨ R q 0 = 18) → wf (cls R q * 6 + 2) = nI (R q 1)) ∧ (1700 ≤ R q 0 → wf (cls R q * 6 + 3) = nI (ctst (R q 0))) ∧ wf (cls R q * 6 + 4) = nI (R q 5) ∧ (opn (R q 0) → wf (cls R q * 6 + 5) = nI (cls R (R q 4))) ∧ (¬ opn (R q 0) → wf (cls R q * 6 + 5) = nI 0)
def Nest (R : Nat → Nat → Nat) (m : Nat) (dep : Nat → Nat) (enc : Nat → Nat → Nat) : Prop :=
  dep 0 = 0 ∧ ∀ q, q < m → dep q ≤ 3 ∧ (opn (R q 0) → dep q < 3 ∧ dep (q + 1) = dep q + 1 ∧ enc (q + 1) (dep q) = q ∧ ∀ d, d < dep q → enc (q + 1) d = enc q d) ∧ (R q 0 = 19 → 1 ≤ dep q ∧ R q 4 = enc q (dep q - 1) ∧ R (R q 4) 4 = q ∧ dep (q + 1) = dep q - 1 ∧ ∀ d, d < dep q - 1 → enc (q + 1) d = enc q d) ∧ (¬ opn (R q 0) → R q 0 ≠ 19 → dep (q + 1) = dep q ∧ ∀ d, d < dep q → enc (q + 1) d = enc q d)
def WR (C : Cy) (hw nW : Int32) (wf g : Nat → Int32) : Prop :=
  (hw = nI 0 ∧ g 9 = m1) ∨ (hw = nI 1 ∧ ∃ (R : Nat → Nat → Nat) (m : Nat), m ≤ 60 ∧ cls R m ≤ 30 ∧ g 9 = nI m ∧ nW = nI (cls R m) ∧ (∀ q, q < m → RowOk C R q) ∧ (∀ q, q < m → R q 0 ≠ 19 → ClRow R wf q) ∧ (∀ q c, q < m → c < 6 → c ≠ 3 → g (127 + 6 * q + c) = nI (R q c)) ∧ ∃ dep enc, Nest R m dep enc ∧ dep m = 0)
/-! the class's city -/
def CC (C : Cy) (ci : Nat → Int32) (ca : Nat → Nat → Int32) : Prop :=
  (ci 0 = nI (C 0 0 5) ∧ ci 1 = nI (C 0 0 6) ∧ ci 2 = nI (C 0 0 7) ∧ ci 3 = nI (C 0 0 8) ∧ ci 5 = nI (C 0 0 0) ∧ ci 6 = nI (C 0 0 1) ∧ ci 8 = nI (C 0 0 2) ∧ ci 9 = nI (C 0 0 3) ∧ ci 10 = nI (C 0 0 4)) ∧ (∀ r c, r < C 0 0 1 → c < 2 → ca 0 (r * 2 + c) = nI (C 1 r c)) ∧ CT C (ca 1) ∧ CF C (ca 2) ∧ CX C (ca 5) ∧ CH C (ca 6) ∧ CW C (ca 7)
/-- wages are bounded by what happened -/
def WB (C : Cy) : Prop := ∀ x, x < C 0 0 2 → C 2 x 3 ≤ 396 * fb_ct (fate C 1) (C 0 0 3)
def CityOK (C : Cy) (ci : Nat → Int32) (ca : Nat → Nat → Int32) (cl : Nat → Int64) (g : Nat → Int32) (nm : Nat → Int64) : Prop :=
  Ok C ∧ C 0 0 8 ≤ 9999 ∧ WB C ∧ CC C ci ca ∧ MS C g ∧ NR C (ci 7) cl (ca 3) (ca 4) nm ∧ WR C (ci 4) (ci 11) (ca 8) g
theorem MS_cong {C : Cy} {g g' : Nat → Int32} (ok : Ok C) (h : MS C g) (hg : ∀ k, k < 127 → g' k = g k) : MS C g' := by
  obtain ⟨o0, oR, oE, oH, oW⟩ := ok
  obtain ⟨a0, a1, a2, a3, a4, a5, a6⟩ := h
  exact ⟨fun k hk => by rw [hg k (by omega)]; exact a0 k hk, fun r c hr hc => by rw [hg _ (by omega)]; exact a1 r c hr hc, fun x hx h => by rw [hg _ (by omega)]; exact a2 x hx h, fun x hx h => by rw [hg _ (by omega)]; exact a3 x hx h, fun x c hx h1 hc => by rw [hg _ (by omega)]; exact a4 x c hx h1 hc, fun x c hx hc => by rw [hg _ (by omega)]; exact a5 x c hx hc, fun x c hx hc => by rw [hg _ (by omega)]; exact a6 x c hx hc⟩
theorem cnt_le {C : Cy} (ok : Ok C) {s : Nat} (h1 : 1 ≤ s) (h4 : s ≤ 4) : nb s + cnt C s ≤ 27 := by
  obtain ⟨o0, oR, oE, oH, oW⟩ := ok
  rcases (show s = 1 ∨ s = 2 ∨ s = 3 ∨ s = 4 by omega) with rfl | rfl | rfl | rfl
  · show 0 + C 0 0 0 ≤ 27; omega
  · show 8 + C 0 0 2 ≤ 27; omega
  · show 15 + C 0 0 3 ≤ 27; omega
  · show 23 + C 0 0 4 ≤ 27; omega
theorem NR_cong {C : Cy} {nN : Int32} {co : Nat → Int64} {so nu : Nat → Int32} {mn mn' : Nat → Int64} (ok : Ok C) (h : NR C nN co so nu mn) (hm : ∀ k, k < 27 → mn' k = mn k) : NR C nN co so nu mn' := by
  obtain ⟨n, nm, a1, a2, a3, a4, a5, a6⟩ := h
  refine ⟨n, nm, a1, a2, a3, a4, fun s k h1 h4 hk => ?_, a6⟩
  have c := cnt_le ok h1 h4
  rw [hm _ (by omega)]; exact a5 s k h1 h4 hk
theorem WR_cong {C : Cy} {hw nW : Int32} {wf g g' : Nat → Int32} (h : WR C hw nW wf g) (hg : ∀ k, k = 9 ∨ (127 ≤ k ∧ k < 495) → g' k = g k) : WR C hw nW wf g' := by
  rcases h with ⟨a, b⟩ | ⟨a, R, m, b1, b2, b3, b4, b5, b6, b7, b8⟩
  · exact Or.inl ⟨a, by rw [hg 9 (Or.inl rfl)]; exact b⟩
  · exact Or.inr ⟨a, R, m, b1, b2, by rw [hg 9 (Or.inl rfl)]; exact b3, b4, b5, b6, fun q c hq hc h3 => by rw [hg _ (by omega)]; exact b7 q c hq hc h3, b8⟩
theorem CityOK_cong {C : Cy} {ci ci' : Nat → Int32} {ca ca' : Nat → Nat → Int32} {cl cl' : Nat → Int64} {g g' : Nat → Int32} {nm nm' : Nat → Int64} (h : CityOK C ci ca cl g nm) (h1 : ∀ k, k < 12 → ci' k = ci k) (h2 : ∀ k, k < 9 → ca' k = ca k) (h3 : cl' = cl) (h4 : ∀ k, k < 495 → g' k = g k) (h5 : ∀ k, k < 27 → nm' k = nm k) : CityOK C ci' ca' cl' g' nm' := by
  obtain ⟨a1, a2, a3, a4, a5, a6, a7⟩ := h
  subst h3
  refine ⟨a1, a2, a3, ?_, MS_cong a1 a5 (fun k hk => h4 k (by omega)), ?_, ?_⟩
  · unfold CC at a4 ⊢
    rw [h1 0 (by omega), h1 1 (by omega), h1 2 (by omega), h1 3 (by omega), h1 5 (by omega), h1 6 (by omega), h1 8 (by omega), h1 9 (by omega), h1 10 (by omega), h2 0 (by omega), h2 1 (by omega), h2 2 (by omega), h2 5 (by omega), h2 6 (by omega), h2 7 (by omega)]; exact a4
  · rw [h1 7 (by omega), h2 3 (by omega), h2 4 (by omega)]; exact NR_cong a1 a6 h5
  · rw [h1 4 (by omega), h1 11 (by omega), h2 8 (by omega)]; exact WR_cong a7 (fun k hk => h4 k (by omega))
/-! the relation -/
def R_ci (S T : vS) (j i : Nat) : Prop := ∃ C, CityOK C (fun k => S.1 (6 + 12 * j + k)) (fun k => S.2.2.1 (9 * j + k)) (S.2.2.2 j) (fun k => T.2.2.1 0 (495 * i + k)) (fun k => T.2.2.2 0 (27 * i + k))
def R_tp (S T : vS) : Prop := ∃ n, n ≤ 900 ∧ S.1 66 = nI n ∧ T.1 1 = nI n ∧ TpOk n (S.2.2.1 45) (T.2.2.1 3)
def R_ft (S T : vS) : Prop := (S.1 2 = 0 ∧ T.1 7 = -1 ∧ T.1 8 = -1) ∨ (S.1 2 = 1 ∧ S.1 3 = T.1 7 ∧ S.1 4 = T.1 8)
def R_lv (S T : vS) : Prop := (S.1 1 = 0 ∧ T.1 18 = 0) ∨ (S.1 1 = 1 ∧ T.1 18 = 1 ∧ ∀ k, k < 5 → S.2.2.1 65 k = T.2.2.1 13 k)
def R_mk (S T : vS) : Prop := ∃ m, m ≤ 3 ∧ S.1 0 = nI m ∧ T.1 19 = nI m ∧ ∀ i, i < m → R_ci S T (i + 2) (i + 1)
def Rel (S T : vS) : Prop := R_st S T ∧ R_fr S T ∧ R_tr S T ∧ R_tp S T ∧ R_ft S T ∧ R_lv S T ∧ R_mk S T ∧ R_ci S T 0 0
/-- all but the city, the status -/
def RelR (S T : vS) : Prop := R_fr S T ∧ R_tr S T ∧ R_tp S T ∧ R_ft S T ∧ R_lv S T ∧ R_mk S T
theorem Rel_of {S T : vS} (h : RelR S T) (h1 : R_st S T) (h2 : R_ci S T 0 0) : Rel S T := ⟨h1, h.1, h.2.1, h.2.2.1, h.2.2.2.1, h.2.2.2.2.1, h.2.2.2.2.2, h2⟩
theorem Rel_R {S T : vS} (h : Rel S T) : RelR S T := ⟨h.2.1, h.2.2.1, h.2.2.2.1, h.2.2.2.2.1, h.2.2.2.2.2.1, h.2.2.2.2.2.2.1⟩
/-- what is the same but the city and the status -/
def EqS (S S' : vS) : Prop := (∀ k, (k < 5 ∨ (30 ≤ k ∧ k < 67)) → S'.1 k = S.1 k) ∧ (S'.2.1 0 = S.2.1 0 ∧ S'.2.1 1 = S.2.1 1) ∧ (∀ k, ((18 ≤ k ∧ k < 46) ∨ k = 57 ∨ k = 58 ∨ k = 65) → S'.2.2.1 k = S.2.2.1 k) ∧ (∀ k, ((2 ≤ k ∧ k < 5) ∨ k = 6) → S'.2.2.2 k = S.2.2.2 k)
def EqT (T T' : vS) : Prop := (∀ k, (k = 1 ∨ k = 7 ∨ k = 8 ∨ k = 18 ∨ k = 19) → T'.1 k = T.1 k) ∧ (T'.2.1 0 = T.2.1 0 ∧ T'.2.1 1 = T.2.1 1) ∧ (∀ k, 495 ≤ k → k < 1980 → T'.2.2.1 0 k = T.2.2.1 0 k) ∧ (∀ k, (k = 1 ∨ k = 2 ∨ k = 3 ∨ k = 13) → T'.2.2.1 k = T.2.2.1 k) ∧ (∀ k, 27 ≤ k → k < 108 → T'.2.2.2 0 k = T.2.2.2 0 k) ∧ T'.2.2.2 1 = T.2.2.2 1
/-- the city is the same -/
def SamS (S S' : vS) : Prop := (∀ k, 6 ≤ k → k < 18 → S'.1 k = S.1 k) ∧ (∀ k, k < 9 → S'.2.2.1 k = S.2.2.1 k) ∧ S'.2.2.2 0 = S.2.2.2 0
def SamT (T T' : vS) : Prop := (∀ k, k < 495 → T'.2.2.1 0 k = T.2.2.1 0 k) ∧ (∀ k, k < 27 → T'.2.2.2 0 k = T.2.2.2 0 k)
theorem ci_mark {S S' T T' : vS} {i : Nat} (hi : i < 3) (h : R_ci S T (i + 2) (i + 1)) (hs : EqS S S') (ht : EqT T T') : R_ci S' T' (i + 2) (i + 1) := by
  obtain ⟨C, h⟩ := h
  refine ⟨C, CityOK_cong h (fun k hk => hs.1 _ (by omega)) (fun k hk => hs.2.2.1 _ (by omega)) (hs.2.2.2 _ (by omega)) (fun k hk => ht.2.2.1 _ (by omega) (by omega)) (fun k hk => ht.2.2.2.2.1 _ (by omega) (by omega))⟩
theorem RelR_eq {S S' T T' : vS} (h : RelR S T) (hs : EqS S S') (ht : EqT T T') : RelR S' T' := by
  obtain ⟨a1, a2, a3, a4, a5, a6⟩ := h
  have s1 := hs.1; have s3 := hs.2.2.1; have s4 := hs.2.2.2
  have t1 := ht.1; have t4 := ht.2.2.2.1
  refine ⟨?_, ?_, ?_, ?_, ?_, ?_⟩
  · unfold R_fr at a1 ⊢; rw [hs.2.1.1, hs.2.1.2, ht.2.1.1, ht.2.1.2]; exact a1
  · unfold R_tr at a2 ⊢; rw [s4 6 (by omega), s3 57 (by omega), s3 58 (by omega), ht.2.2.2.2.2, t4 1 (by omega), t4 2 (by omega)]; exact a2
  · unfold R_tp at a3 ⊢; rw [s1 66 (by omega), t1 1 (by omega), s3 45 (by omega), t4 3 (by omega)]; exact a3
  · unfold R_ft at a4 ⊢; rw [s1 2 (by omega), s1 3 (by omega), s1 4 (by omega), t1 7 (by omega), t1 8 (by omega)]; exact a4
  · unfold R_lv at a5 ⊢; rw [s1 1 (by omega), t1 18 (by omega), s3 65 (by omega), t4 13 (by omega)]; exact a5
  · obtain ⟨m, b1, b2, b3, b4⟩ := a6
    exact ⟨m, b1, by rw [s1 0 (by omega)]; exact b2, by rw [t1 19 (by omega)]; exact b3, fun i hi => ci_mark (by omega) (b4 i hi) hs ht⟩
theorem R_ci_same {S S' T T' : vS} (h : R_ci S T 0 0) (hs : SamS S S') (ht : SamT T T') : R_ci S' T' 0 0 := by
  obtain ⟨C, h⟩ := h
  exact ⟨C, CityOK_cong h (fun k hk => hs.1 _ (by omega) (by omega)) (fun k hk => hs.2.1 _ (by omega)) hs.2.2 (fun k hk => ht.1 _ (by omega)) (fun k hk => ht.2 _ (by omega))⟩
/-- an answer that changes nothing -/
theorem Rel_ask {S S' T T' : vS} (h : Rel S T) (hs : EqS S S') (ht : EqT T T') (hs2 : SamS S S') (ht2 : SamT T T') (h1 : S'.1 5 = T'.1 0) : Rel S' T' := Rel_of (RelR_eq (Rel_R h) hs ht) h1 (R_ci_same h.2.2.2.2.2.2.2 hs2 ht2)
theorem EqS_5 (S : vS) (v : Int32) : EqS S (sI S 5 v) := ⟨fun k hk => up_n _ _ (by omega), ⟨rfl, rfl⟩, fun _ _ => rfl, fun _ _ => rfl⟩
theorem EqT_0 (T : vS) (v : Int32) : EqT T (sI T 0 v) := ⟨fun k hk => up_n _ _ (by omega), ⟨rfl, rfl⟩, fun _ _ _ => rfl, fun _ _ => rfl, fun _ _ _ => rfl, rfl⟩
theorem SamS_5 (S : vS) (v : Int32) : SamS S (sI S 5 v) := ⟨fun k h1 h2 => up_n _ _ (by omega), fun _ _ => rfl, rfl⟩
theorem SamT_0 (T : vS) (v : Int32) : SamT T (sI T 0 v) := ⟨fun _ _ => rfl, fun _ _ => rfl⟩
theorem Rel_st {S T : vS} (v : Int32) (h : Rel S T) : Rel (sI S 5 v) (sI T 0 v) := Rel_ask h (EqS_5 S v) (EqT_0 T v) (SamS_5 S v) (SamT_0 T v) (by show va_up S.1 5 v 5 = va_up T.1 0 v 0; rw [up_s, up_s])
/-- the city of now, seen from both sides -/
theorem Rel_city {S T : vS} (h : Rel S T) : ∃ C, CityOK C (fun k => S.1 (6 + k)) (fun k => S.2.2.1 k) (S.2.2.2 0) (T.2.2.1 0) (T.2.2.2 0) := by
  obtain ⟨C, q⟩ := h.2.2.2.2.2.2.2
  refine ⟨C, CityOK_cong q (fun k _ => ?_) (fun k _ => ?_) rfl (fun k _ => ?_) (fun k _ => ?_)⟩
  · show S.1 (6 + k) = S.1 (6 + 12 * 0 + k); rfl
  · show S.2.2.1 k = S.2.2.1 (9 * 0 + k); rw [Nat.mul_zero, Nat.zero_add]
  · show T.2.2.1 0 k = T.2.2.1 0 (495 * 0 + k); rw [Nat.mul_zero, Nat.zero_add]
  · show T.2.2.2 0 k = T.2.2.2 0 (27 * 0 + k); rw [Nat.mul_zero, Nat.zero_add]
theorem R_ci_of {S T : vS} {C : Cy} (h : CityOK C (fun k => S.1 (6 + k)) (fun k => S.2.2.1 k) (S.2.2.2 0) (T.2.2.1 0) (T.2.2.2 0)) : R_ci S T 0 0 := by
  refine ⟨C, CityOK_cong h (fun k _ => ?_) (fun k _ => ?_) rfl (fun k _ => ?_) (fun k _ => ?_)⟩
  · show S.1 (6 + 12 * 0 + k) = S.1 (6 + k); rfl
  · show S.2.2.1 (9 * 0 + k) = S.2.2.1 k; rw [Nat.mul_zero, Nat.zero_add]
  · show T.2.2.1 0 (495 * 0 + k) = T.2.2.1 0 k; rw [Nat.mul_zero, Nat.zero_add]
  · show T.2.2.2 0 (27 * 0 + k) = T.2.2.2 0 k; rw [Nat.mul_zero, Nat.zero_add]
