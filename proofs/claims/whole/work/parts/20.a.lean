/-! ===== PURE 20.a: letters, words ===== -/
/-- the words in the class's order, in the model's -/
def wdC : List (List Nat) := [[119, 97, 103, 101], [100, 101, 108, 97, 121], [111, 100, 100, 115], [99, 111, 114, 110, 101, 114], [114, 111, 97, 100], [116, 97, 107, 101, 115], [101, 120, 116, 114, 97], [97, 116], [104, 97, 112, 112, 101, 110, 105, 110, 103], [104, 111, 117, 114], [103, 114, 101, 97, 116], [119, 97, 116, 99, 104, 101, 114], [102, 101, 97, 114, 115], [114, 111, 115, 116, 101, 114], [111, 114, 100, 101, 114], [112, 117, 116], [97, 110, 121], [119, 104, 101, 110], [105, 115], [115, 116, 97, 110, 100, 115], [111, 118, 101, 114], [119, 97, 114, 110, 101, 100], [108, 111, 111, 112], [101, 110, 100], [115, 116, 111, 112]]
def wdM : List (List Nat) := [[119, 97, 103, 101], [100, 101, 108, 97, 121], [111, 100, 100, 115], [99, 111, 114, 110, 101, 114], [114, 111, 97, 100], [101, 120, 116, 114, 97], [104, 97, 112, 112, 101, 110, 105, 110, 103], [119, 97, 116, 99, 104, 101, 114], [114, 111, 115, 116, 101, 114], [116, 97, 107, 101, 115], [97, 116], [104, 111, 117, 114], [103, 114, 101, 97, 116], [102, 101, 97, 114, 115], [111, 114, 100, 101, 114], [112, 117, 116], [97, 110, 121], [119, 104, 101, 110], [108, 111, 111, 112], [101, 110, 100], [115, 116, 111, 112], [105, 115], [115, 116, 97, 110, 100, 115], [111, 118, 101, 114], [119, 97, 114, 110, 101, 100]]
def perm : List Nat := [0, 1, 2, 3, 4, 9, 5, 10, 6, 11, 12, 7, 13, 8, 14, 15, 16, 17, 21, 22, 23, 24, 18, 19, 20]
def flat : List (List Nat) → List Nat
  | [] => []
  | w :: ws => w ++ 32 :: flat ws
theorem cw_ch : ∀ i, i < 140 → strCh 0 (nI i) = nI ((flat wdC).getD i 0) := by decide +kernel
theorem kw_ch : ∀ i, i < 140 → strCh 1 (nI (1 + i)) = nI ((flat wdM).getD i 0) := by decide +kernel
theorem cw_ln : (flat wdC).length = 140 := by decide +kernel
theorem kw_ln : (flat wdM).length = 140 := by decide +kernel
theorem cw_ok : ∀ w, w ∈ wdC → ∀ c, c ∈ w → c ≠ 32 ∧ c < 256 := by decide +kernel
theorem kw_ok : ∀ w, w ∈ wdM → ∀ c, c ∈ w → c ≠ 32 ∧ c < 256 := by decide +kernel
/-- so many bytes from a place on -/
def txt (B : Nat → Nat) : Nat → Nat → List Nat
  | 0, _ => []
  | k + 1, a => B a :: txt B k (a + 1)
theorem txt_len (B : Nat → Nat) : ∀ k a, (txt B k a).length = k
  | 0, _ => rfl
  | k + 1, a => by rw [txt, List.length_cons, txt_len B k (a + 1)]
/-- which of the words -/
def fnd : List (List Nat) → List Nat → Nat → Nat
  | [], _, _ => 0
  | w :: ws, t, n => if t = w then n else fnd ws t (n + 1)
def fkw : List (List Nat) → List Nat → Nat → Option Nat
  | [], _, _ => none
  | w :: ws, t, n => if t = w then some n else fkw ws t (n + 1)
theorem fnd_no : ∀ (ws : List (List Nat)) (t : List Nat) (n : Nat), t ∉ ws → fnd ws t n = 0
  | [], _, _, _ => rfl
  | w :: ws, t, n, h => by
    rw [List.mem_cons, not_or] at h
    rw [fnd, if_neg h.1, fnd_no ws t (n + 1) h.2]
theorem fkw_no : ∀ (ws : List (List Nat)) (t : List Nat) (n : Nat), t ∉ ws → fkw ws t n = none
  | [], _, _, _ => rfl
  | w :: ws, t, n, h => by
    rw [List.mem_cons, not_or] at h
    rw [fkw, if_neg h.1, fkw_no ws t (n + 1) h.2]
def pm (c : Nat) : Option Nat := if c = 0 then none else some (perm.getD (c - 1) 0)
theorem kw_sub : ∀ w, w ∈ wdM → w ∈ wdC := by decide +kernel
theorem kw_pm : ∀ w, w ∈ wdC → fkw wdM w 0 = pm (fnd wdC w 1) := by decide +kernel
theorem cw_le : ∀ w, w ∈ wdC → fnd wdC w 1 ≤ 25 := by decide +kernel
theorem words_eq (t : List Nat) : fkw wdM t 0 = pm (fnd wdC t 1) := by
  by_cases h : t ∈ wdC
  · exact kw_pm t h
  · rw [fnd_no _ _ _ h, fkw_no _ _ _ (fun z => h (kw_sub t z))]; rfl
theorem words_le (t : List Nat) : fnd wdC t 1 ≤ 25 := by
  by_cases h : t ∈ wdC
  · exact cw_le t h
  · rw [fnd_no _ _ _ h]; omega
/-! the class's loop over the words -/
def wnF (B : Nat → Nat) (q e : Nat) : List Nat → Nat → Nat → Bool → Nat
  | [], _, _, _ => 0
  | c :: cs, num, at', same => if c = 32 then (if same = true ∧ at' = e then num else wnF B q e cs (num + 1) q true) else (if same = true ∧ at' < e ∧ B at' = c then wnF B q e cs num (at' + 1) true else wnF B q e cs num at' false)
theorem wn1 {B : Nat → Nat} {q e : Nat} (cs : List Nat) (num a : Nat) : wnF B q e (32 :: cs) num a false = wnF B q e cs (num + 1) q true := by
  rw [wnF, if_pos rfl, if_neg (fun z => by cases z.1)]
theorem wn2 {B : Nat → Nat} {q e : Nat} (cs : List Nat) (num : Nat) {a : Nat} (h : a = e) : wnF B q e (32 :: cs) num a true = num := by
  rw [wnF, if_pos rfl, if_pos ⟨rfl, h⟩]
theorem wn3 {B : Nat → Nat} {q e : Nat} (cs : List Nat) (num : Nat) {a : Nat} (h : ¬ a = e) : wnF B q e (32 :: cs) num a true = wnF B q e cs (num + 1) q true := by
  rw [wnF, if_pos rfl, if_neg (fun z => h z.2)]
theorem wn4 {B : Nat → Nat} {q e c : Nat} (cs : List Nat) (num a : Nat) (h : c ≠ 32) : wnF B q e (c :: cs) num a false = wnF B q e cs num a false := by
  rw [wnF, if_neg h, if_neg (fun z => by cases z.1)]
theorem wn5 {B : Nat → Nat} {q e c : Nat} (cs : List Nat) (num : Nat) {a : Nat} (h : c ≠ 32) (h1 : a < e) (h2 : B a = c) : wnF B q e (c :: cs) num a true = wnF B q e cs num (a + 1) true := by
  rw [wnF, if_neg h, if_pos ⟨rfl, h1, h2⟩]
theorem wn6 {B : Nat → Nat} {q e c : Nat} (cs : List Nat) (num : Nat) {a : Nat} (h : c ≠ 32) (h1 : ¬ (a < e ∧ B a = c)) : wnF B q e (c :: cs) num a true = wnF B q e cs num a false := by
  rw [wnF, if_neg h, if_neg (fun z => h1 z.2)]
theorem wnF_f {B : Nat → Nat} {q e : Nat} : ∀ (w rest : List Nat) (num at' : Nat), (∀ c, c ∈ w → c ≠ 32) → wnF B q e (w ++ 32 :: rest) num at' false = wnF B q e rest (num + 1) q true
  | [], rest, num, at', _ => by
    show wnF B q e (32 :: rest) num at' false = _
    rw [wnF, if_pos rfl, if_neg (fun z => by cases z.1)]
  | c :: w, rest, num, at', h => by
    show wnF B q e (c :: (w ++ 32 :: rest)) num at' false = _
    rw [wnF, if_neg (h c List.mem_cons_self), if_neg (fun z => by cases z.1)]
    exact wnF_f w rest num at' (fun c hc => h c (List.mem_cons_of_mem _ hc))
theorem wnF_w {B : Nat → Nat} {q e : Nat} : ∀ (w rest : List Nat) (num at' : Nat), (∀ c, c ∈ w → c ≠ 32) → at' ≤ e → wnF B q e (w ++ 32 :: rest) num at' true = if txt B (e - at') at' = w then num else wnF B q e rest (num + 1) q true
  | [], rest, num, at', _, ha => by
    show wnF B q e (32 :: rest) num at' true = _
    rw [wnF, if_pos rfl]
    by_cases h : at' = e
    · rw [if_pos ⟨rfl, h⟩, h, Nat.sub_self, if_pos (show txt B 0 e = [] from rfl)]
    · obtain ⟨k, hk⟩ : ∃ k, e - at' = k + 1 := ⟨e - at' - 1, by omega⟩
      rw [if_neg (fun z => h z.2), hk, if_neg (by rw [txt]; exact List.cons_ne_nil _ _)]
  | c :: w, rest, num, at', h, ha => by
    show wnF B q e (c :: (w ++ 32 :: rest)) num at' true = _
    rw [wnF, if_neg (h c List.mem_cons_self)]
    have hw : ∀ c, c ∈ w → c ≠ 32 := fun c hc => h c (List.mem_cons_of_mem _ hc)
    by_cases hl : at' < e
    · obtain ⟨k, hk⟩ : ∃ k, e - at' = k + 1 := ⟨e - at' - 1, by omega⟩
      rw [hk, txt]
      by_cases hc : B at' = c
      · rw [if_pos ⟨rfl, hl, hc⟩, wnF_w w rest num (at' + 1) hw hl, show e - (at' + 1) = k by omega]
        by_cases z : txt B k (at' + 1) = w
        · rw [if_pos z, if_pos (by rw [hc, z])]
        · rw [if_neg z, if_neg (fun y => z (List.cons.inj y).2)]
      · rw [if_neg (fun z => hc z.2.2), if_neg (fun y => hc (List.cons.inj y).1), wnF_f w rest num at' hw]
    · rw [if_neg (fun z => hl z.2.1), wnF_f w rest num at' hw, show e - at' = 0 by omega, if_neg (by rw [txt]; exact fun y => by cases y)]
theorem wnF_all {B : Nat → Nat} {q e : Nat} (hq : q ≤ e) : ∀ (ws : List (List Nat)) (num : Nat), (∀ w, w ∈ ws → ∀ c, c ∈ w → c ≠ 32) → wnF B q e (flat ws) num q true = fnd ws (txt B (e - q) q) num
  | [], _, _ => rfl
  | w :: ws, num, h => by
    rw [flat, wnF_w w (flat ws) num q (h w List.mem_cons_self) hq, fnd, wnF_all hq ws (num + 1) (fun v hv => h v (List.mem_cons_of_mem _ hv))]
def TX (n : Nat) (B : Nat → Nat) (f g : Nat → Int32) : Prop := n ≤ 900 ∧ ∀ k, k < n → B k < 256 ∧ f k = nI (B k) ∧ g k &&& 255 = nI (B k)
theorem l_140 : (140 : Int32) = nI 140 := rfl
theorem l_141 : (141 : Int32) = nI 141 := rfl
theorem sl_0 : strLen 0 = nI 140 := by decide +kernel
theorem sl_1 : strLen 1 = nI 141 := by decide +kernel
theorem ln_0 : lns.getD 0 0 = 140 := rfl
theorem ln_1 : lns.getD 1 0 = 141 := rfl
theorem getD_drop (l : List Nat) (i : Nat) (c : Nat) (cs : List Nat) (h : l.drop i = c :: cs) : l.getD i 0 = c ∧ l.drop (i + 1) = cs ∧ i < l.length := by
  have hl : i < l.length := by
    by_cases z : i < l.length
    · exact z
    · rw [List.drop_eq_nil_of_le (by omega)] at h; cases h
  rw [List.drop_eq_getElem_cons hl] at h
  have := List.cons.inj h
  exact ⟨by rw [List.getD_eq_getElem?_getD, List.getElem?_eq_getElem hl]; exact this.1, this.2, hl⟩
theorem cw_b : ∀ i, i < 140 → (flat wdC).getD i 0 < 256 := by decide +kernel
theorem kw_b : ∀ i, i < 140 → (flat wdM).getD i 0 < 256 := by decide +kernel
theorem c_wn_it {F n q e : Nat} {B : Nat → Nat} {f g : Nat → Int32} (hx : TX n B f g) (hq : q ≤ e) (he : e ≤ n) : ∀ (cs : List Nat) (i num at' : Nat) (same : Bool) (G : Nat), (flat wdC).drop i = cs → i + cs.length = 140 → 1 ≤ num → num + cs.length < 1000 → at' ≤ e → cs.length < G →
    iter (X8_wordNumber_b12 F (nI q) (nI e) f) G (nI num, nI at', zb same, nI i) = some (if wnF B q e cs num at' same = 0 then .inr () else .inl (nI (wnF B q e cs num at' same)))
  | [], i, num, at', same, G, hd, hi, h1, h2, ha, hG => by
    obtain ⟨G, rfl⟩ : ∃ G', G = G' + 1 := ⟨G - 1, by omega⟩
    have hi : i = 140 := hi
    subst hi
    refine iter_r ?_ G
    unfold X8_wordNumber_b12
    rw [sl_0, if_pos (Int32.le_refl _)]; rfl
  | c :: cs, i, num, at', same, G, hd, hi, h1, h2, ha, hG => by
    obtain ⟨G, rfl⟩ : ∃ G', G = G' + 1 := ⟨G - 1, by omega⟩
    obtain ⟨d1, d2, d3⟩ := getD_drop _ _ _ _ hd
    rw [cw_ln] at d3
    have ch := cw_ch i d3
    have cb := cw_b i d3
    rw [d1] at ch cb
    rw [List.length_cons] at h2 hG hi
    have n9 := hx.1
    have ih := fun num at' same h1 h2 ha => c_wn_it (F := F) hx hq he cs (i + 1) num at' same G d2 (by omega) h1 h2 ha (by omega)
    by_cases c32 : c = 32
    · subst c32
      cases same with
      | false =>
        have b : X8_wordNumber_b12 F (nI q) (nI e) f (nI num, nI at', zb false, nI i) = some (.inl (nI (num + 1), nI q, zb true, nI (i + 1))) := by
          unfold X8_wordNumber_b12 X8_wordNumber_j52 X8_wordNumber_j96
          simp (disch := omega) only [l_0, l_1, l_2, l_3, l_4, l_5, l_6, l_7, l_8, l_9, l_10, l_11, l_12, l_13, l_14, l_15, l_16, l_17, l_18, l_19, l_20, l_21, l_22, l_23, l_24, l_25, l_26, l_27, l_30, l_31, l_32, l_40, l_48, l_57, l_59, l_60, l_61, l_62, l_64, l_83, l_90, l_97, l_99, l_100, l_108, l_115, l_122, l_123, l_127, l_128, l_131, l_135, l_200, l_255, l_256, l_300, l_487, l_495, l_900, l_999, l_1000, l_1700, l_1792, l_1980, l_2048, l_2475, l_2970, l_3121, l_9999, l_10000, l_11351, l_65536, l_100000, l_1000000, ↓l_m1, l_neg, nI_add, pk_mul, pk_sub, q_leT, q_leF, q_ltT, q_ltF, q_eqT, q_eqF, q_m1e, q_m1e2, q_m1lt, q_m1le, q_m1nl, q_m1nle, q_m1s, q_ix, q_jat, q_jput, q_min1, q_min2, q_max1, q_max2, q_or0, q_0or, q_bs, if_true, if_false, true_and, and_true, false_and, and_false, not_true_eq_false, not_false_eq_true, eq_self, Bool.false_eq_true, q_z0, q_z1, sl_0, ln_0, ch, zb_f, zb_t]
        rw [iter_l b, ih _ _ _ (by omega) (by omega) hq, wn1]
      | true =>
        by_cases z : at' = e
        · have b : X8_wordNumber_b12 F (nI q) (nI e) f (nI num, nI at', zb true, nI i) = some (.inr (.inl (nI num))) := by
            unfold X8_wordNumber_b12
            simp (disch := omega) only [l_0, l_1, l_2, l_3, l_4, l_5, l_6, l_7, l_8, l_9, l_10, l_11, l_12, l_13, l_14, l_15, l_16, l_17, l_18, l_19, l_20, l_21, l_22, l_23, l_24, l_25, l_26, l_27, l_30, l_31, l_32, l_40, l_48, l_57, l_59, l_60, l_61, l_62, l_64, l_83, l_90, l_97, l_99, l_100, l_108, l_115, l_122, l_123, l_127, l_128, l_131, l_135, l_200, l_255, l_256, l_300, l_487, l_495, l_900, l_999, l_1000, l_1700, l_1792, l_1980, l_2048, l_2475, l_2970, l_3121, l_9999, l_10000, l_11351, l_65536, l_100000, l_1000000, ↓l_m1, l_neg, nI_add, pk_mul, pk_sub, q_leT, q_leF, q_ltT, q_ltF, q_eqT, q_eqF, q_m1e, q_m1e2, q_m1lt, q_m1le, q_m1nl, q_m1nle, q_m1s, q_ix, q_jat, q_jput, q_min1, q_min2, q_max1, q_max2, q_or0, q_0or, q_bs, if_true, if_false, true_and, and_true, false_and, and_false, not_true_eq_false, not_false_eq_true, eq_self, Bool.false_eq_true, q_z0, q_z1, sl_0, ln_0, ch, zb_t]
          rw [iter_r b, wn2 _ _ z, if_neg (show ¬ num = 0 by omega)]
        · have b : X8_wordNumber_b12 F (nI q) (nI e) f (nI num, nI at', zb true, nI i) = some (.inl (nI (num + 1), nI q, zb true, nI (i + 1))) := by
            unfold X8_wordNumber_b12 X8_wordNumber_j52 X8_wordNumber_j96
            simp (disch := omega) only [l_0, l_1, l_2, l_3, l_4, l_5, l_6, l_7, l_8, l_9, l_10, l_11, l_12, l_13, l_14, l_15, l_16, l_17, l_18, l_19, l_20, l_21, l_22, l_23, l_24, l_25, l_26, l_27, l_30, l_31, l_32, l_40, l_48, l_57, l_59, l_60, l_61, l_62, l_64, l_83, l_90, l_97, l_99, l_100, l_108, l_115, l_122, l_123, l_127, l_128, l_131, l_135, l_200, l_255, l_256, l_300, l_487, l_495, l_900, l_999, l_1000, l_1700, l_1792, l_1980, l_2048, l_2475, l_2970, l_3121, l_9999, l_10000, l_11351, l_65536, l_100000, l_1000000, ↓l_m1, l_neg, nI_add, pk_mul, pk_sub, q_leT, q_leF, q_ltT, q_ltF, q_eqT, q_eqF, q_m1e, q_m1e2, q_m1lt, q_m1le, q_m1nl, q_m1nle, q_m1s, q_ix, q_jat, q_jput, q_min1, q_min2, q_max1, q_max2, q_or0, q_0or, q_bs, if_true, if_false, true_and, and_true, false_and, and_false, not_true_eq_false, not_false_eq_true, eq_self, Bool.false_eq_true, q_z0, q_z1, sl_0, ln_0, ch, zb_t]
          rw [iter_l b, ih _ _ _ (by omega) (by omega) hq, wn3 _ _ z]
    · cases same with
      | false =>
        have b : X8_wordNumber_b12 F (nI q) (nI e) f (nI num, nI at', zb false, nI i) = some (.inl (nI num, nI at', zb false, nI (i + 1))) := by
          unfold X8_wordNumber_b12 X8_wordNumber_j94 X8_wordNumber_j96
          simp (disch := omega) only [l_0, l_1, l_2, l_3, l_4, l_5, l_6, l_7, l_8, l_9, l_10, l_11, l_12, l_13, l_14, l_15, l_16, l_17, l_18, l_19, l_20, l_21, l_22, l_23, l_24, l_25, l_26, l_27, l_30, l_31, l_32, l_40, l_48, l_57, l_59, l_60, l_61, l_62, l_64, l_83, l_90, l_97, l_99, l_100, l_108, l_115, l_122, l_123, l_127, l_128, l_131, l_135, l_200, l_255, l_256, l_300, l_487, l_495, l_900, l_999, l_1000, l_1700, l_1792, l_1980, l_2048, l_2475, l_2970, l_3121, l_9999, l_10000, l_11351, l_65536, l_100000, l_1000000, ↓l_m1, l_neg, nI_add, pk_mul, pk_sub, q_leT, q_leF, q_ltT, q_ltF, q_eqT, q_eqF, q_m1e, q_m1e2, q_m1lt, q_m1le, q_m1nl, q_m1nle, q_m1s, q_ix, q_jat, q_jput, q_min1, q_min2, q_max1, q_max2, q_or0, q_0or, q_bs, if_true, if_false, true_and, and_true, false_and, and_false, not_true_eq_false, not_false_eq_true, eq_self, Bool.false_eq_true, q_z0, q_z1, sl_0, ln_0, ch, zb_f]
        rw [iter_l b, ih _ _ _ (by omega) (by omega) ha, wn4 _ _ _ c32]
      | true =>
        by_cases hl : at' < e
        · obtain ⟨x1, x2, x3⟩ := hx.2 at' (by omega)
          by_cases hc : B at' = c
          · have b : X8_wordNumber_b12 F (nI q) (nI e) f (nI num, nI at', zb true, nI i) = some (.inl (nI num, nI (at' + 1), zb true, nI (i + 1))) := by
              unfold X8_wordNumber_b12 X8_wordNumber_j94 X8_wordNumber_j96
              simp (disch := omega) only [l_0, l_1, l_2, l_3, l_4, l_5, l_6, l_7, l_8, l_9, l_10, l_11, l_12, l_13, l_14, l_15, l_16, l_17, l_18, l_19, l_20, l_21, l_22, l_23, l_24, l_25, l_26, l_27, l_30, l_31, l_32, l_40, l_48, l_57, l_59, l_60, l_61, l_62, l_64, l_83, l_90, l_97, l_99, l_100, l_108, l_115, l_122, l_123, l_127, l_128, l_131, l_135, l_200, l_255, l_256, l_300, l_487, l_495, l_900, l_999, l_1000, l_1700, l_1792, l_1980, l_2048, l_2475, l_2970, l_3121, l_9999, l_10000, l_11351, l_65536, l_100000, l_1000000, ↓l_m1, l_neg, nI_add, pk_mul, pk_sub, q_leT, q_leF, q_ltT, q_ltF, q_eqT, q_eqF, q_m1e, q_m1e2, q_m1lt, q_m1le, q_m1nl, q_m1nle, q_m1s, q_ix, q_jat, q_jput, q_min1, q_min2, q_max1, q_max2, q_or0, q_0or, q_bs, if_true, if_false, true_and, and_true, false_and, and_false, not_true_eq_false, not_false_eq_true, eq_self, Bool.false_eq_true, q_z0, q_z1, sl_0, ln_0, ch, zb_t, x2]
            rw [iter_l b, ih _ _ _ (by omega) (by omega) (by omega), wn5 _ _ c32 hl hc]
          · have b : X8_wordNumber_b12 F (nI q) (nI e) f (nI num, nI at', zb true, nI i) = some (.inl (nI num, nI at', zb false, nI (i + 1))) := by
              unfold X8_wordNumber_b12 X8_wordNumber_j94 X8_wordNumber_j96
              simp (disch := omega) only [l_0, l_1, l_2, l_3, l_4, l_5, l_6, l_7, l_8, l_9, l_10, l_11, l_12, l_13, l_14, l_15, l_16, l_17, l_18, l_19, l_20, l_21, l_22, l_23, l_24, l_25, l_26, l_27, l_30, l_31, l_32, l_40, l_48, l_57, l_59, l_60, l_61, l_62, l_64, l_83, l_90, l_97, l_99, l_100, l_108, l_115, l_122, l_123, l_127, l_128, l_131, l_135, l_200, l_255, l_256, l_300, l_487, l_495, l_900, l_999, l_1000, l_1700, l_1792, l_1980, l_2048, l_2475, l_2970, l_3121, l_9999, l_10000, l_11351, l_65536, l_100000, l_1000000, ↓l_m1, l_neg, nI_add, pk_mul, pk_sub, q_leT, q_leF, q_ltT, q_ltF, q_eqT, q_eqF, q_m1e, q_m1e2, q_m1lt, q_m1le, q_m1nl, q_m1nle, q_m1s, q_ix, q_jat, q_jput, q_min1, q_min2, q_max1, q_max2, q_or0, q_0or, q_bs, if_true, if_false, true_and, and_true, false_and, and_false, not_true_eq_false, not_false_eq_true, eq_self, Bool.false_eq_true, q_z0, q_z1, sl_0, ln_0, ch, zb_t, zb_f, x2]
            rw [iter_l b, ih _ _ _ (by omega) (by omega) ha, wn6 _ _ c32 (fun z => hc z.2)]
        · have b : X8_wordNumber_b12 F (nI q) (nI e) f (nI num, nI at', zb true, nI i) = some (.inl (nI num, nI at', zb false, nI (i + 1))) := by
            unfold X8_wordNumber_b12 X8_wordNumber_j94 X8_wordNumber_j96
            simp (disch := omega) only [l_0, l_1, l_2, l_3, l_4, l_5, l_6, l_7, l_8, l_9, l_10, l_11, l_12, l_13, l_14, l_15, l_16, l_17, l_18, l_19, l_20, l_21, l_22, l_23, l_24, l_25, l_26, l_27, l_30, l_31, l_32, l_40, l_48, l_57, l_59, l_60, l_61, l_62, l_64, l_83, l_90, l_97, l_99, l_100, l_108, l_115, l_122, l_123, l_127, l_128, l_131, l_135, l_200, l_255, l_256, l_300, l_487, l_495, l_900, l_999, l_1000, l_1700, l_1792, l_1980, l_2048, l_2475, l_2970, l_3121, l_9999, l_10000, l_11351, l_65536, l_100000, l_1000000, ↓l_m1, l_neg, nI_add, pk_mul, pk_sub, q_leT, q_leF, q_ltT, q_ltF, q_eqT, q_eqF, q_m1e, q_m1e2, q_m1lt, q_m1le, q_m1nl, q_m1nle, q_m1s, q_ix, q_jat, q_jput, q_min1, q_min2, q_max1, q_max2, q_or0, q_0or, q_bs, if_true, if_false, true_and, and_true, false_and, and_false, not_true_eq_false, not_false_eq_true, eq_self, Bool.false_eq_true, q_z0, q_z1, sl_0, ln_0, ch, zb_t, zb_f]
          rw [iter_l b, ih _ _ _ (by omega) (by omega) ha, wn6 _ _ c32 (fun z => hl z.1)]
def wno (B : Nat → Nat) (q e : Nat) : Nat := fnd wdC (txt B (e - q) q) 1
theorem c_wordNo {F n q e : Nat} {B : Nat → Nat} {f g : Nat → Int32} (hx : TX n B f g) (hq : q ≤ e) (he : e ≤ n) (hF : 2000 < F) : X8_wordNumber F (nI q) (nI e) f = some (nI (wno B q e)) := by
  have it := c_wn_it (F := F) hx hq he (flat wdC) 0 1 q true F List.drop_zero (by rw [cw_ln]) (by omega) (by rw [cw_ln]; omega) hq (by rw [cw_ln]; omega)
  have fw := wnF_all (B := B) hq wdC 1 (fun w hw c hc => (cw_ok w hw c hc).1)
  rw [fw] at it
  unfold X8_wordNumber
  rw [show ((1 : Int32), nI q, (1 : Int32), (0 : Int32)) = (nI 1, nI q, zb true, nI 0) from rfl, it, q_bs]
  unfold wno
  by_cases z : fnd wdC (txt B (e - q) q) 1 = 0
  · rw [if_pos z, z]; rfl
  · rw [if_neg z]; rfl
/-! the model's -/
theorem byte_in {n k : Nat} {B : Nat → Nat} {f g : Nat → Int32} (hx : TX n B f g) (hk : k < n) : X12_byteAt (nI n) g (nI k) = some (nI (B k)) := by
  obtain ⟨x1, x2, x3⟩ := hx.2 k hk
  have n9 := hx.1
  have x3' : g k &&& nI 255 = nI (B k) := x3
  unfold X12_byteAt
  simp (disch := omega) only [l_0, l_1, l_2, l_3, l_4, l_5, l_6, l_7, l_8, l_9, l_10, l_11, l_12, l_13, l_14, l_15, l_16, l_17, l_18, l_19, l_20, l_21, l_22, l_23, l_24, l_25, l_26, l_27, l_30, l_31, l_32, l_40, l_48, l_57, l_59, l_60, l_61, l_62, l_64, l_83, l_90, l_97, l_99, l_100, l_108, l_115, l_122, l_123, l_127, l_128, l_131, l_135, l_200, l_255, l_256, l_300, l_487, l_495, l_900, l_999, l_1000, l_1700, l_1792, l_1980, l_2048, l_2475, l_2970, l_3121, l_9999, l_10000, l_11351, l_65536, l_100000, l_1000000, ↓l_m1, l_neg, nI_add, pk_mul, pk_sub, q_leT, q_leF, q_ltT, q_ltF, q_eqT, q_eqF, q_m1e, q_m1e2, q_m1lt, q_m1le, q_m1nl, q_m1nle, q_m1s, q_ix, q_jat, q_jput, q_min1, q_min2, q_max1, q_max2, q_or0, q_0or, q_bs, if_true, if_false, true_and, and_true, false_and, and_false, not_true_eq_false, not_false_eq_true, eq_self, Bool.false_eq_true, q_z0, q_z1, x3']
theorem byte_out {n k : Nat} {B : Nat → Nat} {f g : Nat → Int32} (hx : TX n B f g) (hk : n ≤ k) (h2 : k < 2 ^ 31) : X12_byteAt (nI n) g (nI k) = some m1 := by
  unfold X12_byteAt
  simp (disch := omega) only [l_0, l_1, l_2, l_3, l_4, l_5, l_6, l_7, l_8, l_9, l_10, l_11, l_12, l_13, l_14, l_15, l_16, l_17, l_18, l_19, l_20, l_21, l_22, l_23, l_24, l_25, l_26, l_27, l_30, l_31, l_32, l_40, l_48, l_57, l_59, l_60, l_61, l_62, l_64, l_83, l_90, l_97, l_99, l_100, l_108, l_115, l_122, l_123, l_127, l_128, l_131, l_135, l_200, l_255, l_256, l_300, l_487, l_495, l_900, l_999, l_1000, l_1700, l_1792, l_1980, l_2048, l_2475, l_2970, l_3121, l_9999, l_10000, l_11351, l_65536, l_100000, l_1000000, ↓l_m1, l_neg, nI_add, pk_mul, pk_sub, q_leT, q_leF, q_ltT, q_ltF, q_eqT, q_eqF, q_m1e, q_m1e2, q_m1lt, q_m1le, q_m1nl, q_m1nle, q_m1s, q_ix, q_jat, q_jput, q_min1, q_min2, q_max1, q_max2, q_or0, q_0or, q_bs, if_true, if_false, true_and, and_true, false_and, and_false, not_true_eq_false, not_false_eq_true, eq_self, Bool.false_eq_true, q_z0, q_z1]
theorem m_wend {F : Nat} {sz tk fr en v2 v3 : Int32} {g : Nat → Int32} : ∀ (w rest : List Nat) (j G : Nat), (flat wdM).drop j = w ++ 32 :: rest → (∀ c, c ∈ w → c ≠ 32) → w.length < G → iter (X12_inWords_b25 F sz tk fr en g v2 v3) G (nI (1 + j)) = some (nI (1 + j + w.length))
  | [], rest, j, G, hd, h, hG => by
    obtain ⟨G, rfl⟩ : ∃ G', G = G' + 1 := ⟨G - 1, by simp only [List.length_nil] at hG; omega⟩
    obtain ⟨d1, d2, d3⟩ := getD_drop _ _ _ _ (show (flat wdM).drop j = 32 :: rest from hd)
    rw [kw_ln] at d3
    have ch := kw_ch j d3
    rw [d1] at ch
    refine iter_r ?_ G
    unfold X12_inWords_b25
    simp (disch := omega) only [l_0, l_1, l_2, l_3, l_4, l_5, l_6, l_7, l_8, l_9, l_10, l_11, l_12, l_13, l_14, l_15, l_16, l_17, l_18, l_19, l_20, l_21, l_22, l_23, l_24, l_25, l_26, l_27, l_30, l_31, l_32, l_40, l_48, l_57, l_59, l_60, l_61, l_62, l_64, l_83, l_90, l_97, l_99, l_100, l_108, l_115, l_122, l_123, l_127, l_128, l_131, l_135, l_200, l_255, l_256, l_300, l_487, l_495, l_900, l_999, l_1000, l_1700, l_1792, l_1980, l_2048, l_2475, l_2970, l_3121, l_9999, l_10000, l_11351, l_65536, l_100000, l_1000000, ↓l_m1, l_neg, nI_add, pk_mul, pk_sub, q_leT, q_leF, q_ltT, q_ltF, q_eqT, q_eqF, q_m1e, q_m1e2, q_m1lt, q_m1le, q_m1nl, q_m1nle, q_m1s, q_ix, q_jat, q_jput, q_min1, q_min2, q_max1, q_max2, q_or0, q_0or, q_bs, if_true, if_false, true_and, and_true, false_and, and_false, not_true_eq_false, not_false_eq_true, eq_self, Bool.false_eq_true, q_z0, q_z1, ln_1, ch, List.length_nil, Nat.add_zero]
  | c :: w, rest, j, G, hd, h, hG => by
    obtain ⟨G, rfl⟩ : ∃ G', G = G' + 1 := ⟨G - 1, by simp only [List.length_cons] at hG; omega⟩
    obtain ⟨d1, d2, d3⟩ := getD_drop _ _ _ _ (show (flat wdM).drop j = c :: (w ++ 32 :: rest) from hd)
    rw [kw_ln] at d3
    have ch := kw_ch j d3
    have cb := kw_b j d3
    rw [d1] at ch cb
    have c32 := h c List.mem_cons_self
    have b : X12_inWords_b25 F sz tk fr en g v2 v3 (nI (1 + j)) = some (.inl (nI (1 + (j + 1)))) := by
      unfold X12_inWords_b25
      simp (disch := omega) only [l_0, l_1, l_2, l_3, l_4, l_5, l_6, l_7, l_8, l_9, l_10, l_11, l_12, l_13, l_14, l_15, l_16, l_17, l_18, l_19, l_20, l_21, l_22, l_23, l_24, l_25, l_26, l_27, l_30, l_31, l_32, l_40, l_48, l_57, l_59, l_60, l_61, l_62, l_64, l_83, l_90, l_97, l_99, l_100, l_108, l_115, l_122, l_123, l_127, l_128, l_131, l_135, l_200, l_255, l_256, l_300, l_487, l_495, l_900, l_999, l_1000, l_1700, l_1792, l_1980, l_2048, l_2475, l_2970, l_3121, l_9999, l_10000, l_11351, l_65536, l_100000, l_1000000, ↓l_m1, l_neg, nI_add, pk_mul, pk_sub, q_leT, q_leF, q_ltT, q_ltF, q_eqT, q_eqF, q_m1e, q_m1e2, q_m1lt, q_m1le, q_m1nl, q_m1nle, q_m1s, q_ix, q_jat, q_jput, q_min1, q_min2, q_max1, q_max2, q_or0, q_0or, q_bs, if_true, if_false, true_and, and_true, false_and, and_false, not_true_eq_false, not_false_eq_true, eq_self, Bool.false_eq_true, q_z0, q_z1, ln_1, ch, Nat.add_assoc]
    rw [iter_l b, m_wend w rest (j + 1) G d2 (fun c hc => h c (List.mem_cons_of_mem _ hc)) (by rw [List.length_cons] at hG; omega), List.length_cons]
    congr 2; omega
theorem m_wcmp {F n q j0 : Nat} {tk en v2 : Int32} {B : Nat → Nat} {f g : Nat → Int32} (hx : TX n B f g) (hj : j0 < 200) : ∀ (w rest : List Nat) (d G : Nat), (flat wdM).drop (j0 + d) = w ++ 32 :: rest → q + d + w.length ≤ n → w.length + 1 < G → iter (X12_inWords_b68 F (nI n) tk (nI q) en g v2 (nI (1 + j0)) (nI (1 + j0 + d + w.length))) G (nI 1, nI (1 + j0 + d)) = some (if txt B w.length (q + d) = w then nI 1 else nI 0)
  | [], rest, d, G, hd, hn, hG => by
    obtain ⟨G, rfl⟩ : ∃ G', G = G' + 1 := ⟨G - 1, by omega⟩
    have n9 := hx.1
    obtain ⟨d1, d2, d3⟩ := getD_drop _ _ _ _ (show (flat wdM).drop (j0 + d) = 32 :: rest from hd)
    rw [kw_ln] at d3
    rw [if_pos (show txt B ([] : List Nat).length (q + d) = [] from rfl)]
    refine iter_r ?_ G
    unfold X12_inWords_b68
    simp (disch := omega) only [l_0, l_1, l_2, l_3, l_4, l_5, l_6, l_7, l_8, l_9, l_10, l_11, l_12, l_13, l_14, l_15, l_16, l_17, l_18, l_19, l_20, l_21, l_22, l_23, l_24, l_25, l_26, l_27, l_30, l_31, l_32, l_40, l_48, l_57, l_59, l_60, l_61, l_62, l_64, l_83, l_90, l_97, l_99, l_100, l_108, l_115, l_122, l_123, l_127, l_128, l_131, l_135, l_200, l_255, l_256, l_300, l_487, l_495, l_900, l_999, l_1000, l_1700, l_1792, l_1980, l_2048, l_2475, l_2970, l_3121, l_9999, l_10000, l_11351, l_65536, l_100000, l_1000000, ↓l_m1, l_neg, nI_add, pk_mul, pk_sub, q_leT, q_leF, q_ltT, q_ltF, q_eqT, q_eqF, q_m1e, q_m1e2, q_m1lt, q_m1le, q_m1nl, q_m1nle, q_m1s, q_ix, q_jat, q_jput, q_min1, q_min2, q_max1, q_max2, q_or0, q_0or, q_bs, if_true, if_false, true_and, and_true, false_and, and_false, not_true_eq_false, not_false_eq_true, eq_self, Bool.false_eq_true, q_z0, q_z1, List.length_nil, Nat.add_zero]
  | c :: w, rest, d, G, hd, hn, hG => by
    rw [List.length_cons] at hn hG ⊢
    obtain ⟨G, rfl⟩ : ∃ G', G = G' + 1 + 1 := ⟨G - 2, by omega⟩
    have n9 := hx.1
    obtain ⟨d1, d2, d3⟩ := getD_drop _ _ _ _ (show (flat wdM).drop (j0 + d) = c :: (w ++ 32 :: rest) from hd)
    rw [kw_ln] at d3
    have ch := kw_ch (j0 + d) d3
    have cb := kw_b (j0 + d) d3
    rw [d1, ← Nat.add_assoc] at ch
    rw [d1] at cb
    have by0 := byte_in hx (show q + d < n by omega)
    have x1 := (hx.2 (q + d) (by omega)).1
    have e1 : q + (1 + j0 + d) - (1 + j0) = q + d := by omega
    have e2 : 1 + j0 + d + 1 = 1 + j0 + (d + 1) := by omega
    by_cases hc : B (q + d) = c
    · have b : X12_inWords_b68 F (nI n) tk (nI q) en g v2 (nI (1 + j0)) (nI (1 + j0 + d + (w.length + 1))) (nI 1, nI (1 + j0 + d)) = some (.inl (nI 1, nI (1 + j0 + (d + 1)))) := by
        unfold X12_inWords_b68 X12_inWords_j107
        simp (disch := omega) only [l_0, l_1, l_2, l_3, l_4, l_5, l_6, l_7, l_8, l_9, l_10, l_11, l_12, l_13, l_14, l_15, l_16, l_17, l_18, l_19, l_20, l_21, l_22, l_23, l_24, l_25, l_26, l_27, l_30, l_31, l_32, l_40, l_48, l_57, l_59, l_60, l_61, l_62, l_64, l_83, l_90, l_97, l_99, l_100, l_108, l_115, l_122, l_123, l_127, l_128, l_131, l_135, l_200, l_255, l_256, l_300, l_487, l_495, l_900, l_999, l_1000, l_1700, l_1792, l_1980, l_2048, l_2475, l_2970, l_3121, l_9999, l_10000, l_11351, l_65536, l_100000, l_1000000, ↓l_m1, l_neg, nI_add, pk_mul, pk_sub, q_leT, q_leF, q_ltT, q_ltF, q_eqT, q_eqF, q_m1e, q_m1e2, q_m1lt, q_m1le, q_m1nl, q_m1nle, q_m1s, q_ix, q_jat, q_jput, q_min1, q_min2, q_max1, q_max2, q_or0, q_0or, q_bs, if_true, if_false, true_and, and_true, false_and, and_false, not_true_eq_false, not_false_eq_true, eq_self, Bool.false_eq_true, q_z0, q_z1, ln_1, ch, e1, by0, hc, e2]
      rw [iter_l b]
      have ih := m_wcmp (F := F) (q := q) (tk := tk) (en := en) (v2 := v2) hx hj w rest (d + 1) (G + 1) d2 (by omega) (by omega)
      rw [show 1 + j0 + (d + 1) + w.length = 1 + j0 + d + (w.length + 1) by omega] at ih
      rw [ih, txt, show q + d + 1 = q + (d + 1) by omega, hc]
      by_cases z : txt B w.length (q + (d + 1)) = w
      · rw [if_pos z, if_pos (by rw [z])]
      · rw [if_neg z, if_neg (fun y => z (List.cons.inj y).2)]
    · have b : X12_inWords_b68 F (nI n) tk (nI q) en g v2 (nI (1 + j0)) (nI (1 + j0 + d + (w.length + 1))) (nI 1, nI (1 + j0 + d)) = some (.inl (nI 0, nI (1 + j0 + (d + 1)))) := by
        have hc' : ¬ c = B (q + d) := fun z => hc z.symm
        unfold X12_inWords_b68 X12_inWords_j107
        simp (disch := omega) only [l_0, l_1, l_2, l_3, l_4, l_5, l_6, l_7, l_8, l_9, l_10, l_11, l_12, l_13, l_14, l_15, l_16, l_17, l_18, l_19, l_20, l_21, l_22, l_23, l_24, l_25, l_26, l_27, l_30, l_31, l_32, l_40, l_48, l_57, l_59, l_60, l_61, l_62, l_64, l_83, l_90, l_97, l_99, l_100, l_108, l_115, l_122, l_123, l_127, l_128, l_131, l_135, l_200, l_255, l_256, l_300, l_487, l_495, l_900, l_999, l_1000, l_1700, l_1792, l_1980, l_2048, l_2475, l_2970, l_3121, l_9999, l_10000, l_11351, l_65536, l_100000, l_1000000, ↓l_m1, l_neg, nI_add, pk_mul, pk_sub, q_leT, q_leF, q_ltT, q_ltF, q_eqT, q_eqF, q_m1e, q_m1e2, q_m1lt, q_m1le, q_m1nl, q_m1nle, q_m1s, q_ix, q_jat, q_jput, q_min1, q_min2, q_max1, q_max2, q_or0, q_0or, q_bs, if_true, if_false, true_and, and_true, false_and, and_false, not_true_eq_false, not_false_eq_true, eq_self, Bool.false_eq_true, q_z0, q_z1, ln_1, ch, e1, by0, e2]
      rw [iter_l b]
      have b2 : X12_inWords_b68 F (nI n) tk (nI q) en g v2 (nI (1 + j0)) (nI (1 + j0 + d + (w.length + 1))) (nI 0, nI (1 + j0 + (d + 1))) = some (.inr (nI 0)) := by
        unfold X12_inWords_b68
        by_cases z : 1 + j0 + d + (w.length + 1) ≤ 1 + j0 + (d + 1)
        · simp (disch := omega) only [l_0, l_1, l_2, l_3, l_4, l_5, l_6, l_7, l_8, l_9, l_10, l_11, l_12, l_13, l_14, l_15, l_16, l_17, l_18, l_19, l_20, l_21, l_22, l_23, l_24, l_25, l_26, l_27, l_30, l_31, l_32, l_40, l_48, l_57, l_59, l_60, l_61, l_62, l_64, l_83, l_90, l_97, l_99, l_100, l_108, l_115, l_122, l_123, l_127, l_128, l_131, l_135, l_200, l_255, l_256, l_300, l_487, l_495, l_900, l_999, l_1000, l_1700, l_1792, l_1980, l_2048, l_2475, l_2970, l_3121, l_9999, l_10000, l_11351, l_65536, l_100000, l_1000000, ↓l_m1, l_neg, nI_add, pk_mul, pk_sub, q_leT, q_leF, q_ltT, q_ltF, q_eqT, q_eqF, q_m1e, q_m1e2, q_m1lt, q_m1le, q_m1nl, q_m1nle, q_m1s, q_ix, q_jat, q_jput, q_min1, q_min2, q_max1, q_max2, q_or0, q_0or, q_bs, if_true, if_false, true_and, and_true, false_and, and_false, not_true_eq_false, not_false_eq_true, eq_self, Bool.false_eq_true, q_z0, q_z1]
        · simp (disch := omega) only [l_0, l_1, l_2, l_3, l_4, l_5, l_6, l_7, l_8, l_9, l_10, l_11, l_12, l_13, l_14, l_15, l_16, l_17, l_18, l_19, l_20, l_21, l_22, l_23, l_24, l_25, l_26, l_27, l_30, l_31, l_32, l_40, l_48, l_57, l_59, l_60, l_61, l_62, l_64, l_83, l_90, l_97, l_99, l_100, l_108, l_115, l_122, l_123, l_127, l_128, l_131, l_135, l_200, l_255, l_256, l_300, l_487, l_495, l_900, l_999, l_1000, l_1700, l_1792, l_1980, l_2048, l_2475, l_2970, l_3121, l_9999, l_10000, l_11351, l_65536, l_100000, l_1000000, ↓l_m1, l_neg, nI_add, pk_mul, pk_sub, q_leT, q_leF, q_ltT, q_ltF, q_eqT, q_eqF, q_m1e, q_m1e2, q_m1lt, q_m1le, q_m1nl, q_m1nle, q_m1s, q_ix, q_jat, q_jput, q_min1, q_min2, q_max1, q_max2, q_or0, q_0or, q_bs, if_true, if_false, true_and, and_true, false_and, and_false, not_true_eq_false, not_false_eq_true, eq_self, Bool.false_eq_true, q_z0, q_z1]
      rw [iter_r b2, txt, if_neg (fun y => hc (List.cons.inj y).1)]
theorem m_iw {F n q e : Nat} {tk : Int32} {B : Nat → Nat} {f g : Nat → Int32} (hx : TX n B f g) (hq : q ≤ e) (he : e ≤ n) (hF : 2000 < F) : ∀ (ws : List (List Nat)) (j idx G : Nat), (flat wdM).drop j = flat ws → j + (flat ws).length = 140 → (∀ w, w ∈ ws → ∀ c, c ∈ w → c ≠ 32) → idx + ws.length < 1000 → ws.length < G →
    iter (X12_inWords_b14 F (nI n) tk (nI q) (nI e) g) G (nI idx, nI (1 + j)) = some (match fkw ws (txt B (e - q) q) idx with | none => .inr () | some r => .inl (nI r))
  | [], j, idx, G, hd, hj, hw, hi, hG => by
    obtain ⟨G, rfl⟩ : ∃ G', G = G' + 1 := ⟨G - 1, by omega⟩
    have hj : j = 140 := hj
    subst hj
    refine iter_r ?_ G
    unfold X12_inWords_b14
    rw [sl_1, if_pos (Int32.le_refl _)]; rfl
  | w :: ws, j, idx, G, hd, hj, hw, hi, hG => by
    rw [List.length_cons] at hi hG
    obtain ⟨G, rfl⟩ : ∃ G', G = G' + 1 := ⟨G - 1, by omega⟩
    have n9 := hx.1
    have fl : (flat (w :: ws)).length = w.length + 1 + (flat ws).length := by
      rw [flat, List.length_append, List.length_cons]; omega
    rw [fl] at hj
    have we := m_wend (F := F) (sz := nI n) (tk := tk) (fr := nI q) (en := nI e) (v2 := nI idx) (v3 := nI (1 + j)) (g := g) w (flat ws) j F hd (hw w List.mem_cons_self) (by omega)
    have next : (flat wdM).drop (j + w.length + 1) = flat ws := by
      have : (flat wdM).drop (j + (w.length + 1)) = ((flat wdM).drop j).drop (w.length + 1) := by rw [List.drop_drop]
      rw [show j + w.length + 1 = j + (w.length + 1) by omega, this, hd, flat, List.drop_append, List.drop_eq_nil_of_le (by omega), show w.length + 1 - w.length = 1 by omega]; rfl
    have ih := m_iw (F := F) (tk := tk) hx hq he hF ws (j + w.length + 1) (idx + 1) G next (by omega) (fun v hv => hw v (List.mem_cons_of_mem _ hv)) (by omega) (by omega)
    have e1 : 1 + j + w.length - (1 + j) = w.length := by omega
    have e3 : 1 + j + w.length + 1 = 1 + (j + w.length + 1) := by omega
    rw [fkw]
    by_cases hl : w.length = e - q
    · have wc := m_wcmp (F := F) (q := q) (j0 := j) (tk := tk) (en := nI e) (v2 := nI idx) hx (by omega) w (flat ws) 0 F hd (by omega) (by omega)
      rw [hl, Nat.add_zero, Nat.add_zero, ← hl] at wc
      by_cases z : txt B (e - q) q = w
      · rw [if_pos z]
        rw [hl, if_pos z, ← hl] at wc
        have b : X12_inWords_b14 F (nI n) tk (nI q) (nI e) g (nI idx, nI (1 + j)) = some (.inr (.inl (nI idx))) := by
          unfold X12_inWords_b14 X12_inWords_j63 X12_inWords_j115
          simp (disch := omega) only [l_0, l_1, l_2, l_3, l_4, l_5, l_6, l_7, l_8, l_9, l_10, l_11, l_12, l_13, l_14, l_15, l_16, l_17, l_18, l_19, l_20, l_21, l_22, l_23, l_24, l_25, l_26, l_27, l_30, l_31, l_32, l_40, l_48, l_57, l_59, l_60, l_61, l_62, l_64, l_83, l_90, l_97, l_99, l_100, l_108, l_115, l_122, l_123, l_127, l_128, l_131, l_135, l_200, l_255, l_256, l_300, l_487, l_495, l_900, l_999, l_1000, l_1700, l_1792, l_1980, l_2048, l_2475, l_2970, l_3121, l_9999, l_10000, l_11351, l_65536, l_100000, l_1000000, ↓l_m1, l_neg, nI_add, pk_mul, pk_sub, q_leT, q_leF, q_ltT, q_ltF, q_eqT, q_eqF, q_m1e, q_m1e2, q_m1lt, q_m1le, q_m1nl, q_m1nle, q_m1s, q_ix, q_jat, q_jput, q_min1, q_min2, q_max1, q_max2, q_or0, q_0or, q_bs, if_true, if_false, true_and, and_true, false_and, and_false, not_true_eq_false, not_false_eq_true, eq_self, Bool.false_eq_true, q_z0, q_z1, sl_1, we, e1, hl]
          rw [← hl, wc]
          simp (disch := omega) only [l_0, l_1, l_2, l_3, l_4, l_5, l_6, l_7, l_8, l_9, l_10, l_11, l_12, l_13, l_14, l_15, l_16, l_17, l_18, l_19, l_20, l_21, l_22, l_23, l_24, l_25, l_26, l_27, l_30, l_31, l_32, l_40, l_48, l_57, l_59, l_60, l_61, l_62, l_64, l_83, l_90, l_97, l_99, l_100, l_108, l_115, l_122, l_123, l_127, l_128, l_131, l_135, l_200, l_255, l_256, l_300, l_487, l_495, l_900, l_999, l_1000, l_1700, l_1792, l_1980, l_2048, l_2475, l_2970, l_3121, l_9999, l_10000, l_11351, l_65536, l_100000, l_1000000, ↓l_m1, l_neg, nI_add, pk_mul, pk_sub, q_leT, q_leF, q_ltT, q_ltF, q_eqT, q_eqF, q_m1e, q_m1e2, q_m1lt, q_m1le, q_m1nl, q_m1nle, q_m1s, q_ix, q_jat, q_jput, q_min1, q_min2, q_max1, q_max2, q_or0, q_0or, q_bs, if_true, if_false, true_and, and_true, false_and, and_false, not_true_eq_false, not_false_eq_true, eq_self, Bool.false_eq_true, q_z0, q_z1]
        rw [iter_r b]
      · rw [if_neg z]
        rw [hl, if_neg z, ← hl] at wc
        have b : X12_inWords_b14 F (nI n) tk (nI q) (nI e) g (nI idx, nI (1 + j)) = some (.inl (nI (idx + 1), nI (1 + (j + w.length + 1)))) := by
          unfold X12_inWords_b14 X12_inWords_j63 X12_inWords_j115
          simp (disch := omega) only [l_0, l_1, l_2, l_3, l_4, l_5, l_6, l_7, l_8, l_9, l_10, l_11, l_12, l_13, l_14, l_15, l_16, l_17, l_18, l_19, l_20, l_21, l_22, l_23, l_24, l_25, l_26, l_27, l_30, l_31, l_32, l_40, l_48, l_57, l_59, l_60, l_61, l_62, l_64, l_83, l_90, l_97, l_99, l_100, l_108, l_115, l_122, l_123, l_127, l_128, l_131, l_135, l_200, l_255, l_256, l_300, l_487, l_495, l_900, l_999, l_1000, l_1700, l_1792, l_1980, l_2048, l_2475, l_2970, l_3121, l_9999, l_10000, l_11351, l_65536, l_100000, l_1000000, ↓l_m1, l_neg, nI_add, pk_mul, pk_sub, q_leT, q_leF, q_ltT, q_ltF, q_eqT, q_eqF, q_m1e, q_m1e2, q_m1lt, q_m1le, q_m1nl, q_m1nle, q_m1s, q_ix, q_jat, q_jput, q_min1, q_min2, q_max1, q_max2, q_or0, q_0or, q_bs, if_true, if_false, true_and, and_true, false_and, and_false, not_true_eq_false, not_false_eq_true, eq_self, Bool.false_eq_true, q_z0, q_z1, sl_1, we, e1, hl]
          rw [← hl, wc]
          simp (disch := omega) only [l_0, l_1, l_2, l_3, l_4, l_5, l_6, l_7, l_8, l_9, l_10, l_11, l_12, l_13, l_14, l_15, l_16, l_17, l_18, l_19, l_20, l_21, l_22, l_23, l_24, l_25, l_26, l_27, l_30, l_31, l_32, l_40, l_48, l_57, l_59, l_60, l_61, l_62, l_64, l_83, l_90, l_97, l_99, l_100, l_108, l_115, l_122, l_123, l_127, l_128, l_131, l_135, l_200, l_255, l_256, l_300, l_487, l_495, l_900, l_999, l_1000, l_1700, l_1792, l_1980, l_2048, l_2475, l_2970, l_3121, l_9999, l_10000, l_11351, l_65536, l_100000, l_1000000, ↓l_m1, l_neg, nI_add, pk_mul, pk_sub, q_leT, q_leF, q_ltT, q_ltF, q_eqT, q_eqF, q_m1e, q_m1e2, q_m1lt, q_m1le, q_m1nl, q_m1nle, q_m1s, q_ix, q_jat, q_jput, q_min1, q_min2, q_max1, q_max2, q_or0, q_0or, q_bs, if_true, if_false, true_and, and_true, false_and, and_false, not_true_eq_false, not_false_eq_true, eq_self, Bool.false_eq_true, q_z0, q_z1, e3]
        rw [iter_l b, ih]
    · have tl := txt_len B (e - q) q
      have z : ¬ txt B (e - q) q = w := fun y => hl (by rw [← y, tl])
      rw [if_neg z]
      have b68 : iter (X12_inWords_b68 F (nI n) tk (nI q) (nI e) g (nI idx) (nI (1 + j)) (nI (1 + j + w.length))) F (nI 0, nI (1 + j)) = some (nI 0) := by
        obtain ⟨G, rfl⟩ : ∃ G', F = G' + 1 := ⟨F - 1, by omega⟩
        refine iter_r ?_ G
        unfold X12_inWords_b68
        by_cases y : 1 + j + w.length ≤ 1 + j
        · simp (disch := omega) only [l_0, l_1, l_2, l_3, l_4, l_5, l_6, l_7, l_8, l_9, l_10, l_11, l_12, l_13, l_14, l_15, l_16, l_17, l_18, l_19, l_20, l_21, l_22, l_23, l_24, l_25, l_26, l_27, l_30, l_31, l_32, l_40, l_48, l_57, l_59, l_60, l_61, l_62, l_64, l_83, l_90, l_97, l_99, l_100, l_108, l_115, l_122, l_123, l_127, l_128, l_131, l_135, l_200, l_255, l_256, l_300, l_487, l_495, l_900, l_999, l_1000, l_1700, l_1792, l_1980, l_2048, l_2475, l_2970, l_3121, l_9999, l_10000, l_11351, l_65536, l_100000, l_1000000, ↓l_m1, l_neg, nI_add, pk_mul, pk_sub, q_leT, q_leF, q_ltT, q_ltF, q_eqT, q_eqF, q_m1e, q_m1e2, q_m1lt, q_m1le, q_m1nl, q_m1nle, q_m1s, q_ix, q_jat, q_jput, q_min1, q_min2, q_max1, q_max2, q_or0, q_0or, q_bs, if_true, if_false, true_and, and_true, false_and, and_false, not_true_eq_false, not_false_eq_true, eq_self, Bool.false_eq_true, q_z0, q_z1]
        · simp (disch := omega) only [l_0, l_1, l_2, l_3, l_4, l_5, l_6, l_7, l_8, l_9, l_10, l_11, l_12, l_13, l_14, l_15, l_16, l_17, l_18, l_19, l_20, l_21, l_22, l_23, l_24, l_25, l_26, l_27, l_30, l_31, l_32, l_40, l_48, l_57, l_59, l_60, l_61, l_62, l_64, l_83, l_90, l_97, l_99, l_100, l_108, l_115, l_122, l_123, l_127, l_128, l_131, l_135, l_200, l_255, l_256, l_300, l_487, l_495, l_900, l_999, l_1000, l_1700, l_1792, l_1980, l_2048, l_2475, l_2970, l_3121, l_9999, l_10000, l_11351, l_65536, l_100000, l_1000000, ↓l_m1, l_neg, nI_add, pk_mul, pk_sub, q_leT, q_leF, q_ltT, q_ltF, q_eqT, q_eqF, q_m1e, q_m1e2, q_m1lt, q_m1le, q_m1nl, q_m1nle, q_m1s, q_ix, q_jat, q_jput, q_min1, q_min2, q_max1, q_max2, q_or0, q_0or, q_bs, if_true, if_false, true_and, and_true, false_and, and_false, not_true_eq_false, not_false_eq_true, eq_self, Bool.false_eq_true, q_z0, q_z1]
      have b : X12_inWords_b14 F (nI n) tk (nI q) (nI e) g (nI idx, nI (1 + j)) = some (.inl (nI (idx + 1), nI (1 + (j + w.length + 1)))) := by
        unfold X12_inWords_b14 X12_inWords_j63 X12_inWords_j115
        simp (disch := omega) only [l_0, l_1, l_2, l_3, l_4, l_5, l_6, l_7, l_8, l_9, l_10, l_11, l_12, l_13, l_14, l_15, l_16, l_17, l_18, l_19, l_20, l_21, l_22, l_23, l_24, l_25, l_26, l_27, l_30, l_31, l_32, l_40, l_48, l_57, l_59, l_60, l_61, l_62, l_64, l_83, l_90, l_97, l_99, l_100, l_108, l_115, l_122, l_123, l_127, l_128, l_131, l_135, l_200, l_255, l_256, l_300, l_487, l_495, l_900, l_999, l_1000, l_1700, l_1792, l_1980, l_2048, l_2475, l_2970, l_3121, l_9999, l_10000, l_11351, l_65536, l_100000, l_1000000, ↓l_m1, l_neg, nI_add, pk_mul, pk_sub, q_leT, q_leF, q_ltT, q_ltF, q_eqT, q_eqF, q_m1e, q_m1e2, q_m1lt, q_m1le, q_m1nl, q_m1nle, q_m1s, q_ix, q_jat, q_jput, q_min1, q_min2, q_max1, q_max2, q_or0, q_0or, q_bs, if_true, if_false, true_and, and_true, false_and, and_false, not_true_eq_false, not_false_eq_true, eq_self, Bool.false_eq_true, q_z0, q_z1, sl_1, we, e1, b68, e3]
      rw [iter_l b, ih]
theorem m_inWords {F n q e : Nat} {B : Nat → Nat} {f g : Nat → Int32} (hx : TX n B f g) (hq : q ≤ e) (he : e ≤ n) (hF : 2000 < F) : X12_inWords F (nI n) (nI 2) (nI q) (nI e) g = some (oI (pm (wno B q e))) := by
  have it := m_iw (F := F) (tk := nI 2) hx hq he hF wdM 0 0 F List.drop_zero (by rw [kw_ln]) (fun w hw c hc => (kw_ok w hw c hc).1) (by decide) (by have : wdM.length = 25 := rfl; omega)
  rw [words_eq] at it
  unfold X12_inWords wno
  rw [if_pos (show nI 2 = (2 : Int32) from rfl), show ((0 : Int32), (1 : Int32)) = (nI 0, nI (1 + 0)) from rfl, it, q_bs]
  cases pm (fnd wdC (txt B (e - q) q) 1) <;> rfl
theorem m_inWords0 {F : Nat} {sz tk fr en : Int32} {g : Nat → Int32} (h : tk ≠ 2) : X12_inWords F sz tk fr en g = some m1 := by
  unfold X12_inWords
  rw [if_neg h]; rfl
