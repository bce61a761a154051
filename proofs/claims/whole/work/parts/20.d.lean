/-! ===== PURE 20.d: what is taken, token by token ===== -/
abbrev cSt : Type := Int32 × Int32 × Int32 × Int32 × Int64
abbrev mTk : Type := Int32 × Int32 × Int32 × Int32
def TkR (n : Nat) (B : Nat → Nat) (q kd e v : Nat) (cs : cSt) (ms : mTk) : Prop := (∃ p, Tok n B p q kd e v) ∧ cs.1 = nI q ∧ cs.2.2.1 = nI kd ∧ CTk B q kd e v cs.2.1 cs.2.2.2.1 cs.2.2.2.2 ∧ ms.1 = nI (mtk kd) ∧ ms.2.1 = nI q ∧ MTk kd e v ms.2.2.1 ms.2.2.2
theorem tk_bnd {n q kd e v : Nat} {B : Nat → Nat} {cs : cSt} {ms : mTk} (h : TkR n B q kd e v cs ms) : q ≤ n ∧ kd ≤ 4 ∧ (kd ≠ 4 → e ≤ n ∧ q ≤ e) ∧ (kd ≠ 4 → kd ≠ 0 → q < e) ∧ (kd = 0 → q = n) := by
  obtain ⟨⟨p, h1, h2, h3⟩, _⟩ := h
  rcases h3 with h3 | h3 | h3 | h3 | h3 <;> omega
theorem s_adv {F n q kd e v : Nat} {B : Nat → Nat} {f g : Nat → Int32} {cs : cSt} {ms : mTk} (hx : TX n B f g) (h : TkR n B q kd e v cs ms) (hk : kd ≠ 4) (hF : 2000 < F) :
    ∃ q' kd' e' v' cs' ms', X8_advance F (nI n) cs.1 cs.2.1 cs.2.2.1 cs.2.2.2.1 cs.2.2.2.2 f = some cs' ∧ X12_ahead F (nI n) ms.1 ms.2.1 ms.2.2.1 ms.2.2.2 g = some ms' ∧ TkR n B q' kd' e' v' cs' ms' ∧ e ≤ q' := by
  have b := tk_bnd h
  obtain ⟨⟨p, tk⟩, h1, h2, h3, h4, h5, h6⟩ := h
  obtain ⟨q', kd', e', v', t1, t2, t3⟩ := adv (F := F) hx (b.2.2.1 hk).1 hF
  obtain ⟨nx, val, cd, c1, c2⟩ := t2 cs.1 cs.2.2.1 cs.2.2.2.1 cs.2.2.2.2
  obtain ⟨en, vl, m1', m2⟩ := t3 ms.1 ms.2.1 ms.2.2.2
  refine ⟨q', kd', e', v', (nI q', nx, nI kd', val, cd), (nI (mtk kd'), nI q', en, vl), ?_, ?_, ⟨⟨e, t1⟩, rfl, rfl, c2, rfl, rfl, m2⟩, t1.1⟩
  · rw [h3.1 hk]; exact c1
  · rw [h6.1 hk]; exact m1'
def fk (kd k : Nat) : Nat := if kd = 4 then 1 else k
theorem q_fails {tk fr fp : Int32} {kd q k : Nat} (h1 : tk = nI (mtk kd)) (h2 : fr = nI q) (hk : kd ≤ 4) (k9 : k < 10) : X12_fails tk fr fp (nI 0) (nI k) = some (nI 0, nI q, nI (fk kd k)) := by
  subst h1; subst h2
  unfold X12_fails X12_fails_j21 fk mtk
  rcases (show kd = 0 ∨ kd = 1 ∨ kd = 2 ∨ kd = 3 ∨ kd = 4 by omega) with rfl | rfl | rfl | rfl | rfl <;> rfl
theorem q_here {pl so fp : Int32} {kd q : Nat} (h1 : pl = nI q) (h2 : so = nI kd) (hk : kd ≤ 4) : X8_failHere pl so (nI 0) fp = some (nI (fk kd 2), nI q) := by
  subst h1; subst h2
  unfold X8_failHere X8_failHere_j14 X8_fail fk
  by_cases z : kd = 4
  · subst z; rfl
  · rw [if_neg z]; simp (disch := omega) only [l_0, l_1, l_2, l_3, l_4, l_5, l_6, l_7, l_8, l_9, l_10, l_11, l_12, l_13, l_14, l_15, l_16, l_17, l_18, l_19, l_20, l_21, l_22, l_23, l_24, l_25, l_26, l_27, l_30, l_31, l_32, l_40, l_48, l_57, l_59, l_60, l_61, l_62, l_64, l_83, l_90, l_97, l_99, l_100, l_108, l_115, l_122, l_123, l_127, l_128, l_131, l_135, l_200, l_255, l_256, l_300, l_487, l_495, l_900, l_999, l_1000, l_1700, l_1792, l_1980, l_2048, l_2475, l_2970, l_3121, l_9999, l_10000, l_11351, l_65536, l_100000, l_1000000, ↓l_m1, l_neg, nI_add, pk_mul, pk_sub, q_leT, q_leF, q_ltT, q_ltF, q_eqT, q_eqF, q_m1e, q_m1e2, q_m1lt, q_m1le, q_m1nl, q_m1nle, q_m1s, q_ix, q_jat, q_jput, q_min1, q_min2, q_max1, q_max2, q_or0, q_0or, q_bs, if_true, if_false, true_and, and_true, false_and, and_false, not_true_eq_false, not_false_eq_true, eq_self, Bool.false_eq_true, q_z0, q_z1]
theorem q_fail {pl fp : Int32} {q k : Nat} (h1 : pl = nI q) : X8_fail pl (nI 0) fp (nI k) = some (nI k, nI q) := by
  subst h1; unfold X8_fail; rw [if_pos (show nI 0 = (0 : Int32) from rfl)]
theorem fk_b {kd k : Nat} (h1 : 1 ≤ k) (h7 : k ≤ 7) : 1 ≤ fk kd k ∧ fk kd k ≤ 7 := by
  unfold fk
  by_cases z : kd = 4
  · rw [if_pos z]; omega
  · rw [if_neg z]; omega
/-! once there is a fault nothing is taken any more -/
section FF
variable {F k : Nat} {n a b c d fp : Int32} {cd : Int64} {f : Nat → Int32}
theorem f_word (w : Int32) (h1 : 1 ≤ k) (h7 : k ≤ 7) : X8_takeWord F n a b c d cd (nI k) fp f w = some (a, b, c, d, cd, nI k, fp) := by
  unfold X8_takeWord; simp (disch := omega) only [l_0, l_1, l_2, l_3, l_4, l_5, l_6, l_7, l_8, l_9, l_10, l_11, l_12, l_13, l_14, l_15, l_16, l_17, l_18, l_19, l_20, l_21, l_22, l_23, l_24, l_25, l_26, l_27, l_30, l_31, l_32, l_40, l_48, l_57, l_59, l_60, l_61, l_62, l_64, l_83, l_90, l_97, l_99, l_100, l_108, l_115, l_122, l_123, l_127, l_128, l_131, l_135, l_200, l_255, l_256, l_300, l_487, l_495, l_900, l_999, l_1000, l_1700, l_1792, l_1980, l_2048, l_2475, l_2970, l_3121, l_9999, l_10000, l_11351, l_65536, l_100000, l_1000000, ↓l_m1, l_neg, nI_add, pk_mul, pk_sub, q_leT, q_leF, q_ltT, q_ltF, q_eqT, q_eqF, q_m1e, q_m1e2, q_m1lt, q_m1le, q_m1nl, q_m1nle, q_m1s, q_ix, q_jat, q_jput, q_min1, q_min2, q_max1, q_max2, q_or0, q_0or, q_bs, if_true, if_false, true_and, and_true, false_and, and_false, not_true_eq_false, not_false_eq_true, eq_self, Bool.false_eq_true, q_z0, q_z1]
theorem f_end (h1 : 1 ≤ k) (h7 : k ≤ 7) : X8_takeEnd F n a b c d cd (nI k) fp f = some (a, b, c, d, cd, nI k, fp) := by
  unfold X8_takeEnd; simp (disch := omega) only [l_0, l_1, l_2, l_3, l_4, l_5, l_6, l_7, l_8, l_9, l_10, l_11, l_12, l_13, l_14, l_15, l_16, l_17, l_18, l_19, l_20, l_21, l_22, l_23, l_24, l_25, l_26, l_27, l_30, l_31, l_32, l_40, l_48, l_57, l_59, l_60, l_61, l_62, l_64, l_83, l_90, l_97, l_99, l_100, l_108, l_115, l_122, l_123, l_127, l_128, l_131, l_135, l_200, l_255, l_256, l_300, l_487, l_495, l_900, l_999, l_1000, l_1700, l_1792, l_1980, l_2048, l_2475, l_2970, l_3121, l_9999, l_10000, l_11351, l_65536, l_100000, l_1000000, ↓l_m1, l_neg, nI_add, pk_mul, pk_sub, q_leT, q_leF, q_ltT, q_ltF, q_eqT, q_eqF, q_m1e, q_m1e2, q_m1lt, q_m1le, q_m1nl, q_m1nle, q_m1s, q_ix, q_jat, q_jput, q_min1, q_min2, q_max1, q_max2, q_or0, q_0or, q_bs, if_true, if_false, true_and, and_true, false_and, and_false, not_true_eq_false, not_false_eq_true, eq_self, Bool.false_eq_true, q_z0, q_z1]
theorem f_num (x y : Int32) (h1 : 1 ≤ k) (h7 : k ≤ 7) : X8_takeNumber F n a b c d cd (nI k) fp f x y = some (x, a, b, c, d, cd, nI k, fp) := by
  unfold X8_takeNumber; simp (disch := omega) only [l_0, l_1, l_2, l_3, l_4, l_5, l_6, l_7, l_8, l_9, l_10, l_11, l_12, l_13, l_14, l_15, l_16, l_17, l_18, l_19, l_20, l_21, l_22, l_23, l_24, l_25, l_26, l_27, l_30, l_31, l_32, l_40, l_48, l_57, l_59, l_60, l_61, l_62, l_64, l_83, l_90, l_97, l_99, l_100, l_108, l_115, l_122, l_123, l_127, l_128, l_131, l_135, l_200, l_255, l_256, l_300, l_487, l_495, l_900, l_999, l_1000, l_1700, l_1792, l_1980, l_2048, l_2475, l_2970, l_3121, l_9999, l_10000, l_11351, l_65536, l_100000, l_1000000, ↓l_m1, l_neg, nI_add, pk_mul, pk_sub, q_leT, q_leF, q_ltT, q_ltF, q_eqT, q_eqF, q_m1e, q_m1e2, q_m1lt, q_m1le, q_m1nl, q_m1nle, q_m1s, q_ix, q_jat, q_jput, q_min1, q_min2, q_max1, q_max2, q_or0, q_0or, q_bs, if_true, if_false, true_and, and_true, false_and, and_false, not_true_eq_false, not_false_eq_true, eq_self, Bool.false_eq_true, q_z0, q_z1]
theorem f_new (m : Int32) (co : Nat → Int64) (h1 : 1 ≤ k) (h7 : k ≤ 7) : X8_takeNewName F n a b c d cd (nI k) fp f m co = some (lN 0, a, b, c, d, cd, nI k, fp) := by
  unfold X8_takeNewName; simp (disch := omega) only [l_0, l_1, l_2, l_3, l_4, l_5, l_6, l_7, l_8, l_9, l_10, l_11, l_12, l_13, l_14, l_15, l_16, l_17, l_18, l_19, l_20, l_21, l_22, l_23, l_24, l_25, l_26, l_27, l_30, l_31, l_32, l_40, l_48, l_57, l_59, l_60, l_61, l_62, l_64, l_83, l_90, l_97, l_99, l_100, l_108, l_115, l_122, l_123, l_127, l_128, l_131, l_135, l_200, l_255, l_256, l_300, l_487, l_495, l_900, l_999, l_1000, l_1700, l_1792, l_1980, l_2048, l_2475, l_2970, l_3121, l_9999, l_10000, l_11351, l_65536, l_100000, l_1000000, ↓l_m1, l_neg, nI_add, pk_mul, pk_sub, q_leT, q_leF, q_ltT, q_ltF, q_eqT, q_eqF, q_m1e, q_m1e2, q_m1lt, q_m1le, q_m1nl, q_m1nle, q_m1s, q_ix, q_jat, q_jput, q_min1, q_min2, q_max1, q_max2, q_or0, q_0or, q_bs, if_true, if_false, true_and, and_true, false_and, and_false, not_true_eq_false, not_false_eq_true, eq_self, Bool.false_eq_true, q_z0, q_z1]; rfl
theorem f_look (m : Int32) (co : Nat → Int64) (so nu : Nat → Int32) (s : Int32) (h1 : 1 ≤ k) (h7 : k ≤ 7) : X8_lookAtName F a c cd (nI k) fp m co so nu s = some (nI 0, nI k, fp) := by
  unfold X8_lookAtName; simp (disch := omega) only [l_0, l_1, l_2, l_3, l_4, l_5, l_6, l_7, l_8, l_9, l_10, l_11, l_12, l_13, l_14, l_15, l_16, l_17, l_18, l_19, l_20, l_21, l_22, l_23, l_24, l_25, l_26, l_27, l_30, l_31, l_32, l_40, l_48, l_57, l_59, l_60, l_61, l_62, l_64, l_83, l_90, l_97, l_99, l_100, l_108, l_115, l_122, l_123, l_127, l_128, l_131, l_135, l_200, l_255, l_256, l_300, l_487, l_495, l_900, l_999, l_1000, l_1700, l_1792, l_1980, l_2048, l_2475, l_2970, l_3121, l_9999, l_10000, l_11351, l_65536, l_100000, l_1000000, ↓l_m1, l_neg, nI_add, pk_mul, pk_sub, q_leT, q_leF, q_ltT, q_ltF, q_eqT, q_eqF, q_m1e, q_m1e2, q_m1lt, q_m1le, q_m1nl, q_m1nle, q_m1s, q_ix, q_jat, q_jput, q_min1, q_min2, q_max1, q_max2, q_or0, q_0or, q_bs, if_true, if_false, true_and, and_true, false_and, and_false, not_true_eq_false, not_false_eq_true, eq_self, Bool.false_eq_true, q_z0, q_z1]
theorem f_name (m : Int32) (co : Nat → Int64) (so nu : Nat → Int32) (s : Int32) (h1 : 1 ≤ k) (h7 : k ≤ 7) : X8_takeName F n a b c d cd (nI k) fp f m co so nu s = some (nI 0, a, b, c, d, cd, nI k, fp) := by
  unfold X8_takeName; simp (disch := omega) only [l_0, l_1, l_2, l_3, l_4, l_5, l_6, l_7, l_8, l_9, l_10, l_11, l_12, l_13, l_14, l_15, l_16, l_17, l_18, l_19, l_20, l_21, l_22, l_23, l_24, l_25, l_26, l_27, l_30, l_31, l_32, l_40, l_48, l_57, l_59, l_60, l_61, l_62, l_64, l_83, l_90, l_97, l_99, l_100, l_108, l_115, l_122, l_123, l_127, l_128, l_131, l_135, l_200, l_255, l_256, l_300, l_487, l_495, l_900, l_999, l_1000, l_1700, l_1792, l_1980, l_2048, l_2475, l_2970, l_3121, l_9999, l_10000, l_11351, l_65536, l_100000, l_1000000, ↓l_m1, l_neg, nI_add, pk_mul, pk_sub, q_leT, q_leF, q_ltT, q_ltF, q_eqT, q_eqF, q_m1e, q_m1e2, q_m1lt, q_m1le, q_m1nl, q_m1nle, q_m1s, q_ix, q_jat, q_jput, q_min1, q_min2, q_max1, q_max2, q_or0, q_0or, q_bs, if_true, if_false, true_and, and_true, false_and, and_false, not_true_eq_false, not_false_eq_true, eq_self, Bool.false_eq_true, q_z0, q_z1, f_look m co so nu s h1 h7]
theorem f_cmp (h1 : 1 ≤ k) (h7 : k ≤ 7) : X8_takeCompare F n a b c d cd (nI k) fp f = some (nI 0, a, b, c, d, cd, nI k, fp) := by
  unfold X8_takeCompare; simp (disch := omega) only [l_0, l_1, l_2, l_3, l_4, l_5, l_6, l_7, l_8, l_9, l_10, l_11, l_12, l_13, l_14, l_15, l_16, l_17, l_18, l_19, l_20, l_21, l_22, l_23, l_24, l_25, l_26, l_27, l_30, l_31, l_32, l_40, l_48, l_57, l_59, l_60, l_61, l_62, l_64, l_83, l_90, l_97, l_99, l_100, l_108, l_115, l_122, l_123, l_127, l_128, l_131, l_135, l_200, l_255, l_256, l_300, l_487, l_495, l_900, l_999, l_1000, l_1700, l_1792, l_1980, l_2048, l_2475, l_2970, l_3121, l_9999, l_10000, l_11351, l_65536, l_100000, l_1000000, ↓l_m1, l_neg, nI_add, pk_mul, pk_sub, q_leT, q_leF, q_ltT, q_ltF, q_eqT, q_eqF, q_m1e, q_m1e2, q_m1lt, q_m1le, q_m1nl, q_m1nle, q_m1s, q_ix, q_jat, q_jput, q_min1, q_min2, q_max1, q_max2, q_or0, q_0or, q_bs, if_true, if_false, true_and, and_true, false_and, and_false, not_true_eq_false, not_false_eq_true, eq_self, Bool.false_eq_true, q_z0, q_z1]
end FF
theorem s_word {F n q kd e v c : Nat} {B : Nat → Nat} {f g : Nat → Int32} {cs : cSt} {ms : mTk} (fp mfp : Int32) (hx : TX n B f g) (h : TkR n B q kd e v cs ms) (hc1 : 1 ≤ c) (hc : c ≤ 25) (hF : 2000 < F) :
    (∃ q' kd' e' v' cs' ms', X8_takeWord F (nI n) cs.1 cs.2.1 cs.2.2.1 cs.2.2.2.1 cs.2.2.2.2 (nI 0) fp f (nI c) = some (cs'.1, cs'.2.1, cs'.2.2.1, cs'.2.2.2.1, cs'.2.2.2.2, nI 0, fp) ∧ X12_wantWord F (nI n) ms.1 ms.2.1 ms.2.2.1 ms.2.2.2 mfp (nI 0) g (nI (perm.getD (c - 1) 0)) = some (nI 1, ms'.1, ms'.2.1, ms'.2.2.1, ms'.2.2.2, mfp, nI 0) ∧ TkR n B q' kd' e' v' cs' ms' ∧ q < q') ∨
    (∃ k, 1 ≤ k ∧ k ≤ 7 ∧ X8_takeWord F (nI n) cs.1 cs.2.1 cs.2.2.1 cs.2.2.2.1 cs.2.2.2.2 (nI 0) fp f (nI c) = some (cs.1, cs.2.1, cs.2.2.1, cs.2.2.2.1, cs.2.2.2.2, nI k, nI q) ∧ X12_wantWord F (nI n) ms.1 ms.2.1 ms.2.2.1 ms.2.2.2 mfp (nI 0) g (nI (perm.getD (c - 1) 0)) = some (nI 0, ms.1, ms.2.1, ms.2.2.1, ms.2.2.2, nI q, nI k)) := by
  have b := tk_bnd h
  have h' := h
  obtain ⟨⟨p, tk⟩, h1, h2, h3, h4, h5, h6⟩ := h
  have fl := q_fails (fp := mfp) (k := 2) h4 h5 b.2.1 (by omega)
  have fh := q_here (fp := fp) h1 h2 b.2.1
  have pl : perm.getD (c - 1) 0 < 25 := by
    have : ∀ i, i < 25 → perm.getD i 0 < 25 := by decide
    exact this _ (by omega)
  have f7 := fk_b (kd := kd) (k := 2) (by omega) (by omega)
  by_cases k1 : kd = 1
  · subst k1
    have qe : q < e := b.2.2.2.1 (by omega) (by omega)
    have en : e ≤ n := (b.2.2.1 (by omega)).1
    have iw := m_inWords (F := F) hx (show q ≤ e by omega) en hF
    rw [← h5, ← h6.1 (by omega)] at iw
    have iw' : X12_inWords F (nI n) ms.1 ms.2.1 ms.2.2.1 g = some (oI (pm (wno B q e))) := by rw [h4]; exact iw
    have wl : wno B q e ≤ 25 := words_le _
    by_cases z : wno B q e = c
    · left
      obtain ⟨q', kd', e', v', cs', ms', a1, a2, a3, a4⟩ := s_adv (F := F) hx h' (by omega) hF
      refine ⟨q', kd', e', v', cs', ms', ?_, ?_, a3, by omega⟩
      · unfold X8_takeWord
        rw [h2, (h3.2.1 rfl).1, z] at a1 ⊢
        simp (disch := omega) only [l_0, l_1, l_2, l_3, l_4, l_5, l_6, l_7, l_8, l_9, l_10, l_11, l_12, l_13, l_14, l_15, l_16, l_17, l_18, l_19, l_20, l_21, l_22, l_23, l_24, l_25, l_26, l_27, l_30, l_31, l_32, l_40, l_48, l_57, l_59, l_60, l_61, l_62, l_64, l_83, l_90, l_97, l_99, l_100, l_108, l_115, l_122, l_123, l_127, l_128, l_131, l_135, l_200, l_255, l_256, l_300, l_487, l_495, l_900, l_999, l_1000, l_1700, l_1792, l_1980, l_2048, l_2475, l_2970, l_3121, l_9999, l_10000, l_11351, l_65536, l_100000, l_1000000, ↓l_m1, l_neg, nI_add, pk_mul, pk_sub, q_leT, q_leF, q_ltT, q_ltF, q_eqT, q_eqF, q_m1e, q_m1e2, q_m1lt, q_m1le, q_m1nl, q_m1nle, q_m1s, q_ix, q_jat, q_jput, q_min1, q_min2, q_max1, q_max2, q_or0, q_0or, q_bs, if_true, if_false, true_and, and_true, false_and, and_false, not_true_eq_false, not_false_eq_true, eq_self, Bool.false_eq_true, q_z0, q_z1, a1]
      · have e1 : oI (pm (wno B q e)) = nI (perm.getD (c - 1) 0) := by
          rw [z]; unfold pm; rw [if_neg (by omega)]; rfl
        rw [e1] at iw'
        unfold X12_wantWord
        rw [iw', q_bs, if_pos rfl, a2, q_bs]; rfl
    · right
      refine ⟨fk 1 2, f7.1, f7.2, ?_, ?_⟩
      · unfold X8_takeWord X8_takeWord_j24
        have v1 := (h3.2.1 rfl).1
        rw [h2] at fh ⊢
        rw [v1]
        simp (disch := omega) only [l_0, l_1, l_2, l_3, l_4, l_5, l_6, l_7, l_8, l_9, l_10, l_11, l_12, l_13, l_14, l_15, l_16, l_17, l_18, l_19, l_20, l_21, l_22, l_23, l_24, l_25, l_26, l_27, l_30, l_31, l_32, l_40, l_48, l_57, l_59, l_60, l_61, l_62, l_64, l_83, l_90, l_97, l_99, l_100, l_108, l_115, l_122, l_123, l_127, l_128, l_131, l_135, l_200, l_255, l_256, l_300, l_487, l_495, l_900, l_999, l_1000, l_1700, l_1792, l_1980, l_2048, l_2475, l_2970, l_3121, l_9999, l_10000, l_11351, l_65536, l_100000, l_1000000, ↓l_m1, l_neg, nI_add, pk_mul, pk_sub, q_leT, q_leF, q_ltT, q_ltF, q_eqT, q_eqF, q_m1e, q_m1e2, q_m1lt, q_m1le, q_m1nl, q_m1nle, q_m1s, q_ix, q_jat, q_jput, q_min1, q_min2, q_max1, q_max2, q_or0, q_0or, q_bs, if_true, if_false, true_and, and_true, false_and, and_false, not_true_eq_false, not_false_eq_true, eq_self, Bool.false_eq_true, q_z0, q_z1, fh]
      · have e1 : ¬ oI (pm (wno B q e)) = nI (perm.getD (c - 1) 0) := by
          unfold pm
          by_cases w0 : wno B q e = 0
          · rw [if_pos w0, oI_n]
            exact fun y => nI_ne_m1 (by omega) y.symm
          · rw [if_neg w0, oI_s]
            have inj : ∀ i, i < 25 → ∀ j, j < 25 → perm.getD i 0 = perm.getD j 0 → i = j := by decide
            have p2 : perm.getD (wno B q e - 1) 0 < 25 := by
              have : ∀ i, i < 25 → perm.getD i 0 < 25 := by decide
              exact this _ (by omega)
            intro y
            have := inj _ (show wno B q e - 1 < 25 by omega) _ (show c - 1 < 25 by omega) ((nI_eq (by omega) (by omega)).mp y)
            omega
        unfold X12_wantWord
        rw [iw', q_bs, if_neg e1, show (2 : Int32) = nI 2 from rfl, fl, q_bs]; rfl
  · right
    refine ⟨fk kd 2, f7.1, f7.2, ?_, ?_⟩
    · unfold X8_takeWord X8_takeWord_j24
      rw [h2] at fh ⊢
      simp (disch := omega) only [l_0, l_1, l_2, l_3, l_4, l_5, l_6, l_7, l_8, l_9, l_10, l_11, l_12, l_13, l_14, l_15, l_16, l_17, l_18, l_19, l_20, l_21, l_22, l_23, l_24, l_25, l_26, l_27, l_30, l_31, l_32, l_40, l_48, l_57, l_59, l_60, l_61, l_62, l_64, l_83, l_90, l_97, l_99, l_100, l_108, l_115, l_122, l_123, l_127, l_128, l_131, l_135, l_200, l_255, l_256, l_300, l_487, l_495, l_900, l_999, l_1000, l_1700, l_1792, l_1980, l_2048, l_2475, l_2970, l_3121, l_9999, l_10000, l_11351, l_65536, l_100000, l_1000000, ↓l_m1, l_neg, nI_add, pk_mul, pk_sub, q_leT, q_leF, q_ltT, q_ltF, q_eqT, q_eqF, q_m1e, q_m1e2, q_m1lt, q_m1le, q_m1nl, q_m1nle, q_m1s, q_ix, q_jat, q_jput, q_min1, q_min2, q_max1, q_max2, q_or0, q_0or, q_bs, if_true, if_false, true_and, and_true, false_and, and_false, not_true_eq_false, not_false_eq_true, eq_self, Bool.false_eq_true, q_z0, q_z1, fh]
    · have m2 : ms.1 ≠ 2 := by
        rw [h4]
        unfold mtk
        intro y
        rcases (show kd = 0 ∨ kd = 2 ∨ kd = 3 ∨ kd = 4 by omega) with rfl | rfl | rfl | rfl <;> exact absurd y (by decide)
      have iw := m_inWords0 (F := F) (sz := nI n) (fr := ms.2.1) (en := ms.2.2.1) (g := g) m2
      unfold X12_wantWord
      rw [iw, q_bs, if_neg (fun y => nI_ne_m1 (by omega) y.symm), show (2 : Int32) = nI 2 from rfl, fl, q_bs]; rfl
theorem s_end {F n q kd e v : Nat} {B : Nat → Nat} {f g : Nat → Int32} {cs : cSt} {ms : mTk} (fp mfp : Int32) (hx : TX n B f g) (h : TkR n B q kd e v cs ms) (hF : 2000 < F) :
    (∃ q' kd' e' v' cs' ms', X8_takeEnd F (nI n) cs.1 cs.2.1 cs.2.2.1 cs.2.2.2.1 cs.2.2.2.2 (nI 0) fp f = some (cs'.1, cs'.2.1, cs'.2.2.1, cs'.2.2.2.1, cs'.2.2.2.2, nI 0, fp) ∧ X12_wantSign F (nI n) ms.1 ms.2.1 ms.2.2.1 ms.2.2.2 mfp (nI 0) g (nI 59) = some (nI 1, ms'.1, ms'.2.1, ms'.2.2.1, ms'.2.2.2, mfp, nI 0) ∧ TkR n B q' kd' e' v' cs' ms' ∧ q < q') ∨
    (∃ k, 1 ≤ k ∧ k ≤ 7 ∧ X8_takeEnd F (nI n) cs.1 cs.2.1 cs.2.2.1 cs.2.2.2.1 cs.2.2.2.2 (nI 0) fp f = some (cs.1, cs.2.1, cs.2.2.1, cs.2.2.2.1, cs.2.2.2.2, nI k, nI q) ∧ X12_wantSign F (nI n) ms.1 ms.2.1 ms.2.2.1 ms.2.2.2 mfp (nI 0) g (nI 59) = some (nI 0, ms.1, ms.2.1, ms.2.2.1, ms.2.2.2, nI q, nI k)) := by
  have b := tk_bnd h
  have h' := h
  obtain ⟨⟨p, tk⟩, h1, h2, h3, h4, h5, h6⟩ := h
  have fl := q_fails (fp := mfp) (k := 2) h4 h5 b.2.1 (by omega)
  have fh := q_here (fp := fp) h1 h2 b.2.1
  have f7 := fk_b (kd := kd) (k := 2) (by omega) (by omega)
  by_cases k3 : kd = 3
  · subst k3
    have v1 := h3.2.2.1 (Or.inr rfl)
    have v2 := h6.2 (Or.inr rfl)
    have v4 : v = 59 ∨ v = 60 ∨ v = 61 ∨ v = 62 := by
      rcases tk.2.2 with z | z | z | z | z
      · omega
      · omega
      · omega
      · exact z.2.2.2
      · omega
    by_cases z : v = 59
    · left
      obtain ⟨q', kd', e', v', cs', ms', a1, a2, a3, a4⟩ := s_adv (F := F) hx h' (by omega) hF
      have qe := b.2.2.2.1 (by omega) (by omega)
      refine ⟨q', kd', e', v', cs', ms', ?_, ?_, a3, by omega⟩
      · unfold X8_takeEnd
        rw [h2, v1, z] at a1 ⊢
        simp (disch := omega) only [l_0, l_1, l_2, l_3, l_4, l_5, l_6, l_7, l_8, l_9, l_10, l_11, l_12, l_13, l_14, l_15, l_16, l_17, l_18, l_19, l_20, l_21, l_22, l_23, l_24, l_25, l_26, l_27, l_30, l_31, l_32, l_40, l_48, l_57, l_59, l_60, l_61, l_62, l_64, l_83, l_90, l_97, l_99, l_100, l_108, l_115, l_122, l_123, l_127, l_128, l_131, l_135, l_200, l_255, l_256, l_300, l_487, l_495, l_900, l_999, l_1000, l_1700, l_1792, l_1980, l_2048, l_2475, l_2970, l_3121, l_9999, l_10000, l_11351, l_65536, l_100000, l_1000000, ↓l_m1, l_neg, nI_add, pk_mul, pk_sub, q_leT, q_leF, q_ltT, q_ltF, q_eqT, q_eqF, q_m1e, q_m1e2, q_m1lt, q_m1le, q_m1nl, q_m1nle, q_m1s, q_ix, q_jat, q_jput, q_min1, q_min2, q_max1, q_max2, q_or0, q_0or, q_bs, if_true, if_false, true_and, and_true, false_and, and_false, not_true_eq_false, not_false_eq_true, eq_self, Bool.false_eq_true, q_z0, q_z1, a1]
      · unfold X12_wantSign X12_isSign
        rw [h4, v2, z] at a2 ⊢
        rw [show mtk 3 = 4 from rfl] at a2 ⊢
        simp (disch := omega) only [l_0, l_1, l_2, l_3, l_4, l_5, l_6, l_7, l_8, l_9, l_10, l_11, l_12, l_13, l_14, l_15, l_16, l_17, l_18, l_19, l_20, l_21, l_22, l_23, l_24, l_25, l_26, l_27, l_30, l_31, l_32, l_40, l_48, l_57, l_59, l_60, l_61, l_62, l_64, l_83, l_90, l_97, l_99, l_100, l_108, l_115, l_122, l_123, l_127, l_128, l_131, l_135, l_200, l_255, l_256, l_300, l_487, l_495, l_900, l_999, l_1000, l_1700, l_1792, l_1980, l_2048, l_2475, l_2970, l_3121, l_9999, l_10000, l_11351, l_65536, l_100000, l_1000000, ↓l_m1, l_neg, nI_add, pk_mul, pk_sub, q_leT, q_leF, q_ltT, q_ltF, q_eqT, q_eqF, q_m1e, q_m1e2, q_m1lt, q_m1le, q_m1nl, q_m1nle, q_m1s, q_ix, q_jat, q_jput, q_min1, q_min2, q_max1, q_max2, q_or0, q_0or, q_bs, if_true, if_false, true_and, and_true, false_and, and_false, not_true_eq_false, not_false_eq_true, eq_self, Bool.false_eq_true, q_z0, q_z1, a2]
    · right
      refine ⟨fk 3 2, f7.1, f7.2, ?_, ?_⟩
      · unfold X8_takeEnd X8_takeEnd_j25
        rw [h2] at fh ⊢
        rw [v1]
        simp (disch := omega) only [l_0, l_1, l_2, l_3, l_4, l_5, l_6, l_7, l_8, l_9, l_10, l_11, l_12, l_13, l_14, l_15, l_16, l_17, l_18, l_19, l_20, l_21, l_22, l_23, l_24, l_25, l_26, l_27, l_30, l_31, l_32, l_40, l_48, l_57, l_59, l_60, l_61, l_62, l_64, l_83, l_90, l_97, l_99, l_100, l_108, l_115, l_122, l_123, l_127, l_128, l_131, l_135, l_200, l_255, l_256, l_300, l_487, l_495, l_900, l_999, l_1000, l_1700, l_1792, l_1980, l_2048, l_2475, l_2970, l_3121, l_9999, l_10000, l_11351, l_65536, l_100000, l_1000000, ↓l_m1, l_neg, nI_add, pk_mul, pk_sub, q_leT, q_leF, q_ltT, q_ltF, q_eqT, q_eqF, q_m1e, q_m1e2, q_m1lt, q_m1le, q_m1nl, q_m1nle, q_m1s, q_ix, q_jat, q_jput, q_min1, q_min2, q_max1, q_max2, q_or0, q_0or, q_bs, if_true, if_false, true_and, and_true, false_and, and_false, not_true_eq_false, not_false_eq_true, eq_self, Bool.false_eq_true, q_z0, q_z1, fh]
      · unfold X12_wantSign X12_isSign X12_isSign_j20
        rw [h4] at fl ⊢
        rw [v2]
        rw [show mtk 3 = 4 from rfl] at fl ⊢
        simp (disch := omega) only [l_0, l_1, l_2, l_3, l_4, l_5, l_6, l_7, l_8, l_9, l_10, l_11, l_12, l_13, l_14, l_15, l_16, l_17, l_18, l_19, l_20, l_21, l_22, l_23, l_24, l_25, l_26, l_27, l_30, l_31, l_32, l_40, l_48, l_57, l_59, l_60, l_61, l_62, l_64, l_83, l_90, l_97, l_99, l_100, l_108, l_115, l_122, l_123, l_127, l_128, l_131, l_135, l_200, l_255, l_256, l_300, l_487, l_495, l_900, l_999, l_1000, l_1700, l_1792, l_1980, l_2048, l_2475, l_2970, l_3121, l_9999, l_10000, l_11351, l_65536, l_100000, l_1000000, ↓l_m1, l_neg, nI_add, pk_mul, pk_sub, q_leT, q_leF, q_ltT, q_ltF, q_eqT, q_eqF, q_m1e, q_m1e2, q_m1lt, q_m1le, q_m1nl, q_m1nle, q_m1s, q_ix, q_jat, q_jput, q_min1, q_min2, q_max1, q_max2, q_or0, q_0or, q_bs, if_true, if_false, true_and, and_true, false_and, and_false, not_true_eq_false, not_false_eq_true, eq_self, Bool.false_eq_true, q_z0, q_z1, fl]
  · right
    refine ⟨fk kd 2, f7.1, f7.2, ?_, ?_⟩
    · unfold X8_takeEnd X8_takeEnd_j25
      rw [h2] at fh ⊢
      simp (disch := omega) only [l_0, l_1, l_2, l_3, l_4, l_5, l_6, l_7, l_8, l_9, l_10, l_11, l_12, l_13, l_14, l_15, l_16, l_17, l_18, l_19, l_20, l_21, l_22, l_23, l_24, l_25, l_26, l_27, l_30, l_31, l_32, l_40, l_48, l_57, l_59, l_60, l_61, l_62, l_64, l_83, l_90, l_97, l_99, l_100, l_108, l_115, l_122, l_123, l_127, l_128, l_131, l_135, l_200, l_255, l_256, l_300, l_487, l_495, l_900, l_999, l_1000, l_1700, l_1792, l_1980, l_2048, l_2475, l_2970, l_3121, l_9999, l_10000, l_11351, l_65536, l_100000, l_1000000, ↓l_m1, l_neg, nI_add, pk_mul, pk_sub, q_leT, q_leF, q_ltT, q_ltF, q_eqT, q_eqF, q_m1e, q_m1e2, q_m1lt, q_m1le, q_m1nl, q_m1nle, q_m1s, q_ix, q_jat, q_jput, q_min1, q_min2, q_max1, q_max2, q_or0, q_0or, q_bs, if_true, if_false, true_and, and_true, false_and, and_false, not_true_eq_false, not_false_eq_true, eq_self, Bool.false_eq_true, q_z0, q_z1, fh]
    · have m4 : mtk kd ≠ 4 ∧ mtk kd < 10 := by
        unfold mtk
        rcases (show kd = 0 ∨ kd = 1 ∨ kd = 2 ∨ kd = 4 by omega) with rfl | rfl | rfl | rfl <;> decide
      have m41 := m4.1
      have m42 := m4.2
      unfold X12_wantSign X12_isSign X12_isSign_j20
      rw [h4] at fl ⊢
      simp (disch := omega) only [l_0, l_1, l_2, l_3, l_4, l_5, l_6, l_7, l_8, l_9, l_10, l_11, l_12, l_13, l_14, l_15, l_16, l_17, l_18, l_19, l_20, l_21, l_22, l_23, l_24, l_25, l_26, l_27, l_30, l_31, l_32, l_40, l_48, l_57, l_59, l_60, l_61, l_62, l_64, l_83, l_90, l_97, l_99, l_100, l_108, l_115, l_122, l_123, l_127, l_128, l_131, l_135, l_200, l_255, l_256, l_300, l_487, l_495, l_900, l_999, l_1000, l_1700, l_1792, l_1980, l_2048, l_2475, l_2970, l_3121, l_9999, l_10000, l_11351, l_65536, l_100000, l_1000000, ↓l_m1, l_neg, nI_add, pk_mul, pk_sub, q_leT, q_leF, q_ltT, q_ltF, q_eqT, q_eqF, q_m1e, q_m1e2, q_m1lt, q_m1le, q_m1nl, q_m1nle, q_m1s, q_ix, q_jat, q_jput, q_min1, q_min2, q_max1, q_max2, q_or0, q_0or, q_bs, if_true, if_false, true_and, and_true, false_and, and_false, not_true_eq_false, not_false_eq_true, eq_self, Bool.false_eq_true, q_z0, q_z1, fl]
theorem s_num {F n q kd e v lo hi to : Nat} {B : Nat → Nat} {f g at0 : Nat → Int32} {cs : cSt} {ms : mTk} (fp mfp : Int32) (hx : TX n B f g) (h : TkR n B q kd e v cs ms) (hto : to < 3097) (hlo : lo ≤ hi) (hhi : hi < 20000) (hF : 2000 < F) :
    (∃ q' kd' e' v' cs' ms', lo ≤ v ∧ v ≤ hi ∧ X8_takeNumber F (nI n) cs.1 cs.2.1 cs.2.2.1 cs.2.2.2.1 cs.2.2.2.2 (nI 0) fp f (nI lo) (nI hi) = some (nI v, cs'.1, cs'.2.1, cs'.2.2.1, cs'.2.2.2.1, cs'.2.2.2.2, nI 0, fp) ∧ X12_number F (nI n) ms.1 ms.2.1 ms.2.2.1 ms.2.2.2 mfp (nI 0) at0 g (nI to) (nI lo) (nI hi) = some (nI 1, ms'.1, ms'.2.1, ms'.2.2.1, ms'.2.2.2, mfp, nI 0, upd at0 to (nI v)) ∧ TkR n B q' kd' e' v' cs' ms' ∧ q < q') ∨
    (∃ k, 1 ≤ k ∧ k ≤ 7 ∧ X8_takeNumber F (nI n) cs.1 cs.2.1 cs.2.2.1 cs.2.2.2.1 cs.2.2.2.2 (nI 0) fp f (nI lo) (nI hi) = some (nI lo, cs.1, cs.2.1, cs.2.2.1, cs.2.2.2.1, cs.2.2.2.2, nI k, nI q) ∧ X12_number F (nI n) ms.1 ms.2.1 ms.2.2.1 ms.2.2.2 mfp (nI 0) at0 g (nI to) (nI lo) (nI hi) = some (nI 0, ms.1, ms.2.1, ms.2.2.1, ms.2.2.2, nI q, nI k, at0)) := by
  have b := tk_bnd h
  have h' := h
  obtain ⟨⟨p, tk⟩, h1, h2, h3, h4, h5, h6⟩ := h
  have fl := q_fails (fp := mfp) (k := 2) h4 h5 b.2.1 (by omega)
  have fh := q_here (fp := fp) h1 h2 b.2.1
  have f7 := fk_b (kd := kd) (k := 2) (by omega) (by omega)
  by_cases k2 : kd = 2
  · subst k2
    have v1 := h3.2.2.1 (Or.inl rfl)
    have v2 := h6.2 (Or.inl rfl)
    have v4 : v < 10000 := by
      rcases tk.2.2 with z | z | z | z | z
      · omega
      · omega
      · exact z.2.2.2
      · omega
      · omega
    have fl4 := q_fails (fp := mfp) (k := 4) h4 h5 b.2.1 (by omega)
    have ff4 := q_fail (fp := fp) (k := 4) h1
    rw [show fk 2 4 = 4 from rfl] at fl4
    by_cases z : lo ≤ v ∧ v ≤ hi
    · left
      have z1 := z.1
      have z2 := z.2
      obtain ⟨q', kd', e', v', cs', ms', a1, a2, a3, a4⟩ := s_adv (F := F) hx h' (by omega) hF
      have qe := b.2.2.2.1 (by omega) (by omega)
      refine ⟨q', kd', e', v', cs', ms', z1, z2, ?_, ?_, a3, by omega⟩
      · unfold X8_takeNumber
        rw [h2, v1] at a1 ⊢
        simp (disch := omega) only [l_0, l_1, l_2, l_3, l_4, l_5, l_6, l_7, l_8, l_9, l_10, l_11, l_12, l_13, l_14, l_15, l_16, l_17, l_18, l_19, l_20, l_21, l_22, l_23, l_24, l_25, l_26, l_27, l_30, l_31, l_32, l_40, l_48, l_57, l_59, l_60, l_61, l_62, l_64, l_83, l_90, l_97, l_99, l_100, l_108, l_115, l_122, l_123, l_127, l_128, l_131, l_135, l_200, l_255, l_256, l_300, l_487, l_495, l_900, l_999, l_1000, l_1700, l_1792, l_1980, l_2048, l_2475, l_2970, l_3121, l_9999, l_10000, l_11351, l_65536, l_100000, l_1000000, ↓l_m1, l_neg, nI_add, pk_mul, pk_sub, q_leT, q_leF, q_ltT, q_ltF, q_eqT, q_eqF, q_m1e, q_m1e2, q_m1lt, q_m1le, q_m1nl, q_m1nle, q_m1s, q_ix, q_jat, q_jput, q_min1, q_min2, q_max1, q_max2, q_or0, q_0or, q_bs, if_true, if_false, true_and, and_true, false_and, and_false, not_true_eq_false, not_false_eq_true, eq_self, Bool.false_eq_true, q_z0, q_z1, a1]
      · unfold X12_number
        rw [h4, v2] at a2 ⊢
        rw [show mtk 2 = 3 from rfl] at a2 ⊢
        simp (disch := omega) only [l_0, l_1, l_2, l_3, l_4, l_5, l_6, l_7, l_8, l_9, l_10, l_11, l_12, l_13, l_14, l_15, l_16, l_17, l_18, l_19, l_20, l_21, l_22, l_23, l_24, l_25, l_26, l_27, l_30, l_31, l_32, l_40, l_48, l_57, l_59, l_60, l_61, l_62, l_64, l_83, l_90, l_97, l_99, l_100, l_108, l_115, l_122, l_123, l_127, l_128, l_131, l_135, l_200, l_255, l_256, l_300, l_487, l_495, l_900, l_999, l_1000, l_1700, l_1792, l_1980, l_2048, l_2475, l_2970, l_3121, l_9999, l_10000, l_11351, l_65536, l_100000, l_1000000, ↓l_m1, l_neg, nI_add, pk_mul, pk_sub, q_leT, q_leF, q_ltT, q_ltF, q_eqT, q_eqF, q_m1e, q_m1e2, q_m1lt, q_m1le, q_m1nl, q_m1nle, q_m1s, q_ix, q_jat, q_jput, q_min1, q_min2, q_max1, q_max2, q_or0, q_0or, q_bs, if_true, if_false, true_and, and_true, false_and, and_false, not_true_eq_false, not_false_eq_true, eq_self, Bool.false_eq_true, q_z0, q_z1, a2]
    · right
      refine ⟨4, by omega, by omega, ?_, ?_⟩
      · unfold X8_takeNumber X8_takeNumber_j39
        rw [h2, v1]
        by_cases y : v < lo
        · simp (disch := omega) only [l_0, l_1, l_2, l_3, l_4, l_5, l_6, l_7, l_8, l_9, l_10, l_11, l_12, l_13, l_14, l_15, l_16, l_17, l_18, l_19, l_20, l_21, l_22, l_23, l_24, l_25, l_26, l_27, l_30, l_31, l_32, l_40, l_48, l_57, l_59, l_60, l_61, l_62, l_64, l_83, l_90, l_97, l_99, l_100, l_108, l_115, l_122, l_123, l_127, l_128, l_131, l_135, l_200, l_255, l_256, l_300, l_487, l_495, l_900, l_999, l_1000, l_1700, l_1792, l_1980, l_2048, l_2475, l_2970, l_3121, l_9999, l_10000, l_11351, l_65536, l_100000, l_1000000, ↓l_m1, l_neg, nI_add, pk_mul, pk_sub, q_leT, q_leF, q_ltT, q_ltF, q_eqT, q_eqF, q_m1e, q_m1e2, q_m1lt, q_m1le, q_m1nl, q_m1nle, q_m1s, q_ix, q_jat, q_jput, q_min1, q_min2, q_max1, q_max2, q_or0, q_0or, q_bs, if_true, if_false, true_and, and_true, false_and, and_false, not_true_eq_false, not_false_eq_true, eq_self, Bool.false_eq_true, q_z0, q_z1, ff4]
        · simp (disch := omega) only [l_0, l_1, l_2, l_3, l_4, l_5, l_6, l_7, l_8, l_9, l_10, l_11, l_12, l_13, l_14, l_15, l_16, l_17, l_18, l_19, l_20, l_21, l_22, l_23, l_24, l_25, l_26, l_27, l_30, l_31, l_32, l_40, l_48, l_57, l_59, l_60, l_61, l_62, l_64, l_83, l_90, l_97, l_99, l_100, l_108, l_115, l_122, l_123, l_127, l_128, l_131, l_135, l_200, l_255, l_256, l_300, l_487, l_495, l_900, l_999, l_1000, l_1700, l_1792, l_1980, l_2048, l_2475, l_2970, l_3121, l_9999, l_10000, l_11351, l_65536, l_100000, l_1000000, ↓l_m1, l_neg, nI_add, pk_mul, pk_sub, q_leT, q_leF, q_ltT, q_ltF, q_eqT, q_eqF, q_m1e, q_m1e2, q_m1lt, q_m1le, q_m1nl, q_m1nle, q_m1s, q_ix, q_jat, q_jput, q_min1, q_min2, q_max1, q_max2, q_or0, q_0or, q_bs, if_true, if_false, true_and, and_true, false_and, and_false, not_true_eq_false, not_false_eq_true, eq_self, Bool.false_eq_true, q_z0, q_z1, ff4]
      · unfold X12_number X12_number_j30
        rw [h4] at fl4 ⊢
        rw [v2]
        rw [show mtk 2 = 3 from rfl] at fl4 ⊢
        by_cases y : v < lo
        · simp (disch := omega) only [l_0, l_1, l_2, l_3, l_4, l_5, l_6, l_7, l_8, l_9, l_10, l_11, l_12, l_13, l_14, l_15, l_16, l_17, l_18, l_19, l_20, l_21, l_22, l_23, l_24, l_25, l_26, l_27, l_30, l_31, l_32, l_40, l_48, l_57, l_59, l_60, l_61, l_62, l_64, l_83, l_90, l_97, l_99, l_100, l_108, l_115, l_122, l_123, l_127, l_128, l_131, l_135, l_200, l_255, l_256, l_300, l_487, l_495, l_900, l_999, l_1000, l_1700, l_1792, l_1980, l_2048, l_2475, l_2970, l_3121, l_9999, l_10000, l_11351, l_65536, l_100000, l_1000000, ↓l_m1, l_neg, nI_add, pk_mul, pk_sub, q_leT, q_leF, q_ltT, q_ltF, q_eqT, q_eqF, q_m1e, q_m1e2, q_m1lt, q_m1le, q_m1nl, q_m1nle, q_m1s, q_ix, q_jat, q_jput, q_min1, q_min2, q_max1, q_max2, q_or0, q_0or, q_bs, if_true, if_false, true_and, and_true, false_and, and_false, not_true_eq_false, not_false_eq_true, eq_self, Bool.false_eq_true, q_z0, q_z1, fl4]
        · simp (disch := omega) only [l_0, l_1, l_2, l_3, l_4, l_5, l_6, l_7, l_8, l_9, l_10, l_11, l_12, l_13, l_14, l_15, l_16, l_17, l_18, l_19, l_20, l_21, l_22, l_23, l_24, l_25, l_26, l_27, l_30, l_31, l_32, l_40, l_48, l_57, l_59, l_60, l_61, l_62, l_64, l_83, l_90, l_97, l_99, l_100, l_108, l_115, l_122, l_123, l_127, l_128, l_131, l_135, l_200, l_255, l_256, l_300, l_487, l_495, l_900, l_999, l_1000, l_1700, l_1792, l_1980, l_2048, l_2475, l_2970, l_3121, l_9999, l_10000, l_11351, l_65536, l_100000, l_1000000, ↓l_m1, l_neg, nI_add, pk_mul, pk_sub, q_leT, q_leF, q_ltT, q_ltF, q_eqT, q_eqF, q_m1e, q_m1e2, q_m1lt, q_m1le, q_m1nl, q_m1nle, q_m1s, q_ix, q_jat, q_jput, q_min1, q_min2, q_max1, q_max2, q_or0, q_0or, q_bs, if_true, if_false, true_and, and_true, false_and, and_false, not_true_eq_false, not_false_eq_true, eq_self, Bool.false_eq_true, q_z0, q_z1, fl4]
  · right
    refine ⟨fk kd 2, f7.1, f7.2, ?_, ?_⟩
    · unfold X8_takeNumber
      rw [h2] at fh ⊢
      simp (disch := omega) only [l_0, l_1, l_2, l_3, l_4, l_5, l_6, l_7, l_8, l_9, l_10, l_11, l_12, l_13, l_14, l_15, l_16, l_17, l_18, l_19, l_20, l_21, l_22, l_23, l_24, l_25, l_26, l_27, l_30, l_31, l_32, l_40, l_48, l_57, l_59, l_60, l_61, l_62, l_64, l_83, l_90, l_97, l_99, l_100, l_108, l_115, l_122, l_123, l_127, l_128, l_131, l_135, l_200, l_255, l_256, l_300, l_487, l_495, l_900, l_999, l_1000, l_1700, l_1792, l_1980, l_2048, l_2475, l_2970, l_3121, l_9999, l_10000, l_11351, l_65536, l_100000, l_1000000, ↓l_m1, l_neg, nI_add, pk_mul, pk_sub, q_leT, q_leF, q_ltT, q_ltF, q_eqT, q_eqF, q_m1e, q_m1e2, q_m1lt, q_m1le, q_m1nl, q_m1nle, q_m1s, q_ix, q_jat, q_jput, q_min1, q_min2, q_max1, q_max2, q_or0, q_0or, q_bs, if_true, if_false, true_and, and_true, false_and, and_false, not_true_eq_false, not_false_eq_true, eq_self, Bool.false_eq_true, q_z0, q_z1, fh]
    · have m4 : mtk kd ≠ 3 ∧ mtk kd < 10 := by
        unfold mtk
        rcases (show kd = 0 ∨ kd = 1 ∨ kd = 3 ∨ kd = 4 by omega) with rfl | rfl | rfl | rfl <;> decide
      have m41 := m4.1
      have m42 := m4.2
      unfold X12_number
      rw [h4] at fl ⊢
      simp (disch := omega) only [l_0, l_1, l_2, l_3, l_4, l_5, l_6, l_7, l_8, l_9, l_10, l_11, l_12, l_13, l_14, l_15, l_16, l_17, l_18, l_19, l_20, l_21, l_22, l_23, l_24, l_25, l_26, l_27, l_30, l_31, l_32, l_40, l_48, l_57, l_59, l_60, l_61, l_62, l_64, l_83, l_90, l_97, l_99, l_100, l_108, l_115, l_122, l_123, l_127, l_128, l_131, l_135, l_200, l_255, l_256, l_300, l_487, l_495, l_900, l_999, l_1000, l_1700, l_1792, l_1980, l_2048, l_2475, l_2970, l_3121, l_9999, l_10000, l_11351, l_65536, l_100000, l_1000000, ↓l_m1, l_neg, nI_add, pk_mul, pk_sub, q_leT, q_leF, q_ltT, q_ltF, q_eqT, q_eqF, q_m1e, q_m1e2, q_m1lt, q_m1le, q_m1nl, q_m1nle, q_m1s, q_ix, q_jat, q_jput, q_min1, q_min2, q_max1, q_max2, q_or0, q_0or, q_bs, if_true, if_false, true_and, and_true, false_and, and_false, not_true_eq_false, not_false_eq_true, eq_self, Bool.false_eq_true, q_z0, q_z1, fl]
/-! names -/
def isN (B : Nat → Nat) (q kd e : Nat) : Prop := kd = 1 ∧ wno B q e = 0 ∧ e - q ≤ 8
theorem m_isNameT {F n q kd e v : Nat} {B : Nat → Nat} {f g : Nat → Int32} {cs : cSt} {ms : mTk} (hx : TX n B f g) (h : TkR n B q kd e v cs ms) (hn : isN B q kd e) (hF : 2000 < F) : X12_isName F (nI n) ms.1 ms.2.1 ms.2.2.1 g = some (nI 1) ∧ cs.2.2.2.2 = lN (c32 B q (e - q)) ∧ (∀ k, q ≤ k → k < e → isLt (B k) = true) ∧ q < e ∧ e ≤ n ∧ (lg_cmp cs.2.2.2.2 0 = 0) = False := by
  have b := tk_bnd h
  obtain ⟨⟨p, tk⟩, h1, h2, h3, h4, h5, h6⟩ := h
  obtain ⟨k1, w0, e8⟩ := hn
  subst k1
  have qe : q < e := b.2.2.2.1 (by omega) (by omega)
  have en : e ≤ n := (b.2.2.1 (by omega)).1
  have n9 := hx.1
  have iw := m_inWords (F := F) hx (show q ≤ e by omega) en hF
  have lt : ∀ k, q ≤ k → k < e → isLt (B k) = true := by
    rcases tk.2.2 with z | z | z | z | z
    · omega
    · exact z.2.2.2
    · omega
    · omega
    · omega
  have cd := (h3.2.1 rfl).2
  have ce : cod B q e = c32 B q (e - q) := by unfold cod; rw [if_pos ⟨w0, e8⟩]
  rw [ce] at cd
  have c0 := c32_pos (B := B) (q := q) (show 0 < e - q by omega) (fun i hi => lt _ (by omega) (by omega))
  have cl := c32_lt (B := B) (q := q) (e - q) (fun i hi => lt _ (by omega) (by omega))
  have c40 : c32 B q (e - q) < 2 ^ 63 := Nat.lt_of_lt_of_le cl (Nat.le_trans (Nat.pow_le_pow_right (by omega) e8) (by decide))
  refine ⟨?_, cd, lt, qe, en, eq_false (fun z => ?_)⟩
  · rw [w0] at iw
    unfold X12_isName
    rw [h4, h5, h6.1 (by omega), show mtk 1 = 2 from rfl]
    have iw' : X12_inWords F (nI n) (nI 2) (nI q) (nI e) g = some m1 := iw
    simp (disch := omega) only [l_0, l_1, l_2, l_3, l_4, l_5, l_6, l_7, l_8, l_9, l_10, l_11, l_12, l_13, l_14, l_15, l_16, l_17, l_18, l_19, l_20, l_21, l_22, l_23, l_24, l_25, l_26, l_27, l_30, l_31, l_32, l_40, l_48, l_57, l_59, l_60, l_61, l_62, l_64, l_83, l_90, l_97, l_99, l_100, l_108, l_115, l_122, l_123, l_127, l_128, l_131, l_135, l_200, l_255, l_256, l_300, l_487, l_495, l_900, l_999, l_1000, l_1700, l_1792, l_1980, l_2048, l_2475, l_2970, l_3121, l_9999, l_10000, l_11351, l_65536, l_100000, l_1000000, ↓l_m1, l_neg, nI_add, pk_mul, pk_sub, q_leT, q_leF, q_ltT, q_ltF, q_eqT, q_eqF, q_m1e, q_m1e2, q_m1lt, q_m1le, q_m1nl, q_m1nle, q_m1s, q_ix, q_jat, q_jput, q_min1, q_min2, q_max1, q_max2, q_or0, q_0or, q_bs, if_true, if_false, true_and, and_true, false_and, and_false, not_true_eq_false, not_false_eq_true, eq_self, Bool.false_eq_true, q_z0, q_z1, iw']
  · rw [cd] at z
    exact c0 ((lcmp0 c40).mp z)
theorem m_isNameF {F n q kd e v : Nat} {B : Nat → Nat} {f g : Nat → Int32} {cs : cSt} {ms : mTk} (hx : TX n B f g) (h : TkR n B q kd e v cs ms) (hn : ¬ isN B q kd e) (hF : 2000 < F) : X12_isName F (nI n) ms.1 ms.2.1 ms.2.2.1 g = some (nI 0) ∧ (lg_cmp cs.2.2.2.2 0 = 0) = True := by
  have b := tk_bnd h
  obtain ⟨⟨p, tk⟩, h1, h2, h3, h4, h5, h6⟩ := h
  have n9 := hx.1
  by_cases k1 : kd = 1
  · subst k1
    have qe : q < e := b.2.2.2.1 (by omega) (by omega)
    have en : e ≤ n := (b.2.2.1 (by omega)).1
    have iw := m_inWords (F := F) hx (show q ≤ e by omega) en hF
    have wl : wno B q e ≤ 25 := words_le _
    have hn' : ¬ (wno B q e = 0 ∧ e - q ≤ 8) := fun z => hn ⟨rfl, z⟩
    have cd := (h3.2.1 rfl).2
    have ce : cod B q e = 0 := by unfold cod; rw [if_neg hn']
    rw [ce] at cd
    refine ⟨?_, by rw [cd]; exact eq_true ((lcmp0 (by omega)).mpr rfl)⟩
    unfold X12_isName X12_isName_j35
    rw [h4, h5, h6.1 (by omega), show mtk 1 = 2 from rfl]
    by_cases y : e - q ≤ 8
    · have w0 : wno B q e ≠ 0 := fun z => hn' ⟨z, y⟩
      have pl : perm.getD (wno B q e - 1) 0 < 25 := by
        have : ∀ i, i < 25 → perm.getD i 0 < 25 := by decide
        exact this _ (by omega)
      have e1 : oI (pm (wno B q e)) = nI (perm.getD (wno B q e - 1) 0) := by unfold pm; rw [if_neg w0]; rfl
      rw [e1] at iw
      simp (disch := omega) only [l_0, l_1, l_2, l_3, l_4, l_5, l_6, l_7, l_8, l_9, l_10, l_11, l_12, l_13, l_14, l_15, l_16, l_17, l_18, l_19, l_20, l_21, l_22, l_23, l_24, l_25, l_26, l_27, l_30, l_31, l_32, l_40, l_48, l_57, l_59, l_60, l_61, l_62, l_64, l_83, l_90, l_97, l_99, l_100, l_108, l_115, l_122, l_123, l_127, l_128, l_131, l_135, l_200, l_255, l_256, l_300, l_487, l_495, l_900, l_999, l_1000, l_1700, l_1792, l_1980, l_2048, l_2475, l_2970, l_3121, l_9999, l_10000, l_11351, l_65536, l_100000, l_1000000, ↓l_m1, l_neg, nI_add, pk_mul, pk_sub, q_leT, q_leF, q_ltT, q_ltF, q_eqT, q_eqF, q_m1e, q_m1e2, q_m1lt, q_m1le, q_m1nl, q_m1nle, q_m1s, q_ix, q_jat, q_jput, q_min1, q_min2, q_max1, q_max2, q_or0, q_0or, q_bs, if_true, if_false, true_and, and_true, false_and, and_false, not_true_eq_false, not_false_eq_true, eq_self, Bool.false_eq_true, q_z0, q_z1, iw]
    · simp (disch := omega) only [l_0, l_1, l_2, l_3, l_4, l_5, l_6, l_7, l_8, l_9, l_10, l_11, l_12, l_13, l_14, l_15, l_16, l_17, l_18, l_19, l_20, l_21, l_22, l_23, l_24, l_25, l_26, l_27, l_30, l_31, l_32, l_40, l_48, l_57, l_59, l_60, l_61, l_62, l_64, l_83, l_90, l_97, l_99, l_100, l_108, l_115, l_122, l_123, l_127, l_128, l_131, l_135, l_200, l_255, l_256, l_300, l_487, l_495, l_900, l_999, l_1000, l_1700, l_1792, l_1980, l_2048, l_2475, l_2970, l_3121, l_9999, l_10000, l_11351, l_65536, l_100000, l_1000000, ↓l_m1, l_neg, nI_add, pk_mul, pk_sub, q_leT, q_leF, q_ltT, q_ltF, q_eqT, q_eqF, q_m1e, q_m1e2, q_m1lt, q_m1le, q_m1nl, q_m1nle, q_m1s, q_ix, q_jat, q_jput, q_min1, q_min2, q_max1, q_max2, q_or0, q_0or, q_bs, if_true, if_false, true_and, and_true, false_and, and_false, not_true_eq_false, not_false_eq_true, eq_self, Bool.false_eq_true, q_z0, q_z1]
  · have cd := h3.2.2.2 k1
    refine ⟨?_, by rw [cd]; exact eq_true ((lcmp0 (by omega)).mpr rfl)⟩
    have m4 : mtk kd ≠ 2 ∧ mtk kd < 10 := by
      unfold mtk
      rcases (show kd = 0 ∨ kd = 2 ∨ kd = 3 ∨ kd = 4 by omega) with rfl | rfl | rfl | rfl <;> decide
    have m41 := m4.1
    have m42 := m4.2
    unfold X12_isName X12_isName_j35
    rw [h4]
    simp (disch := omega) only [l_0, l_1, l_2, l_3, l_4, l_5, l_6, l_7, l_8, l_9, l_10, l_11, l_12, l_13, l_14, l_15, l_16, l_17, l_18, l_19, l_20, l_21, l_22, l_23, l_24, l_25, l_26, l_27, l_30, l_31, l_32, l_40, l_48, l_57, l_59, l_60, l_61, l_62, l_64, l_83, l_90, l_97, l_99, l_100, l_108, l_115, l_122, l_123, l_127, l_128, l_131, l_135, l_200, l_255, l_256, l_300, l_487, l_495, l_900, l_999, l_1000, l_1700, l_1792, l_1980, l_2048, l_2475, l_2970, l_3121, l_9999, l_10000, l_11351, l_65536, l_100000, l_1000000, ↓l_m1, l_neg, nI_add, pk_mul, pk_sub, q_leT, q_leF, q_ltT, q_ltF, q_eqT, q_eqF, q_m1e, q_m1e2, q_m1lt, q_m1le, q_m1nl, q_m1nle, q_m1s, q_ix, q_jat, q_jput, q_min1, q_min2, q_max1, q_max2, q_or0, q_0or, q_bs, if_true, if_false, true_and, and_true, false_and, and_false, not_true_eq_false, not_false_eq_true, eq_self, Bool.false_eq_true, q_z0, q_z1]
