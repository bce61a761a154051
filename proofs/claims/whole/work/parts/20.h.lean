/-! ===== PURE 20.h: the draft on both sides; CORNER ===== -/
theorem l_1981 : (1981 : Int32) = nI 1981 := rfl
theorem l_1982 : (1982 : Int32) = nI 1982 := rfl
theorem l_1983 : (1983 : Int32) = nI 1983 := rfl
theorem l_1984 : (1984 : Int32) = nI 1984 := rfl
theorem l_1985 : (1985 : Int32) = nI 1985 := rfl
theorem l_1986 : (1986 : Int32) = nI 1986 := rfl
theorem l_1987 : (1987 : Int32) = nI 1987 := rfl
theorem l_2467 : (2467 : Int32) = nI 2467 := rfl
theorem l_116 : (116 : Int32) = nI 116 := rfl
def DZ (C : Cy) : Prop := ∀ x, x < C 0 0 2 → C 2 x 1 = 0 ∧ C 2 x 3 = 0 ∧ C 2 x 4 = 0
def sl (at0 : Nat → Int32) : Nat → Int32 := fun k => at0 (1980 + k)
def DR (C : Cy) (N : Nat) (nm : Nat → Nat → Nat) (xr xt : Nat → Int32) (co : Nat → Int64) (so nu xx xh xw at0 : Nat → Int32) (names : Nat → Int64) : Prop :=
  Ok C ∧ C 0 0 8 = 0 ∧ DZ C ∧ N = C 0 0 0 + C 0 0 2 + C 0 0 3 + C 0 0 4 ∧ RC C xr ∧ CT C xt ∧ CX C xx ∧ CH C xh ∧ CW C xw ∧ MS C (sl at0) ∧ ZR C (sl at0) ∧ NM C N nm co so nu (fun k => names (108 + k))
def TR (rt mt : Nat) : Prop := rt < 16 ∧ mt < 512 ∧ ∀ i, i < 3 → rt.testBit (i + 1) = mt.testBit i
abbrev MP : Type := Int32 × Int32 × Int32 × Int32 × Int32 × Int32 × Int32 × Int32 × (Nat → Int32) × (Nat → Int64)
def PartR (n : Nat) (B : Nat → Nat) (q : Nat) (fp mfp : Int32) (xt0 at0 : Nat → Int32) (names : Nat → Int64) (a : Option vS) (b : Option MP) : Prop :=
  (∃ (q' kd' e' v' N' rt' mt' : Nat) (cs' : cSt) (ms' : mTk) (C' : Cy) (nm' : Nat → Nat → Nat) (xr' xt' so' nu' xx' xh' xw' at1 : Nat → Int32) (co' names1 : Nat → Int64),
    a = some (mkS [nI rt', cs'.1, cs'.2.1, cs'.2.2.1, cs'.2.2.2.1, nI 0, fp, nI (C' 0 0 5), nI (C' 0 0 6), nI (C' 0 0 7), nI (C' 0 0 0), nI (C' 0 0 1), nI N', nI (C' 0 0 2), nI (C' 0 0 3), nI (C' 0 0 4)] [cs'.2.2.2.2] [xr', xt', so', nu', xx', xh', xw'] [co']) ∧
    b = some (nI 1, ms'.1, ms'.2.1, ms'.2.2.1, ms'.2.2.2, mfp, nI 0, nI mt', at1, names1) ∧ TkR n B q' kd' e' v' cs' ms' ∧ q < q' ∧ TR rt' mt' ∧ DR C' N' nm' xr' xt' co' so' nu' xx' xh' xw' at1 names1 ∧ (∀ j, j < 1980 → at1 j = at0 j) ∧ (∀ j, j < 108 → names1 j = names j)) ∨
  (∃ (k p : Nat) (u : vS) (w : MP), 1 ≤ k ∧ k ≤ 7 ∧ a = some u ∧ u.1 5 = nI k ∧ u.1 6 = nI p ∧ u.2.2.1 1 = xt0 ∧ b = some w ∧ w.1 = nI 0 ∧ w.2.2.2.2.2.1 = nI p ∧ w.2.2.2.2.2.2.1 = nI k ∧ (∀ j, j < 1980 → w.2.2.2.2.2.2.2.2.1 j = at0 j) ∧ (∀ j, j < 108 → w.2.2.2.2.2.2.2.2.2 j = names j))
theorem RC_ins {C : Cy} {t : Nat} {v : Nat → Nat} {f : Nat → Int32} (h : RC C f) (e : t ≠ 1) : RC (ins C t v) f := by
  intro r c hr hc
  rw [ins_0 C (Ne.symm e)] at hr
  rw [ins_t C (Ne.symm e) (by omega)]; exact h r c hr hc
theorem CT_ins {C : Cy} {t : Nat} {v : Nat → Nat} {f : Nat → Int32} (h : CT C f) (e : t ≠ 1) : CT (ins C t v) f := by
  intro a b ha hb
  rw [h a b ha hb]; unfold tk0; rw [tk_cong (ins_0 C (Ne.symm e)) (fun r c => ins_t C (Ne.symm e) (by omega))]
theorem CX_ins {C : Cy} {t : Nat} {v : Nat → Nat} {f : Nat → Int32} (h : CX C f) (e : t ≠ 2) : CX (ins C t v) f := CX_t h (ins_0 C (Ne.symm e)) (fun r c => ins_t C (Ne.symm e) (by omega))
theorem CH_ins {C : Cy} {t : Nat} {v : Nat → Nat} {f : Nat → Int32} (h : CH C f) (e : t ≠ 3) : CH (ins C t v) f := CH_t h (ins_0 C (Ne.symm e)) (fun r c => ins_t C (Ne.symm e) (by omega))
theorem CW_ins {C : Cy} {t : Nat} {v : Nat → Nat} {f : Nat → Int32} (h : CW C f) (e : t ≠ 4) : CW (ins C t v) f := CW_t h (ins_0 C (Ne.symm e)) (fun r c => ins_t C (Ne.symm e) (by omega))
theorem NC_of {C : Cy} {at0 : Nat → Int32} (h : MS C (sl at0)) : NC C at0 := fun k hk => h.1 k (by omega)
theorem DR_new {C : Cy} {N t s w : Nat} {v : Nat → Nat} {nm : Nat → Nat → Nat} {xr xt so nu xx xh xw xx' xh' xw' at0 at1 : Nat → Int32} {co names : Nat → Int64} (dr : DR C N nm xr xt co so nu xx xh xw at0 names) (ts : (t = 0 ∧ s = 1) ∨ (t = s ∧ 2 ≤ s ∧ s ≤ 4)) (h0 : C 0 0 t < mt t) (hv : rowK C t v) (v0 : t = 2 → v 1 = 0 ∧ v 3 = 0 ∧ v 4 = 0) (hX : CX (ins C t v) xx') (hH : CH (ins C t v) xh') (hW : CW (ins C t v) xw') (w0 : w ≠ 0) (w8' : w8 8 w) (fr : ∀ s k, 1 ≤ s → s ≤ 4 → k < cnt C s → nm s k ≠ w) (a : at1 (1980 + t) = nI (C 0 0 t + 1)) (b : t ≠ 0 → ∀ c, c < wt t → at1 (1980 + (bs t + wt t * C 0 0 t + c)) = nI (v c)) (k : ∀ j, j ≠ t → (t ≠ 0 → ¬ (bs t + wt t * C 0 0 t ≤ j ∧ j < bs t + wt t * C 0 0 t + wt t)) → j < 127 → at1 (1980 + j) = at0 (1980 + j)) :
    DR (ins C t v) (N + 1) (fun s' k => if s' = s ∧ k = cnt C s then w else nm s' k) xr xt (vp_updL co N (lN w)) (upd so N (nI s)) (upd nu N (nI (cnt C s))) xx' xh' xw' at1 (vp_updL names (108 + (nb s + cnt C s)) (lN (c8 8 w))) := by
  obtain ⟨ok, c8', dz, eN, rc, ct, cx, ch, cw, hM, zr, hn⟩ := dr
  have t4 : t ≤ 4 := by omega
  have okD := ins_ok ok t4 h0 hv
  obtain ⟨m1', m2⟩ := MS_ins (g' := sl at1) ok t4 h0 (fun e => (v0 e).1) hM zr a b k
  have o0 := ok.1
  have z : ∀ j, j ≠ t → ins C t v 0 0 j = C 0 0 j := fun j hj => ins_0 C hj
  have n0 := ins_n C t v
  have ms' : mt (ms s) = mt t ∧ cnt C s = C 0 0 t ∧ ms s = t := by
    rcases ts with ⟨rfl, rfl⟩ | ⟨rfl, h2, h4⟩
    · exact ⟨rfl, rfl, rfl⟩
    · have : t ≠ 1 := by omega
      exact ⟨by unfold ms; rw [if_neg this], by unfold cnt; rw [if_neg this], by unfold ms; rw [if_neg this]⟩
  have sum : ins C t v 0 0 0 + ins C t v 0 0 2 + ins C t v 0 0 3 + ins C t v 0 0 4 = C 0 0 0 + C 0 0 2 + C 0 0 3 + C 0 0 4 + 1 := by
    rcases (show t = 0 ∨ t = 2 ∨ t = 3 ∨ t = 4 by omega) with rfl | rfl | rfl | rfl
    · rw [n0, z 2 (by omega), z 3 (by omega), z 4 (by omega)]; omega
    · rw [n0, z 0 (by omega), z 3 (by omega), z 4 (by omega)]; omega
    · rw [n0, z 0 (by omega), z 2 (by omega), z 4 (by omega)]; omega
    · rw [n0, z 0 (by omega), z 2 (by omega), z 3 (by omega)]; omega
  have N27 : N < 27 := by
    have od := okD.1
    omega
  have t1 : t ≠ 1 := by omega
  refine ⟨okD, by rw [z 8 (by omega)]; exact c8', fun x hx => ?_, by rw [eN, sum], RC_ins rc t1, CT_ins ct t1, hX, hH, hW, m1', m2, ?_⟩
  · by_cases e : t = 2
    · subst e
      rw [n0] at hx
      by_cases y : x = C 0 0 2
      · subst y; rw [ins_r C (by omega), ins_r C (by omega), ins_r C (by omega)]; exact v0 rfl
      · rw [ins_o C (by omega) y, ins_o C (by omega) y, ins_o C (by omega) y]; exact dz x (by omega)
    · rw [z 2 (Ne.symm e)] at hx
      rw [ins_t C (Ne.symm e) (by omega), ins_t C (Ne.symm e) (by omega), ins_t C (Ne.symm e) (by omega)]; exact dz x hx
  · refine NM_new (mn := fun k => names (108 + k)) hn ok (by omega) (by omega) (by rw [ms'.1, ms'.2.1]; exact h0) N27 ?_ (fun s' h1 h4 ne => ?_) w0 w8' fr ?_ (fun j hj hne => ?_)
    · rw [ms'.2.1]
      rcases ts with ⟨rfl, rfl⟩ | ⟨rfl, h2, h4⟩
      · exact n0
      · unfold cnt; rw [if_neg (by omega)]; exact n0
    · unfold cnt
      by_cases e : s' = 1
      · rw [if_pos e, if_pos e]; exact z 0 (by omega)
      · rw [if_neg e, if_neg e]; exact z s' (by omega)
    · exact pk_uLs
    · exact pk_uLn (by omega)
/-! each PART -/
section PT
variable {F n q kd e v rt mt' N : Nat} {C : Cy} {nm : Nat → Nat → Nat} {xr xt so nu xx xh xw at0 f g : Nat → Int32} {co names : Nat → Int64} {B : Nat → Nat} {cs : cSt} {ms : mTk} {fp mfp : Int32}
theorem p_corner (dr : DR C N nm xr xt co so nu xx xh xw at0 names) (tr : TR rt mt') (hx : TX n B f g) (h : TkR n B q 1 e v cs ms) (hF : 2000 < F) :
    PartR n B q fp mfp xt at0 names (X1_takePart_j22 F (nI rt) (nI n) cs.1 cs.2.1 cs.2.2.1 cs.2.2.2.1 cs.2.2.2.2 (nI 0) fp f (nI (C 0 0 5)) (nI (C 0 0 6)) (nI (C 0 0 7)) (nI (C 0 0 0)) (nI (C 0 0 1)) xr xt (nI N) co so nu (nI (C 0 0 2)) xx (nI (C 0 0 3)) xh (nI (C 0 0 4)) xw (nI 4)) (X12_cityPart_j67 F (nI n) ms.1 ms.2.1 ms.2.2.1 ms.2.2.2 mfp (nI 0) (nI mt') at0 names g (nI 3)) := by
  have dr' := dr
  obtain ⟨ok, c8', dz, eN, rc, ct, cx, ch, cw, hM, zr, hn⟩ := dr
  have o0 := ok.1
  have hc := NC_of hM
  have a0 : at0 1980 = nI (C 0 0 0) := hc 0 (by omega)
  unfold X1_takePart_j22 X12_cityPart_j67 X1_takeCorner X12_aCorner
  rcases s_new (F := F) (mi := 0) (most := 8) (s := 1) fp mfp ok hc hn hx h rfl (by omega) (by omega) (by omega) (by omega) hF with ⟨full, q', kd', e', v', cs1, cs', ms', w, f1, f2, f3, t', ql, w0, w8', fr⟩ | ⟨full, cs1, cs2, ms2, k, p, k1, k7, f1, f2, f3⟩ | ⟨full, f1, f3⟩
  · have z1 : nb 1 + cnt C 1 = C 0 0 0 := Nat.zero_add _
    rw [z1] at f3
    rw [show nb 1 = 0 from rfl] at f3
    rcases s_end (F := F) fp mfp hx t' hF with ⟨q2, kd2, e2, v2, cs2, ms2, g1, g2, g3, g4⟩ | ⟨k, k1, k7, g1, g2⟩
    · have ad := c_add (N := N) (k := C 0 0 0) (s := 1) (co := co) (so := so) (nu := nu) (lN w) (by omega)
      have D := DR_new (t := 0) (s := 1) (v := fun _ => 0) (at1 := upd at0 1980 (nI (C 0 0 0 + 1))) (xx' := xx) (xh' := xh) (xw' := xw) dr' (Or.inl ⟨rfl, rfl⟩) (show C 0 0 0 < 8 by omega) ⟨fun z => absurd rfl z, by omega, by omega, by omega, by omega⟩ (by omega) (CX_ins cx (by omega)) (CH_ins ch (by omega)) (CW_ins cw (by omega)) w0 w8' fr pk_us (fun z => absurd rfl z) (fun j h1 h2 h3 => pk_un (by omega))
      rw [z1] at D
      refine Or.inl ⟨q2, kd2, e2, v2, N + 1, rt, mt', cs2, ms2, ins C 0 (fun _ => 0), _, xr, xt, _, _, xx, xh, xw, _, _, _, ?_, ?_, g3, by omega, tr, D, fun j hj => pk_un (by omega), fun j hj => pk_uLn (by omega)⟩
      · rw [ins_n, ins_0 C (by omega), ins_0 C (by omega), ins_0 C (by omega), ins_0 C (by omega), ins_0 C (by omega), ins_0 C (by omega), ins_0 C (by omega)]
        unfold X1_takeCorner_j21
        simp (disch := omega) only [l_0, l_1, l_2, l_3, l_4, l_5, l_6, l_7, l_8, l_9, l_10, l_11, l_12, l_13, l_14, l_15, l_16, l_17, l_18, l_19, l_20, l_21, l_22, l_23, l_24, l_25, l_26, l_27, l_30, l_31, l_32, l_40, l_48, l_57, l_59, l_60, l_61, l_62, l_64, l_83, l_90, l_97, l_99, l_100, l_108, l_115, l_122, l_123, l_127, l_128, l_131, l_135, l_200, l_255, l_256, l_300, l_487, l_495, l_900, l_999, l_1000, l_1700, l_1792, l_1980, l_2048, l_2475, l_2970, l_3121, l_9999, l_10000, l_11351, l_65536, l_100000, l_1000000, ↓l_m1, l_neg, nI_add, pk_mul, pk_sub, q_leT, q_leF, q_ltT, q_ltF, q_eqT, q_eqF, q_m1e, q_m1e2, q_m1lt, q_m1le, q_m1nl, q_m1nle, q_m1s, q_ix, q_jat, q_jput, q_min1, q_min2, q_max1, q_max2, q_or0, q_0or, q_bs, if_true, if_false, true_and, and_true, false_and, and_false, not_true_eq_false, not_false_eq_true, eq_self, Bool.false_eq_true, q_z0, q_z1, l_1981, l_1982, l_1983, l_1984, l_1985, l_1986, l_1987, l_2467, l_116, f1, f2, g1, ad]
        rfl
      · unfold X12_cityPart_j203
        simp (disch := omega) only [l_0, l_1, l_2, l_3, l_4, l_5, l_6, l_7, l_8, l_9, l_10, l_11, l_12, l_13, l_14, l_15, l_16, l_17, l_18, l_19, l_20, l_21, l_22, l_23, l_24, l_25, l_26, l_27, l_30, l_31, l_32, l_40, l_48, l_57, l_59, l_60, l_61, l_62, l_64, l_83, l_90, l_97, l_99, l_100, l_108, l_115, l_122, l_123, l_127, l_128, l_131, l_135, l_200, l_255, l_256, l_300, l_487, l_495, l_900, l_999, l_1000, l_1700, l_1792, l_1980, l_2048, l_2475, l_2970, l_3121, l_9999, l_10000, l_11351, l_65536, l_100000, l_1000000, ↓l_m1, l_neg, nI_add, pk_mul, pk_sub, q_leT, q_leF, q_ltT, q_ltF, q_eqT, q_eqF, q_m1e, q_m1e2, q_m1lt, q_m1le, q_m1nl, q_m1nle, q_m1s, q_ix, q_jat, q_jput, q_min1, q_min2, q_max1, q_max2, q_or0, q_0or, q_bs, if_true, if_false, true_and, and_true, false_and, and_false, not_true_eq_false, not_false_eq_true, eq_self, Bool.false_eq_true, q_z0, q_z1, l_1981, l_1982, l_1983, l_1984, l_1985, l_1986, l_1987, l_2467, l_116, a0, f3, g2]
    · refine Or.inr ⟨k, q', _, _, k1, k7, by unfold X1_takeCorner_j21; simp (disch := omega) only [l_0, l_1, l_2, l_3, l_4, l_5, l_6, l_7, l_8, l_9, l_10, l_11, l_12, l_13, l_14, l_15, l_16, l_17, l_18, l_19, l_20, l_21, l_22, l_23, l_24, l_25, l_26, l_27, l_30, l_31, l_32, l_40, l_48, l_57, l_59, l_60, l_61, l_62, l_64, l_83, l_90, l_97, l_99, l_100, l_108, l_115, l_122, l_123, l_127, l_128, l_131, l_135, l_200, l_255, l_256, l_300, l_487, l_495, l_900, l_999, l_1000, l_1700, l_1792, l_1980, l_2048, l_2475, l_2970, l_3121, l_9999, l_10000, l_11351, l_65536, l_100000, l_1000000, ↓l_m1, l_neg, nI_add, pk_mul, pk_sub, q_leT, q_leF, q_ltT, q_ltF, q_eqT, q_eqF, q_m1e, q_m1e2, q_m1lt, q_m1le, q_m1nl, q_m1nle, q_m1s, q_ix, q_jat, q_jput, q_min1, q_min2, q_max1, q_max2, q_or0, q_0or, q_bs, if_true, if_false, true_and, and_true, false_and, and_false, not_true_eq_false, not_false_eq_true, eq_self, Bool.false_eq_true, q_z0, q_z1, l_1981, l_1982, l_1983, l_1984, l_1985, l_1986, l_1987, l_2467, l_116, f1, f2, g1]; rfl, ?_, ?_, ?_, by unfold X12_cityPart_j203 X12_cityPart_j220; simp (disch := omega) only [l_0, l_1, l_2, l_3, l_4, l_5, l_6, l_7, l_8, l_9, l_10, l_11, l_12, l_13, l_14, l_15, l_16, l_17, l_18, l_19, l_20, l_21, l_22, l_23, l_24, l_25, l_26, l_27, l_30, l_31, l_32, l_40, l_48, l_57, l_59, l_60, l_61, l_62, l_64, l_83, l_90, l_97, l_99, l_100, l_108, l_115, l_122, l_123, l_127, l_128, l_131, l_135, l_200, l_255, l_256, l_300, l_487, l_495, l_900, l_999, l_1000, l_1700, l_1792, l_1980, l_2048, l_2475, l_2970, l_3121, l_9999, l_10000, l_11351, l_65536, l_100000, l_1000000, ↓l_m1, l_neg, nI_add, pk_mul, pk_sub, q_leT, q_leF, q_ltT, q_ltF, q_eqT, q_eqF, q_m1e, q_m1e2, q_m1lt, q_m1le, q_m1nl, q_m1nle, q_m1s, q_ix, q_jat, q_jput, q_min1, q_min2, q_max1, q_max2, q_or0, q_0or, q_bs, if_true, if_false, true_and, and_true, false_and, and_false, not_true_eq_false, not_false_eq_true, eq_self, Bool.false_eq_true, q_z0, q_z1, l_1981, l_1982, l_1983, l_1984, l_1985, l_1986, l_1987, l_2467, l_116, a0, f3, g2]; rfl, ?_, ?_, ?_, ?_, ?_⟩
      all_goals first | rfl | exact fun j hj => pk_un (by omega) | exact fun j hj => pk_uLn (by omega)
  · rw [show nb 1 = 0 from rfl] at f3
    refine Or.inr ⟨k, p, _, _, k1, k7, by unfold X1_takeCorner_j21; simp (disch := omega) only [l_0, l_1, l_2, l_3, l_4, l_5, l_6, l_7, l_8, l_9, l_10, l_11, l_12, l_13, l_14, l_15, l_16, l_17, l_18, l_19, l_20, l_21, l_22, l_23, l_24, l_25, l_26, l_27, l_30, l_31, l_32, l_40, l_48, l_57, l_59, l_60, l_61, l_62, l_64, l_83, l_90, l_97, l_99, l_100, l_108, l_115, l_122, l_123, l_127, l_128, l_131, l_135, l_200, l_255, l_256, l_300, l_487, l_495, l_900, l_999, l_1000, l_1700, l_1792, l_1980, l_2048, l_2475, l_2970, l_3121, l_9999, l_10000, l_11351, l_65536, l_100000, l_1000000, ↓l_m1, l_neg, nI_add, pk_mul, pk_sub, q_leT, q_leF, q_ltT, q_ltF, q_eqT, q_eqF, q_m1e, q_m1e2, q_m1lt, q_m1le, q_m1nl, q_m1nle, q_m1s, q_ix, q_jat, q_jput, q_min1, q_min2, q_max1, q_max2, q_or0, q_0or, q_bs, if_true, if_false, true_and, and_true, false_and, and_false, not_true_eq_false, not_false_eq_true, eq_self, Bool.false_eq_true, q_z0, q_z1, l_1981, l_1982, l_1983, l_1984, l_1985, l_1986, l_1987, l_2467, l_116, f1, f2, f_word, f_end, f_num, f_new, f_look, f_name, f_cmp]; rfl, ?_, ?_, ?_, by unfold X12_cityPart_j203 X12_cityPart_j220; simp (disch := omega) only [l_0, l_1, l_2, l_3, l_4, l_5, l_6, l_7, l_8, l_9, l_10, l_11, l_12, l_13, l_14, l_15, l_16, l_17, l_18, l_19, l_20, l_21, l_22, l_23, l_24, l_25, l_26, l_27, l_30, l_31, l_32, l_40, l_48, l_57, l_59, l_60, l_61, l_62, l_64, l_83, l_90, l_97, l_99, l_100, l_108, l_115, l_122, l_123, l_127, l_128, l_131, l_135, l_200, l_255, l_256, l_300, l_487, l_495, l_900, l_999, l_1000, l_1700, l_1792, l_1980, l_2048, l_2475, l_2970, l_3121, l_9999, l_10000, l_11351, l_65536, l_100000, l_1000000, ↓l_m1, l_neg, nI_add, pk_mul, pk_sub, q_leT, q_leF, q_ltT, q_ltF, q_eqT, q_eqF, q_m1e, q_m1e2, q_m1lt, q_m1le, q_m1nl, q_m1nle, q_m1s, q_ix, q_jat, q_jput, q_min1, q_min2, q_max1, q_max2, q_or0, q_0or, q_bs, if_true, if_false, true_and, and_true, false_and, and_false, not_true_eq_false, not_false_eq_true, eq_self, Bool.false_eq_true, q_z0, q_z1, l_1981, l_1982, l_1983, l_1984, l_1985, l_1986, l_1987, l_2467, l_116, f3]; rfl, ?_, ?_, ?_, ?_, ?_⟩
    all_goals first | rfl | exact fun j hj => rfl
  · rw [show nb 1 = 0 from rfl] at f3
    refine Or.inr ⟨6, q, _, _, by omega, by omega, by unfold X1_takeCorner_j21; simp (disch := omega) only [l_0, l_1, l_2, l_3, l_4, l_5, l_6, l_7, l_8, l_9, l_10, l_11, l_12, l_13, l_14, l_15, l_16, l_17, l_18, l_19, l_20, l_21, l_22, l_23, l_24, l_25, l_26, l_27, l_30, l_31, l_32, l_40, l_48, l_57, l_59, l_60, l_61, l_62, l_64, l_83, l_90, l_97, l_99, l_100, l_108, l_115, l_122, l_123, l_127, l_128, l_131, l_135, l_200, l_255, l_256, l_300, l_487, l_495, l_900, l_999, l_1000, l_1700, l_1792, l_1980, l_2048, l_2475, l_2970, l_3121, l_9999, l_10000, l_11351, l_65536, l_100000, l_1000000, ↓l_m1, l_neg, nI_add, pk_mul, pk_sub, q_leT, q_leF, q_ltT, q_ltF, q_eqT, q_eqF, q_m1e, q_m1e2, q_m1lt, q_m1le, q_m1nl, q_m1nle, q_m1s, q_ix, q_jat, q_jput, q_min1, q_min2, q_max1, q_max2, q_or0, q_0or, q_bs, if_true, if_false, true_and, and_true, false_and, and_false, not_true_eq_false, not_false_eq_true, eq_self, Bool.false_eq_true, q_z0, q_z1, l_1981, l_1982, l_1983, l_1984, l_1985, l_1986, l_1987, l_2467, l_116, f1, f_word, f_end, f_num, f_new, f_look, f_name, f_cmp]; rfl, ?_, ?_, ?_, by unfold X12_cityPart_j203 X12_cityPart_j220; simp (disch := omega) only [l_0, l_1, l_2, l_3, l_4, l_5, l_6, l_7, l_8, l_9, l_10, l_11, l_12, l_13, l_14, l_15, l_16, l_17, l_18, l_19, l_20, l_21, l_22, l_23, l_24, l_25, l_26, l_27, l_30, l_31, l_32, l_40, l_48, l_57, l_59, l_60, l_61, l_62, l_64, l_83, l_90, l_97, l_99, l_100, l_108, l_115, l_122, l_123, l_127, l_128, l_131, l_135, l_200, l_255, l_256, l_300, l_487, l_495, l_900, l_999, l_1000, l_1700, l_1792, l_1980, l_2048, l_2475, l_2970, l_3121, l_9999, l_10000, l_11351, l_65536, l_100000, l_1000000, ↓l_m1, l_neg, nI_add, pk_mul, pk_sub, q_leT, q_leF, q_ltT, q_ltF, q_eqT, q_eqF, q_m1e, q_m1e2, q_m1lt, q_m1le, q_m1nl, q_m1nle, q_m1s, q_ix, q_jat, q_jput, q_min1, q_min2, q_max1, q_max2, q_or0, q_0or, q_bs, if_true, if_false, true_and, and_true, false_and, and_false, not_true_eq_false, not_false_eq_true, eq_self, Bool.false_eq_true, q_z0, q_z1, l_1981, l_1982, l_1983, l_1984, l_1985, l_1986, l_1987, l_2467, l_116, f3]; rfl, ?_, ?_, ?_, ?_, ?_⟩
    all_goals first | rfl | exact fun j hj => rfl
end PT
