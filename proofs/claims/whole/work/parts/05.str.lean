theorem cal_J0_charAt_5068e : Cal yJ0_charAt_5068e cJ0_charAt_5068e 2 (some .char) 1 := ⟨(gs3 89 rfl rfl), (gs1 16 rfl rfl), by decide +kernel, by decide +kernel, by decide +kernel⟩
theorem cal_J0_checkIndex_df160 : Cal yJ0_checkIndex_df160 cJ0_checkIndex_df160 2 none 2 := ⟨(gs3 99 rfl rfl), (gs1 16 rfl rfl), by decide +kernel, by decide +kernel, by decide +kernel⟩
theorem cal_J0_coder_7d493 : Cal yJ0_coder_7d493 cJ0_coder_7d493 1 (some .byte) 0 := ⟨(gs3 83 rfl rfl), (gs1 16 rfl rfl), by decide +kernel, by decide +kernel, by decide +kernel⟩
theorem cal_J0_isLatin1_aae02 : Cal yJ0_isLatin1_aae02 cJ0_isLatin1_aae02 1 (some .boolean) 0 := ⟨(gs3 93 rfl rfl), (gs1 16 rfl rfl), by decide +kernel, by decide +kernel, by decide +kernel⟩
theorem cal_J0_length_8abf5 : Cal yJ0_length_8abf5 cJ0_length_8abf5 1 (some .int) 0 := ⟨(gs3 79 rfl rfl), (gs1 16 rfl rfl), by decide +kernel, by decide +kernel, by decide +kernel⟩
theorem cal_J1_charAt_3b067 : Cal yJ1_charAt_3b067 cJ1_charAt_3b067 2 (some .char) 2 := ⟨(gs3 96 rfl rfl), (gs1 17 rfl rfl), by decide +kernel, by decide +kernel, by decide +kernel⟩
theorem cal_J3_checkIndex_8e157 : Cal yJ3_checkIndex_8e157 cJ3_checkIndex_8e157 3 (some .int) 3 := ⟨(gs3 104 rfl rfl), (gs1 18 rfl rfl), by decide +kernel, by decide +kernel, by decide +kernel⟩
theorem cav_J0_charAt_5068e : CalV yJ0_charAt_5068e := ⟨(gs3 87 rfl rfl), (gs3 88 rfl rfl)⟩
theorem cav_J0_coder_7d493 : CalV yJ0_coder_7d493 := ⟨(gs3 81 rfl rfl), (gs3 82 rfl rfl)⟩
theorem cav_J0_isLatin1_aae02 : CalV yJ0_isLatin1_aae02 := ⟨(gs3 91 rfl rfl), (gs3 92 rfl rfl)⟩
theorem cav_J0_length_8abf5 : CalV yJ0_length_8abf5 := ⟨(gs3 77 rfl rfl), (gs3 78 rfl rfl)⟩
theorem fs_1053 : Cond.fieldLink "java/lang/String" 1053 "jdk/internal/util/Preconditions" "SIOOBE_FORMATTER" "Ljava/util/function/BiFunction;" ∈ gtbl := (gs3 100 rfl rfl)
theorem fs_15 : Cond.fieldLink "java/lang/String" 15 "java/lang/String" "coder" "B" ∈ gtbl := (gs9 212 rfl rfl)
theorem fs_38 : Cond.fieldLink "java/lang/String" 38 "java/lang/String" "COMPACT_STRINGS" "Z" ∈ gtbl := (gs3 84 rfl rfl)
theorem fs_9 : Cond.fieldLink "java/lang/String" 9 "java/lang/String" "value" "[B" ∈ gtbl := (gs9 211 rfl rfl)
theorem lk_J0_1059 : Cond.methodLink RJ0 1059 yJ3_checkIndex_8e157 ∈ gtbl := (gs3 102 rfl rfl)
theorem lk_J0_335 : Cond.methodLink RJ0 335 yJ0_coder_7d493 ∈ gtbl := (gs3 80 rfl rfl)
theorem lk_J0_492 : Cond.methodLink RJ0 492 yJ0_isLatin1_aae02 ∈ gtbl := (gs3 90 rfl rfl)
theorem lk_J0_495 : Cond.methodLink RJ0 495 yJ1_charAt_3b067 ∈ gtbl := (gs3 94 rfl rfl)
theorem lk_J1_9 : Cond.methodLink RJ1 9 yJ0_checkIndex_df160 ∈ gtbl := (gs3 97 rfl rfl)
theorem sta_J0_checkIndex_df160 : Cond.static yJ0_checkIndex_df160 ∈ gtbl := (gs3 98 rfl rfl)
theorem sta_J1_charAt_3b067 : Cond.static yJ1_charAt_3b067 ∈ gtbl := (gs3 95 rfl rfl)
theorem sta_J3_checkIndex_8e157 : Cond.static yJ3_checkIndex_8e157 ∈ gtbl := (gs3 103 rfl rfl)
def strLen (i : Nat) : Int32 := jshr (Int32.ofNat (lns.getD i 0)) 0
def strCh (i : Nat) (k : Int32) : Int32 := jchar (((bys.getD i []).getD k.toNatClampNeg 0) &&& 255)
abbrev adK (E : vE) (i : Nat) : Nat := E.2.2.2.2.2.2.1 i
abbrev adV (E : vE) (i : Nat) : Nat := E.2.2.2.2.2.2.2 i
theorem cs_coder (l : Launch) (E : vE) (i : Nat) (hi : i < 2) : CtI l yJ0_coder_7d493 cJ0_coder_7d493 1 (some .byte) 0 E [.ref (adK E i)] [] [] 0 := by
  refine ctI (by decide) (Nat.le_of_ble_eq_true rfl) ?_
  intro p e s m below meth cd A ls aa QQ hq cx hP hD hS hl
  obtain ⟨⟨hx, hb, hml, hown, hts⟩, hr, hlocks, hK, hA, hX⟩ := id cx
  have hl : lv_has ls 1 [(0, .ref (adK E i))] := hl
  refine va_gets hx hb hX.2.1 hS hown (hts _ fs_38) (fun _ h => h) dJ0_coder_7d493_0 ?_
  refine lv_if_eq (tgt := 13) hx hb dJ0_coder_7d493_3 (by decide) (fun hc => absurd hc (by decide)) (fun _ => ?_)
  refine lv_aload_n hx hb dJ0_coder_7d493_6 rfl (lv_at hl 0 rfl) ?_
  refine vk_getf hx hb (hX.1.1 i hi).2.1 hS hown (hts _ fs_15) (fun _ h => h) dJ0_coder_7d493_7 ?_
  refine lv_goto (tgt := 14) hx hb dJ0_coder_7d493_10 (by decide) ?_
  subst hq
  exact retT cx rfl hP hD hS dJ0_coder_7d493_14
theorem cs_lat (l : Launch) (E : vE) (i : Nat) (hi : i < 2) : CtI l yJ0_isLatin1_aae02 cJ0_isLatin1_aae02 1 (some .boolean) 0 E [.ref (adK E i)] [] [] 1 := by
  refine ctI (by decide) (Nat.le_of_ble_eq_true rfl) ?_
  intro p e s m below meth cd A ls aa QQ hq cx hP hD hS hl
  obtain ⟨⟨hx, hb, hml, hown, hts⟩, hr, hlocks, hK, hA, hX⟩ := id cx
  have hl : lv_has ls 1 [(0, .ref (adK E i))] := hl
  refine va_gets hx hb hX.2.1 hS hown (hts _ fs_38) (fun _ h => h) dJ0_isLatin1_aae02_0 ?_
  refine lv_if_eq (tgt := 17) hx hb dJ0_isLatin1_aae02_3 (by decide) (fun hc => absurd hc (by decide)) (fun _ => ?_)
  refine lv_aload_n hx hb dJ0_isLatin1_aae02_6 rfl (lv_at hl 0 rfl) ?_
  refine vk_getf hx hb (hX.1.1 i hi).2.1 hS hown (hts _ fs_15) (fun _ h => h) dJ0_isLatin1_aae02_7 ?_
  refine lv_if_ne (tgt := 17) hx hb dJ0_isLatin1_aae02_10 (by decide) (fun hc => absurd rfl hc) (fun _ => ?_)
  refine lv_iconst (v := 1) hx hb dJ0_isLatin1_aae02_13 (by decide) ?_
  refine lv_goto (tgt := 18) hx hb dJ0_isLatin1_aae02_14 (by decide) ?_
  subst hq
  exact retT cx rfl hP hD hS dJ0_isLatin1_aae02_18
theorem cs_pc (l : Launch) (E : vE) (v n : Int32) (t : Nat) (h0 : ¬ v < 0) (h1 : v < n) : CtI l yJ3_checkIndex_8e157 cJ3_checkIndex_8e157 3 (some .int) 0 E [.int v, .int n, .ref t] [] [] v := by
  refine ctI (by decide) (Nat.le_of_ble_eq_true rfl) ?_
  intro p e s m below meth cd A ls aa QQ hq cx hP hD hS hl
  obtain ⟨⟨hx, hb, hml, hown, hts⟩, hr, hlocks, hK, hA, hX⟩ := id cx
  have hl : lv_has ls 3 [(0, .int v), (1, .int n), (2, .ref t)] := hl
  refine lv_iload_n hx hb dJ3_checkIndex_8e157_0 rfl (lv_at hl 0 rfl) ?_
  refine lv_if_lt (tgt := 9) hx hb dJ3_checkIndex_8e157_1 (by decide) (fun hc => absurd hc h0) (fun _ => ?_)
  refine lv_iload_n hx hb dJ3_checkIndex_8e157_4 rfl (lv_at hl 0 rfl) ?_
  refine lv_iload_n hx hb dJ3_checkIndex_8e157_5 rfl (lv_at hl 1 rfl) ?_
  refine lv_icmp_lt (tgt := 16) hx hb dJ3_checkIndex_8e157_6 (by decide) (fun _ => ?_) (fun hc => absurd h1 hc)
  refine lv_iload_n hx hb dJ3_checkIndex_8e157_16 rfl (lv_at hl 0 rfl) ?_
  subst hq
  exact retI cx hP hD hS dJ3_checkIndex_8e157_17
theorem cs_pcN (l : Launch) (E : vE) (v n : Int32) (h0 : ¬ v < 0) (h1 : v < n) : CtI l yJ3_checkIndex_8e157 cJ3_checkIndex_8e157 3 (some .int) 0 E [.int v, .int n, .null] [] [] v := by
  refine ctI (by decide) (Nat.le_of_ble_eq_true rfl) ?_
  intro p e s m below meth cd A ls aa QQ hq cx hP hD hS hl
  obtain ⟨⟨hx, hb, hml, hown, hts⟩, hr, hlocks, hK, hA, hX⟩ := id cx
  have hl : lv_has ls 3 [(0, .int v), (1, .int n), (2, .null)] := hl
  refine lv_iload_n hx hb dJ3_checkIndex_8e157_0 rfl (lv_at hl 0 rfl) ?_
  refine lv_if_lt (tgt := 9) hx hb dJ3_checkIndex_8e157_1 (by decide) (fun hc => absurd hc h0) (fun _ => ?_)
  refine lv_iload_n hx hb dJ3_checkIndex_8e157_4 rfl (lv_at hl 0 rfl) ?_
  refine lv_iload_n hx hb dJ3_checkIndex_8e157_5 rfl (lv_at hl 1 rfl) ?_
  refine lv_icmp_lt (tgt := 16) hx hb dJ3_checkIndex_8e157_6 (by decide) (fun _ => ?_) (fun hc => absurd h1 hc)
  refine lv_iload_n hx hb dJ3_checkIndex_8e157_16 rfl (lv_at hl 0 rfl) ?_
  subst hq
  exact retI cx hP hD hS dJ3_checkIndex_8e157_17
theorem cs_ci (l : Launch) (E : vE) (v n : Int32) (h0 : ¬ v < 0) (h1 : v < n) : CtV l yJ0_checkIndex_df160 cJ0_checkIndex_df160 2 none 1 E [.int v, .int n] [] [] := by
  refine ctV (by decide) (Nat.le_of_ble_eq_true rfl) ?_
  intro p e s m below meth cd A ls aa QQ hq cx hP hD hS hl
  obtain ⟨⟨hx, hb, hml, hown, hts⟩, hr, hlocks, hK, hA, hX⟩ := id cx
  have hl : lv_has ls 2 [(0, .int v), (1, .int n)] := hl
  refine lv_iload_n hx hb dJ0_checkIndex_df160_0 rfl (lv_at hl 0 rfl) ?_
  refine lv_iload_n hx hb dJ0_checkIndex_df160_1 rfl (lv_at hl 1 rfl) ?_
  rcases hX.2.2.1 with hZ | ⟨t, hZ⟩
  · refine va_gets hx hb hZ hS hown (hts _ fs_1053) (fun _ h => h) dJ0_checkIndex_df160_2 ?_
    refine keepSI (As := [.int v, .int n, .null]) (cs_pcN l E v n h0 h1) [] cal_J3_checkIndex_8e157 sta_J3_checkIndex_8e157 lk_J0_1059 cx hP hD hS hl dJ0_checkIndex_df160_5 rfl rfl (Nat.le_of_ble_eq_true rfl) ⟨Nat.le_of_ble_eq_true rfl, Nat.le_of_ble_eq_true rfl⟩ rfl (by decide) (fun H locs hP hS => ?_)
    refine lv_pop hx hb dJ0_checkIndex_df160_8 rfl ?_
    subst hq
    exact retV cx hP hD hS dJ0_checkIndex_df160_9
  · refine va_gets hx hb hZ hS hown (hts _ fs_1053) (fun _ h => h) dJ0_checkIndex_df160_2 ?_
    refine keepSI (As := [.int v, .int n, .ref t]) (cs_pc l E v n t h0 h1) [] cal_J3_checkIndex_8e157 sta_J3_checkIndex_8e157 lk_J0_1059 cx hP hD hS hl dJ0_checkIndex_df160_5 rfl rfl (Nat.le_of_ble_eq_true rfl) ⟨Nat.le_of_ble_eq_true rfl, Nat.le_of_ble_eq_true rfl⟩ rfl (by decide) (fun H locs hP hS => ?_)
    refine lv_pop hx hb dJ0_checkIndex_df160_8 rfl ?_
    subst hq
    exact retV cx hP hD hS dJ0_checkIndex_df160_9
theorem lns_lt (i : Nat) (hi : i < 2) : lns.getD i 0 < 2 ^ 31 := by
  rcases (show i = 0 ∨ i = 1 by omega) with rfl | rfl <;> decide
theorem ix_nat {v : Int32} {n : Nat} (h : ix v n = true) (hn : n < 2 ^ 31) : ¬ v < 0 ∧ v < Int32.ofNat n := by
  simp only [ix, Bool.and_eq_true, decide_eq_true_eq] at h
  refine ⟨Int32.not_lt.mpr h.1, ?_⟩
  have h1 : (Int32.ofNat n).toInt = n := nI_toInt hn
  have h2 : (0 : Int) ≤ v.toInt := by have := Int32.le_iff_toInt_le.mp h.1; simpa using this
  have h3 : (v.toNatClampNeg : Int) = v.toInt := Int.toNat_of_nonneg h2
  refine Int32.lt_iff_toInt_lt.mpr ?_
  omega
theorem nar_char (x : Int32) : narrow .char (.int (jchar x)) = .int (jchar x) := pk_nc x
theorem cs_lc (l : Launch) (E : vE) (i : Nat) (hi : i < 2) (v : Int32) (hv : ix v (lns.getD i 0) = true) : CtI l yJ1_charAt_3b067 cJ1_charAt_3b067 2 (some .char) 2 E [.ref (adV E i), .int v] [] [] (strCh i v) := by
  refine ctI (by decide) (Nat.le_of_ble_eq_true rfl) ?_
  intro p e s m below meth cd A ls aa QQ hq cx hP hD hS hl
  obtain ⟨⟨hx, hb, hml, hown, hts⟩, hr, hlocks, hK, hA, hX⟩ := id cx
  have hl : lv_has ls 2 [(0, .ref (adV E i)), (1, .int v)] := hl
  obtain ⟨h0, h1⟩ := ix_nat hv (lns_lt i hi)
  refine lv_iload_n hx hb dJ1_charAt_3b067_0 rfl (lv_at hl 1 rfl) ?_
  refine lv_aload_n hx hb dJ1_charAt_3b067_1 rfl (lv_at hl 0 rfl) ?_
  refine va_tlen (v := Int32.ofNat (lns.getD i 0)) hx hb (hX.1.1 i hi).2.2.2 hS rfl dJ1_charAt_3b067_2 ?_
  refine keepSV (As := [.int v, .int (Int32.ofNat (lns.getD i 0))]) (cs_ci l E v _ h0 h1) [] cal_J0_checkIndex_df160 sta_J0_checkIndex_df160 lk_J1_9 cx hP hD hS hl dJ1_charAt_3b067_3 rfl rfl (Nat.le_of_ble_eq_true rfl) ⟨Nat.le_of_ble_eq_true rfl, Nat.le_of_ble_eq_true rfl⟩ rfl (by decide) (fun H locs hP hS => ?_)
  refine lv_aload_n hx hb dJ1_charAt_3b067_6 rfl (lv_at hl 0 rfl) ?_
  refine lv_iload_n hx hb dJ1_charAt_3b067_7 rfl (lv_at hl 1 rfl) ?_
  refine va_tb (v := .int ((bys.getD i []).getD v.toNatClampNeg 0)) hx hb (hX.1.1 i hi).2.2.2 hS (ix_in hv) rfl dJ1_charAt_3b067_8 ?_
  refine lv_sipush (v := 255) hx hb dJ1_charAt_3b067_9 (by decide) ?_
  refine lv_iand hx hb dJ1_charAt_3b067_12 ?_
  refine lv_i2c (v := strCh i v) hx hb dJ1_charAt_3b067_13 rfl ?_
  subst hq
  exact retT cx (nar_char _) hP hD hS dJ1_charAt_3b067_14
theorem cs_length (l : Launch) (E : vE) (i : Nat) (hi : i < 2) : CtI l yJ0_length_8abf5 cJ0_length_8abf5 1 (some .int) 1 E [.ref (adK E i)] [] [] (strLen i) := by
  refine ctI (by decide) (Nat.le_of_ble_eq_true rfl) ?_
  intro p e s m below meth cd A ls aa QQ hq cx hP hD hS hl
  obtain ⟨⟨hx, hb, hml, hown, hts⟩, hr, hlocks, hK, hA, hX⟩ := id cx
  have hl : lv_has ls 1 [(0, .ref (adK E i))] := hl
  refine lv_aload_n hx hb dJ0_length_8abf5_0 rfl (lv_at hl 0 rfl) ?_
  refine vk_getf hx hb (hX.1.1 i hi).2.2.1 hS hown (hts _ fs_9) (fun _ h => h) dJ0_length_8abf5_1 ?_
  refine va_tlen (v := Int32.ofNat (lns.getD i 0)) hx hb (hX.1.1 i hi).2.2.2 hS rfl dJ0_length_8abf5_4 ?_
  refine lv_aload_n hx hb dJ0_length_8abf5_5 rfl (lv_at hl 0 rfl) ?_
  refine keepXI (As := []) (cs_coder l E i hi) [] cal_J0_coder_7d493 cav_J0_coder_7d493 lk_J0_335 cx hP hD hS hl dJ0_length_8abf5_6 (vk_recv hX.1 hi hS) rfl rfl (Nat.le_of_ble_eq_true rfl) ⟨Nat.le_of_ble_eq_true rfl, Nat.le_of_ble_eq_true rfl⟩ rfl (by decide) (fun H locs hP hS => ?_)
  refine r_ishr hx hb dJ0_length_8abf5_9 ?_
  subst hq
  exact retI cx hP hD hS dJ0_length_8abf5_10
theorem cs_charAt (l : Launch) (E : vE) (i : Nat) (hi : i < 2) (v : Int32) (hv : ix v (lns.getD i 0) = true) : CtI l yJ0_charAt_5068e cJ0_charAt_5068e 2 (some .char) 3 E [.ref (adK E i), .int v] [] [] (strCh i v) := by
  refine ctI (by decide) (Nat.le_of_ble_eq_true rfl) ?_
  intro p e s m below meth cd A ls aa QQ hq cx hP hD hS hl
  obtain ⟨⟨hx, hb, hml, hown, hts⟩, hr, hlocks, hK, hA, hX⟩ := id cx
  have hl : lv_has ls 2 [(0, .ref (adK E i)), (1, .int v)] := hl
  refine lv_aload_n hx hb dJ0_charAt_5068e_0 rfl (lv_at hl 0 rfl) ?_
  refine keepXI (As := []) (cs_lat l E i hi) [] cal_J0_isLatin1_aae02 cav_J0_isLatin1_aae02 lk_J0_492 cx hP hD hS hl dJ0_charAt_5068e_1 (vk_recv hX.1 hi hS) rfl rfl (Nat.le_of_ble_eq_true rfl) ⟨Nat.le_of_ble_eq_true rfl, Nat.le_of_ble_eq_true rfl⟩ rfl (by decide) (fun H locs hP hS => ?_)
  refine lv_if_eq (tgt := 16) hx hb dJ0_charAt_5068e_4 (by decide) (fun hc => absurd hc (by decide)) (fun _ => ?_)
  refine lv_aload_n hx hb dJ0_charAt_5068e_7 rfl (lv_at hl 0 rfl) ?_
  refine vk_getf hx hb (hX.1.1 i hi).2.2.1 hS hown (hts _ fs_9) (fun _ h => h) dJ0_charAt_5068e_8 ?_
  refine lv_iload_n hx hb dJ0_charAt_5068e_11 rfl (lv_at hl 1 rfl) ?_
  refine keepSI (As := [.ref (adV E i), .int v]) (cs_lc l E i hi v hv) [] cal_J1_charAt_3b067 sta_J1_charAt_3b067 lk_J0_495 cx hP hD hS hl dJ0_charAt_5068e_12 rfl rfl (Nat.le_of_ble_eq_true rfl) ⟨Nat.le_of_ble_eq_true rfl, Nat.le_of_ble_eq_true rfl⟩ rfl (by decide) (fun H locs hP hS => ?_)
  subst hq
  exact retT cx (nar_char _) hP hD hS dJ0_charAt_5068e_15
