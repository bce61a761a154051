def X8_takeLetters_j69 (F : Nat) (o_length : Int32) (o_place : Int32) (o_next : Int32) (o_sort : Int32) (o_value : Int32) (o_code : Int64) (o_text : Nat → Int32) (v1 : Int64) : Option (Int32 × Int32 × Int32 × Int64) :=
  (X8_wordNumber F o_place o_next o_text).bind fun u71 =>
  if u71 = 0 then
  if (8 : Int32) < (o_next - o_place) then
  some (o_next, o_sort, u71, o_code)
  else
  some (o_next, o_sort, u71, v1)
  else
  some (o_next, o_sort, u71, o_code)
def X8_takeLetters_b7 (F : Nat) (o_length : Int32) (o_place : Int32) (o_sort : Int32) (o_value : Int32) (o_code : Int64) (o_text : Nat → Int32) (st7 : Int64 × Int32) : Option ((Int64 × Int32) ⊕ ((Int64 × Int32))) :=
  if o_length ≤ st7.2 then
  some (.inr (st7.1, st7.2))
  else
  if ix st7.2 900 then
  (X8_isLetter (jat o_text st7.2)).bind fun u27 =>
  if u27 = 0 then
  some (.inr (st7.1, st7.2))
  else
  if ix st7.2 900 then
  some (.inl (((((st7.1 * 32) + (jat o_text st7.2).toInt64) - 97) + 1), (st7.2 + 1)))
  else none
  else none
def X8_takeLetters (F : Nat) (o_length : Int32) (o_place : Int32) (o_next : Int32) (o_sort : Int32) (o_value : Int32) (o_code : Int64) (o_text : Nat → Int32) : Option (Int32 × Int32 × Int32 × Int64) :=
  (iter (X8_takeLetters_b7 F o_length o_place 1 o_value o_code o_text) F (0, o_next)).bind (fun (e7 : Int64 × Int32) =>
    X8_takeLetters_j69 F o_length o_place e7.2 1 o_value o_code o_text e7.1)
abbrev wd_X8_takeLetters (E : vE) (a_o a_o_text : Nat) (o_held : Int32) (o_length : Int32) (o_place : Int32) (o_next : Int32) (o_sort : Int32) (o_value : Int32) (o_code : Int64) (o_fault : Int32) (o_faultPlace : Int32) (o_text : Nat → Int32) : va_W := [(a_o, .inr (8, [.ref a_o_text, .int o_held, .int o_length, .int o_place, .int o_next, .int o_sort, .int o_value, .long o_code, .int o_fault, .int o_faultPlace])), (a_o_text, .inl (E.2.1, 900, .inl o_text))]
set_option maxHeartbeats 4000000 in
set_option maxRecDepth 100000 in
theorem ct_X8_takeLetters (l : Launch) (E : vE) (F : Nat) (a_o a_o_text : Nat) (o_held : Int32) (o_length : Int32) (o_place : Int32) (o_next : Int32) (o_sort : Int32) (o_value : Int32) (o_code : Int64) (o_fault : Int32) (o_faultPlace : Int32) (o_text : Nat → Int32) (u : Int32 × Int32 × Int32 × Int64) (hf : X8_takeLetters F o_length o_place o_next o_sort o_value o_code o_text = some u) :
    CtV l yX8_takeLetters cX8_takeLetters 3 none 5 E [.ref a_o] (wd_X8_takeLetters E a_o a_o_text o_held o_length o_place o_next o_sort o_value o_code o_fault o_faultPlace o_text) (wd_X8_takeLetters E a_o a_o_text o_held o_length o_place u.1 u.2.1 u.2.2.1 u.2.2.2 o_fault o_faultPlace o_text) := by
  refine ctV (by decide) (Nat.le_of_ble_eq_true rfl) ?_
  intro p e s m below meth cd A ls aa QQ hq cx hP hD hS hl
  obtain ⟨⟨hx, hb, hml, hown, hts⟩, hr, hlocks, hK, hA, hX⟩ := id cx
  have hl : lv_has ls 3 [(0, .ref a_o)] := hl
  have hj69 : ∀ (v1_j69 : Int64) (o_next_j69 : Int32) (o_sort_j69 : Int32) (o_value_j69 : Int32) (o_code_j69 : Int64) (H : Heap) (locs : List Loc) (ls : Array Slot), X8_takeLetters_j69 F o_length o_place o_next_j69 o_sort_j69 o_value_j69 o_code_j69 o_text v1_j69 = some u → va_P E.1 vwCl (wd_X8_takeLetters E a_o a_o_text o_held o_length o_place o_next_j69 o_sort_j69 o_value_j69 o_code_j69 o_fault o_faultPlace o_text) H → va_D A (wd_X8_takeLetters E a_o a_o_text o_held o_length o_place o_next_j69 o_sort_j69 o_value_j69 o_code_j69 o_fault o_faultPlace o_text) → va_S A s.heap H locs → lv_has ls 3 [(0, .ref a_o), (1, .long v1_j69)] → W p l e (rmd 5) s m aa below meth cd H locs 0 0 QQ (F0 m 69 ls []) := by
    intro v1_j69 o_next_j69 o_sort_j69 o_value_j69 o_code_j69 H locs ls hf hP hD hS hl
    unfold X8_takeLetters_j69 at hf
    refine lv_aload_n hx hb dX8_takeLetters_69 rfl (lv_at hl 0 rfl) ?_
    refine lv_aload_n hx hb dX8_takeLetters_70 rfl (lv_at hl 0 rfl) ?_
    obtain ⟨u71, hu71, hf⟩ := bd hf
    refine keepVI (ct_X8_wordNumber l E F a_o a_o_text o_held o_length o_place o_next_j69 o_sort_j69 o_value_j69 o_code_j69 o_fault o_faultPlace o_text u71 hu71) [0, 1] cal_X8_wordNumber cav_X8_wordNumber lk_X8_80 cx hP hD hS hl dX8_takeLetters_71 rfl rfl rfl rfl (Nat.le_of_ble_eq_true rfl) ⟨Nat.le_of_ble_eq_true rfl, Nat.le_of_ble_eq_true rfl⟩ rfl (by decide) (fun H locs hP hS => ?_)
    refine va_put (D := E.1) (ci := 8) (v := .int u71) (ty := .int) (C := RX8) (T := TX8) (N := 10) hx hb hts inX8 tyX8 tyX8_ok nmX8 hown hK hP hD hS 0 rfl rfl 6 (by decide) (hts _ fl_X8_57) (fun _ h9 => h9) rfl (by decide +kernel) rfl rfl (Nat.le_of_ble_eq_true rfl) dX8_takeLetters_74 (fun H locs hP hD hS => ?_)
    have hP : va_P E.1 vwCl (wd_X8_takeLetters E a_o a_o_text o_held o_length o_place o_next_j69 o_sort_j69 u71 o_code_j69 o_fault o_faultPlace o_text) H := hP
    have hD : va_D A (wd_X8_takeLetters E a_o a_o_text o_held o_length o_place o_next_j69 o_sort_j69 u71 o_code_j69 o_fault o_faultPlace o_text) := hD
    refine lv_aload_n hx hb dX8_takeLetters_77 rfl (lv_at hl 0 rfl) ?_
    refine va_get (D := E.1) (ci := 8) (v := .int u71) (C := RX8) (T := TX8) (N := 10) hx hb hts inX8 hown hK hP 0 rfl rfl 6 (by decide) (hts _ fl_X8_57) (fun _ h9 => h9) rfl dX8_takeLetters_78 ?_
    refine lv_if_ne (tgt := 103) hx hb dX8_takeLetters_81 (by decide) (fun hc => ?_) (fun hc => ?_)
    · have hf := it_f hc hf
      obtain rfl := Option.some.inj hf
      subst hq
      exact retV cx hP hD hS dX8_takeLetters_103
    · have hf := it_t hc hf
      refine lv_aload_n hx hb dX8_takeLetters_84 rfl (lv_at hl 0 rfl) ?_
      refine va_get (D := E.1) (ci := 8) (v := .int o_next_j69) (C := RX8) (T := TX8) (N := 10) hx hb hts inX8 hown hK hP 0 rfl rfl 4 (by decide) (hts _ fl_X8_38) (fun _ h9 => h9) rfl dX8_takeLetters_85 ?_
      refine lv_aload_n hx hb dX8_takeLetters_88 rfl (lv_at hl 0 rfl) ?_
      refine va_get (D := E.1) (ci := 8) (v := .int o_place) (C := RX8) (T := TX8) (N := 10) hx hb hts inX8 hown hK hP 0 rfl rfl 3 (by decide) (hts _ fl_X8_50) (fun _ h9 => h9) rfl dX8_takeLetters_89 ?_
      refine lv_isub hx hb dX8_takeLetters_92 ?_
      refine lv_bipush (v := 8) hx hb dX8_takeLetters_93 (by decide) ?_
      refine lv_icmp_gt (tgt := 103) hx hb dX8_takeLetters_95 (by decide) (fun hc => ?_) (fun hc => ?_)
      · have hf := it_t hc hf
        obtain rfl := Option.some.inj hf
        subst hq
        exact retV cx hP hD hS dX8_takeLetters_103
      · have hf := it_f hc hf
        refine lv_aload_n hx hb dX8_takeLetters_98 rfl (lv_at hl 0 rfl) ?_
        refine lv_lload_n hx hb dX8_takeLetters_99 rfl (lv_at hl 1 rfl) ?_
        refine va_put (D := E.1) (ci := 8) (v := .long v1_j69) (ty := .long) (C := RX8) (T := TX8) (N := 10) hx hb hts inX8 tyX8 tyX8_ok nmX8 hown hK hP hD hS 0 rfl rfl 7 (by decide) (hts _ fl_X8_60) (fun _ h9 => h9) rfl (by decide +kernel) rfl rfl (Nat.le_of_ble_eq_true rfl) dX8_takeLetters_100 (fun H locs hP hD hS => ?_)
        have hP : va_P E.1 vwCl (wd_X8_takeLetters E a_o a_o_text o_held o_length o_place o_next_j69 o_sort_j69 u71 v1_j69 o_fault o_faultPlace o_text) H := hP
        have hD : va_D A (wd_X8_takeLetters E a_o a_o_text o_held o_length o_place o_next_j69 o_sort_j69 u71 v1_j69 o_fault o_faultPlace o_text) := hD
        obtain rfl := Option.some.inj hf
        subst hq
        exact retV cx hP hD hS dX8_takeLetters_103
  unfold X8_takeLetters at hf
  refine lv_aload_n hx hb dX8_takeLetters_0 rfl (lv_at hl 0 rfl) ?_
  refine lv_iconst (v := 1) hx hb dX8_takeLetters_1 (by decide) ?_
  refine va_put (D := E.1) (ci := 8) (v := .int 1) (ty := .int) (C := RX8) (T := TX8) (N := 10) hx hb hts inX8 tyX8 tyX8_ok nmX8 hown hK hP hD hS 0 rfl rfl 5 (by decide) (hts _ fl_X8_47) (fun _ h9 => h9) rfl (by decide +kernel) rfl rfl (Nat.le_of_ble_eq_true rfl) dX8_takeLetters_2 (fun H locs hP hD hS => ?_)
  have hP : va_P E.1 vwCl (wd_X8_takeLetters E a_o a_o_text o_held o_length o_place o_next 1 o_value o_code o_fault o_faultPlace o_text) H := hP
  have hD : va_D A (wd_X8_takeLetters E a_o a_o_text o_held o_length o_place o_next 1 o_value o_code o_fault o_faultPlace o_text) := hD
  refine lv_lconst (v := 0) hx hb dX8_takeLetters_5 (by decide) ?_
  refine lv_lstore_n (lv' := [(1, .long 0), (0, .ref a_o)]) hx hb dX8_takeLetters_6 rfl hl (by decide) rfl (fun ls hl => ?_)
  obtain ⟨e7, hit7, hf⟩ := bd hf
  refine iter_W (b := X8_takeLetters_b7 F o_length o_place 1 o_value o_code o_text) (P := fun st7 => ∀ (H : Heap) (locs : List Loc) (ls : Array Slot), va_P E.1 vwCl (wd_X8_takeLetters E a_o a_o_text o_held o_length o_place st7.2 1 o_value o_code o_fault o_faultPlace o_text) H → va_D A (wd_X8_takeLetters E a_o a_o_text o_held o_length o_place st7.2 1 o_value o_code o_fault o_faultPlace o_text) → va_S A s.heap H locs → lv_has ls 3 [(0, .ref a_o), (1, .long st7.1)] → W p l e (rmd 5) s m aa below meth cd H locs 0 0 QQ (F0 m 7 ls [])) (G := (fun (e7 : Int64 × Int32) => ∀ (H : Heap) (locs : List Loc) (ls : Array Slot), va_P E.1 vwCl (wd_X8_takeLetters E a_o a_o_text o_held o_length o_place e7.2 1 o_value o_code o_fault o_faultPlace o_text) H → va_D A (wd_X8_takeLetters E a_o a_o_text o_held o_length o_place e7.2 1 o_value o_code o_fault o_faultPlace o_text) → va_S A s.heap H locs → lv_has ls 3 [(0, .ref a_o), (1, .long e7.1)] → W p l e (rmd 5) s m aa below meth cd H locs 0 0 QQ (F0 m 69 ls []))) ?_ F (0, o_next) e7 hit7 ?_ _ _ _ hP hD hS (lv_sub hl [1, 0] rfl)
  · intro st7 r7 hf hk7 he7 H locs ls hP hD hS hl
    unfold X8_takeLetters_b7 at hf
    refine lv_aload_n hx hb dX8_takeLetters_7 rfl (lv_at hl 0 rfl) ?_
    refine va_get (D := E.1) (ci := 8) (v := .int st7.2) (C := RX8) (T := TX8) (N := 10) hx hb hts inX8 hown hK hP 0 rfl rfl 4 (by decide) (hts _ fl_X8_38) (fun _ h9 => h9) rfl dX8_takeLetters_8 ?_
    refine lv_aload_n hx hb dX8_takeLetters_11 rfl (lv_at hl 0 rfl) ?_
    refine va_get (D := E.1) (ci := 8) (v := .int o_length) (C := RX8) (T := TX8) (N := 10) hx hb hts inX8 hown hK hP 0 rfl rfl 2 (by decide) (hts _ fl_X8_35) (fun _ h9 => h9) rfl dX8_takeLetters_12 ?_
    refine lv_icmp_ge (tgt := 69) hx hb dX8_takeLetters_15 (by decide) (fun hc => ?_) (fun hc => ?_)
    · have hf := it_t hc hf
      exact he7 _ (Option.some.inj hf).symm _ _ _ hP hD hS (lv_sub hl [0, 1] rfl)
    · have hf := it_f hc hf
      refine lv_aload_n hx hb dX8_takeLetters_18 rfl (lv_at hl 0 rfl) ?_
      refine va_get (D := E.1) (ci := 8) (v := .ref a_o_text) (C := RX8) (T := TX8) (N := 10) hx hb hts inX8 hown hK hP 0 rfl rfl 0 (by decide) (hts _ fl_X8_11) (fun _ h9 => h9) rfl dX8_takeLetters_19 ?_
      refine lv_aload_n hx hb dX8_takeLetters_22 rfl (lv_at hl 0 rfl) ?_
      refine va_get (D := E.1) (ci := 8) (v := .int st7.2) (C := RX8) (T := TX8) (N := 10) hx hb hts inX8 hown hK hP 0 rfl rfl 4 (by decide) (hts _ fl_X8_38) (fun _ h9 => h9) rfl dX8_takeLetters_23 ?_
      obtain ⟨hi, hf⟩ := ck hf
      refine r_iald 1 cx hP rfl hi dX8_takeLetters_26 ?_
      obtain ⟨u27, hu27, hf⟩ := bd hf
      refine keepSI (ct_X8_isLetter l E (jat o_text st7.2) u27 hu27) [] cal_X8_isLetter sta_X8_isLetter lk_X8_64 cx hP hD hS hl dX8_takeLetters_27 rfl rfl (Nat.le_of_ble_eq_true rfl) ⟨Nat.le_of_ble_eq_true rfl, Nat.le_of_ble_eq_true rfl⟩ rfl (by decide) (fun H locs hP hS => ?_)
      refine lv_if_eq (tgt := 69) hx hb dX8_takeLetters_30 (by decide) (fun hc => ?_) (fun hc => ?_)
      · have hf := it_t hc hf
        exact he7 _ (Option.some.inj hf).symm _ _ _ hP hD hS (lv_sub hl [0, 1] rfl)
      · have hf := it_f hc hf
        refine lv_lload_n hx hb dX8_takeLetters_33 rfl (lv_at hl 1 rfl) ?_
        refine lv_ldc2 (v := 32) hx hb hown (hts _ kl_X8_76) dX8_takeLetters_34 ?_
        refine lv_lmul hx hb dX8_takeLetters_37 ?_
        refine lv_aload_n hx hb dX8_takeLetters_38 rfl (lv_at hl 0 rfl) ?_
        refine va_get (D := E.1) (ci := 8) (v := .ref a_o_text) (C := RX8) (T := TX8) (N := 10) hx hb hts inX8 hown hK hP 0 rfl rfl 0 (by decide) (hts _ fl_X8_11) (fun _ h9 => h9) rfl dX8_takeLetters_39 ?_
        refine lv_aload_n hx hb dX8_takeLetters_42 rfl (lv_at hl 0 rfl) ?_
        refine va_get (D := E.1) (ci := 8) (v := .int st7.2) (C := RX8) (T := TX8) (N := 10) hx hb hts inX8 hown hK hP 0 rfl rfl 4 (by decide) (hts _ fl_X8_38) (fun _ h9 => h9) rfl dX8_takeLetters_43 ?_
        obtain ⟨hi, hf⟩ := ck hf
        refine r_iald 1 cx hP rfl hi dX8_takeLetters_46 ?_
        refine lv_i2l (v := (jat o_text st7.2).toInt64) hx hb dX8_takeLetters_47 rfl ?_
        refine lv_ladd hx hb dX8_takeLetters_48 ?_
        refine lv_ldc2 (v := 97) hx hb hown (hts _ kl_X8_78) dX8_takeLetters_49 ?_
        refine lv_lsub hx hb dX8_takeLetters_52 ?_
        refine lv_lconst (v := 1) hx hb dX8_takeLetters_53 (by decide) ?_
        refine lv_ladd hx hb dX8_takeLetters_54 ?_
        refine lv_lstore_n (lv' := [(1, .long ((((st7.1 * 32) + (jat o_text st7.2).toInt64) - 97) + 1)), (0, .ref a_o)]) hx hb dX8_takeLetters_55 rfl hl (by decide) rfl (fun ls hl => ?_)
        refine lv_aload_n hx hb dX8_takeLetters_56 rfl (lv_at hl 1 rfl) ?_
        refine lv_dup hx hb dX8_takeLetters_57 rfl ?_
        refine va_get (D := E.1) (ci := 8) (v := .int st7.2) (C := RX8) (T := TX8) (N := 10) hx hb hts inX8 hown hK hP 0 rfl rfl 4 (by decide) (hts _ fl_X8_38) (fun _ h9 => h9) rfl dX8_takeLetters_58 ?_
        refine lv_iconst (v := 1) hx hb dX8_takeLetters_61 (by decide) ?_
        refine lv_iadd hx hb dX8_takeLetters_62 ?_
        refine va_put (D := E.1) (ci := 8) (v := .int (st7.2 + 1)) (ty := .int) (C := RX8) (T := TX8) (N := 10) hx hb hts inX8 tyX8 tyX8_ok nmX8 hown hK hP hD hS 0 rfl rfl 4 (by decide) (hts _ fl_X8_38) (fun _ h9 => h9) rfl (by decide +kernel) rfl rfl (Nat.le_of_ble_eq_true rfl) dX8_takeLetters_63 (fun H locs hP hD hS => ?_)
        have hP : va_P E.1 vwCl (wd_X8_takeLetters E a_o a_o_text o_held o_length o_place (st7.2 + 1) 1 o_value o_code o_fault o_faultPlace o_text) H := hP
        have hD : va_D A (wd_X8_takeLetters E a_o a_o_text o_held o_length o_place (st7.2 + 1) 1 o_value o_code o_fault o_faultPlace o_text) := hD
        refine lv_goto (tgt := 7) hx hb dX8_takeLetters_66 (by decide) ?_
        exact hk7 _ (Option.some.inj hf).symm _ _ _ hP hD hS (lv_sub hl [1, 0] rfl)
  · refine fun H locs ls hP hD hS hl => ?_
    exact hj69 _ _ _ _ _ _ _ _ hf hP hD hS (lv_sub hl [0, 1] rfl)
def X8_isDigit_j16  : Option (Int32) :=
  some 0
def X8_isDigit (v0 : Int32) : Option (Int32) :=
  if v0 < 48 then
  X8_isDigit_j16
  else
  if (57 : Int32) < v0 then
  X8_isDigit_j16
  else
  some 1
abbrev wd_X8_isDigit (E : vE) : va_W := []
set_option maxHeartbeats 4000000 in
set_option maxRecDepth 100000 in
theorem ct_X8_isDigit (l : Launch) (E : vE) (v0 : Int32) (u : Int32) (hf : X8_isDigit v0 = some u) :
    CtI l yX8_isDigit cX8_isDigit 1 (some .boolean) 0 E [.int v0] (wd_X8_isDigit E) (wd_X8_isDigit E) u := by
  refine ctI (by decide) (Nat.le_of_ble_eq_true rfl) ?_
  intro p e s m below meth cd A ls aa QQ hq cx hP hD hS hl
  obtain ⟨⟨hx, hb, hml, hown, hts⟩, hr, hlocks, hK, hA, hX⟩ := id cx
  have hl : lv_has ls 1 [(0, .int v0)] := hl
  have hj16 : ∀ (H : Heap) (locs : List Loc) (ls : Array Slot), X8_isDigit_j16 = some u → va_P E.1 vwCl (wd_X8_isDigit E) H → va_D A (wd_X8_isDigit E) → va_S A s.heap H locs → lv_has ls 1 [] → W p l e (rmd 0) s m aa below meth cd H locs 0 0 QQ (F0 m 16 ls []) := by
    intro H locs ls hf hP hD hS hl
    unfold X8_isDigit_j16 at hf
    refine lv_iconst (v := 0) hx hb dX8_isDigit_16 (by decide) ?_
    obtain rfl := Option.some.inj hf
    subst hq
    exact retZ cx rfl hP hD hS dX8_isDigit_17
  unfold X8_isDigit at hf
  refine lv_iload_n hx hb dX8_isDigit_0 rfl (lv_at hl 0 rfl) ?_
  refine lv_bipush (v := 48) hx hb dX8_isDigit_1 (by decide) ?_
  refine lv_icmp_lt (tgt := 16) hx hb dX8_isDigit_3 (by decide) (fun hc => ?_) (fun hc => ?_)
  · have hf := it_t hc hf
    exact hj16  _ _ _ hf hP hD hS (lv_sub hl [] rfl)
  · have hf := it_f hc hf
    refine lv_iload_n hx hb dX8_isDigit_6 rfl (lv_at hl 0 rfl) ?_
    refine lv_bipush (v := 57) hx hb dX8_isDigit_7 (by decide) ?_
    refine lv_icmp_gt (tgt := 16) hx hb dX8_isDigit_9 (by decide) (fun hc => ?_) (fun hc => ?_)
    · have hf := it_t hc hf
      exact hj16  _ _ _ hf hP hD hS (lv_sub hl [] rfl)
    · have hf := it_f hc hf
      refine lv_iconst (v := 1) hx hb dX8_isDigit_12 (by decide) ?_
      refine lv_goto (tgt := 17) hx hb dX8_isDigit_13 (by decide) ?_
      obtain rfl := Option.some.inj hf
      subst hq
      exact retZ cx rfl hP hD hS dX8_isDigit_17
def X8_takeDigits_j95 (F : Nat) (o_length : Int32) (o_place : Int32) (o_next : Int32) (o_sort : Int32) (o_value : Int32) (o_text : Nat → Int32) (k0 : Int32) : Option (Int32 × Int32 × Int32) :=
  some (o_next, k0, o_value)
def X8_takeDigits_j76 (F : Nat) (o_length : Int32) (o_place : Int32) (o_next : Int32) (o_sort : Int32) (o_value : Int32) (o_text : Nat → Int32) : Option (Int32 × Int32 × Int32) :=
  if (4 : Int32) < (o_next - o_place) then
  X8_takeDigits_j95 F o_length o_place o_next o_sort o_value o_text 4
  else
  X8_takeDigits_j95 F o_length o_place o_next o_sort o_value o_text 2
def X8_takeDigits_j63 (F : Nat) (o_length : Int32) (o_place : Int32) (o_next : Int32) (o_sort : Int32) (o_value : Int32) (o_text : Nat → Int32) : Option ((Int32 × Int32) ⊕ ((Int32 × Int32))) :=
  some (.inl ((o_next + 1), o_value))
def X8_takeDigits_b0 (F : Nat) (o_length : Int32) (o_place : Int32) (o_sort : Int32) (o_text : Nat → Int32) (st0 : Int32 × Int32) : Option ((Int32 × Int32) ⊕ ((Int32 × Int32))) :=
  if o_length ≤ st0.1 then
  some (.inr (st0.1, st0.2))
  else
  if ix st0.1 900 then
  (X8_isDigit (jat o_text st0.1)).bind fun u20 =>
  if u20 = 0 then
  some (.inr (st0.1, st0.2))
  else
  if (4 : Int32) ≤ (st0.1 - o_place) then
  X8_takeDigits_j63 F o_length o_place st0.1 o_sort st0.2 o_text
  else
  if ix st0.1 900 then
  X8_takeDigits_j63 F o_length o_place st0.1 o_sort (((st0.2 * 10) + (jat o_text st0.1)) - 48) o_text
  else none
  else none
def X8_takeDigits (F : Nat) (o_length : Int32) (o_place : Int32) (o_next : Int32) (o_sort : Int32) (o_value : Int32) (o_text : Nat → Int32) : Option (Int32 × Int32 × Int32) :=
  (iter (X8_takeDigits_b0 F o_length o_place o_sort o_text) F (o_next, o_value)).bind (fun (e0 : Int32 × Int32) =>
    X8_takeDigits_j76 F o_length o_place e0.1 o_sort e0.2 o_text)
abbrev wd_X8_takeDigits (E : vE) (a_o a_o_text : Nat) (o_held : Int32) (o_length : Int32) (o_place : Int32) (o_next : Int32) (o_sort : Int32) (o_value : Int32) (o_code : Int64) (o_fault : Int32) (o_faultPlace : Int32) (o_text : Nat → Int32) : va_W := [(a_o, .inr (8, [.ref a_o_text, .int o_held, .int o_length, .int o_place, .int o_next, .int o_sort, .int o_value, .long o_code, .int o_fault, .int o_faultPlace])), (a_o_text, .inl (E.2.1, 900, .inl o_text))]
set_option maxHeartbeats 4000000 in
set_option maxRecDepth 100000 in
theorem ct_X8_takeDigits (l : Launch) (E : vE) (F : Nat) (a_o a_o_text : Nat) (o_held : Int32) (o_length : Int32) (o_place : Int32) (o_next : Int32) (o_sort : Int32) (o_value : Int32) (o_code : Int64) (o_fault : Int32) (o_faultPlace : Int32) (o_text : Nat → Int32) (u : Int32 × Int32 × Int32) (hf : X8_takeDigits F o_length o_place o_next o_sort o_value o_text = some u) :
    CtV l yX8_takeDigits cX8_takeDigits 1 none 1 E [.ref a_o] (wd_X8_takeDigits E a_o a_o_text o_held o_length o_place o_next o_sort o_value o_code o_fault o_faultPlace o_text) (wd_X8_takeDigits E a_o a_o_text o_held o_length o_place u.1 u.2.1 u.2.2 o_code o_fault o_faultPlace o_text) := by
  refine ctV (by decide) (Nat.le_of_ble_eq_true rfl) ?_
  intro p e s m below meth cd A ls aa QQ hq cx hP hD hS hl
  obtain ⟨⟨hx, hb, hml, hown, hts⟩, hr, hlocks, hK, hA, hX⟩ := id cx
  have hl : lv_has ls 1 [(0, .ref a_o)] := hl
  have hj95 : ∀ (o_next_j95 : Int32) (o_sort_j95 : Int32) (o_value_j95 : Int32) (k0_j95 : Int32) (H : Heap) (locs : List Loc) (ls : Array Slot), X8_takeDigits_j95 F o_length o_place o_next_j95 o_sort_j95 o_value_j95 o_text k0_j95 = some u → va_P E.1 vwCl (wd_X8_takeDigits E a_o a_o_text o_held o_length o_place o_next_j95 o_sort_j95 o_value_j95 o_code o_fault o_faultPlace o_text) H → va_D A (wd_X8_takeDigits E a_o a_o_text o_held o_length o_place o_next_j95 o_sort_j95 o_value_j95 o_code o_fault o_faultPlace o_text) → va_S A s.heap H locs → lv_has ls 1 [] → W p l e (rmd 1) s m aa below meth cd H locs 0 0 QQ (F0 m 95 ls [.int k0_j95, .ref a_o]) := by
    intro o_next_j95 o_sort_j95 o_value_j95 k0_j95 H locs ls hf hP hD hS hl
    unfold X8_takeDigits_j95 at hf
    refine va_put (D := E.1) (ci := 8) (v := .int k0_j95) (ty := .int) (C := RX8) (T := TX8) (N := 10) hx hb hts inX8 tyX8 tyX8_ok nmX8 hown hK hP hD hS 0 rfl rfl 5 (by decide) (hts _ fl_X8_47) (fun _ h9 => h9) rfl (by decide +kernel) rfl rfl (Nat.le_of_ble_eq_true rfl) dX8_takeDigits_95 (fun H locs hP hD hS => ?_)
    have hP : va_P E.1 vwCl (wd_X8_takeDigits E a_o a_o_text o_held o_length o_place o_next_j95 k0_j95 o_value_j95 o_code o_fault o_faultPlace o_text) H := hP
    have hD : va_D A (wd_X8_takeDigits E a_o a_o_text o_held o_length o_place o_next_j95 k0_j95 o_value_j95 o_code o_fault o_faultPlace o_text) := hD
    obtain rfl := Option.some.inj hf
    subst hq
    exact retV cx hP hD hS dX8_takeDigits_98
  have hj76 : ∀ (o_next_j76 : Int32) (o_sort_j76 : Int32) (o_value_j76 : Int32) (H : Heap) (locs : List Loc) (ls : Array Slot), X8_takeDigits_j76 F o_length o_place o_next_j76 o_sort_j76 o_value_j76 o_text = some u → va_P E.1 vwCl (wd_X8_takeDigits E a_o a_o_text o_held o_length o_place o_next_j76 o_sort_j76 o_value_j76 o_code o_fault o_faultPlace o_text) H → va_D A (wd_X8_takeDigits E a_o a_o_text o_held o_length o_place o_next_j76 o_sort_j76 o_value_j76 o_code o_fault o_faultPlace o_text) → va_S A s.heap H locs → lv_has ls 1 [(0, .ref a_o)] → W p l e (rmd 1) s m aa below meth cd H locs 0 0 QQ (F0 m 76 ls []) := by
    intro o_next_j76 o_sort_j76 o_value_j76 H locs ls hf hP hD hS hl
    unfold X8_takeDigits_j76 at hf
    refine lv_aload_n hx hb dX8_takeDigits_76 rfl (lv_at hl 0 rfl) ?_
    refine lv_aload_n hx hb dX8_takeDigits_77 rfl (lv_at hl 0 rfl) ?_
    refine va_get (D := E.1) (ci := 8) (v := .int o_next_j76) (C := RX8) (T := TX8) (N := 10) hx hb hts inX8 hown hK hP 0 rfl rfl 4 (by decide) (hts _ fl_X8_38) (fun _ h9 => h9) rfl dX8_takeDigits_78 ?_
    refine lv_aload_n hx hb dX8_takeDigits_81 rfl (lv_at hl 0 rfl) ?_
    refine va_get (D := E.1) (ci := 8) (v := .int o_place) (C := RX8) (T := TX8) (N := 10) hx hb hts inX8 hown hK hP 0 rfl rfl 3 (by decide) (hts _ fl_X8_50) (fun _ h9 => h9) rfl dX8_takeDigits_82 ?_
    refine lv_isub hx hb dX8_takeDigits_85 ?_
    refine lv_iconst (v := 4) hx hb dX8_takeDigits_86 (by decide) ?_
    refine lv_icmp_gt (tgt := 94) hx hb dX8_takeDigits_87 (by decide) (fun hc => ?_) (fun hc => ?_)
    · have hf := it_t hc hf
      refine lv_iconst (v := 4) hx hb dX8_takeDigits_94 (by decide) ?_
      exact hj95 _ _ _ _ _ _ _ hf hP hD hS (lv_sub hl [] rfl)
    · have hf := it_f hc hf
      refine lv_iconst (v := 2) hx hb dX8_takeDigits_90 (by decide) ?_
      refine lv_goto (tgt := 95) hx hb dX8_takeDigits_91 (by decide) ?_
      exact hj95 _ _ _ _ _ _ _ hf hP hD hS (lv_sub hl [] rfl)
  unfold X8_takeDigits at hf
  obtain ⟨e0, hit0, hf⟩ := bd hf
  refine iter_W (b := X8_takeDigits_b0 F o_length o_place o_sort o_text) (P := fun st0 => ∀ (H : Heap) (locs : List Loc) (ls : Array Slot), va_P E.1 vwCl (wd_X8_takeDigits E a_o a_o_text o_held o_length o_place st0.1 o_sort st0.2 o_code o_fault o_faultPlace o_text) H → va_D A (wd_X8_takeDigits E a_o a_o_text o_held o_length o_place st0.1 o_sort st0.2 o_code o_fault o_faultPlace o_text) → va_S A s.heap H locs → lv_has ls 1 [(0, .ref a_o)] → W p l e (rmd 1) s m aa below meth cd H locs 0 0 QQ (F0 m 0 ls [])) (G := (fun (e0 : Int32 × Int32) => ∀ (H : Heap) (locs : List Loc) (ls : Array Slot), va_P E.1 vwCl (wd_X8_takeDigits E a_o a_o_text o_held o_length o_place e0.1 o_sort e0.2 o_code o_fault o_faultPlace o_text) H → va_D A (wd_X8_takeDigits E a_o a_o_text o_held o_length o_place e0.1 o_sort e0.2 o_code o_fault o_faultPlace o_text) → va_S A s.heap H locs → lv_has ls 1 [(0, .ref a_o)] → W p l e (rmd 1) s m aa below meth cd H locs 0 0 QQ (F0 m 76 ls []))) ?_ F (o_next, o_value) e0 hit0 ?_ _ _ _ hP hD hS (lv_sub hl [0] rfl)
  · intro st0 r0 hf hk0 he0 H locs ls hP hD hS hl
    have hj63 : ∀ (o_next_j63 : Int32) (o_value_j63 : Int32) (H : Heap) (locs : List Loc) (ls : Array Slot), X8_takeDigits_j63 F o_length o_place o_next_j63 o_sort o_value_j63 o_text = some r0 → va_P E.1 vwCl (wd_X8_takeDigits E a_o a_o_text o_held o_length o_place o_next_j63 o_sort o_value_j63 o_code o_fault o_faultPlace o_text) H → va_D A (wd_X8_takeDigits E a_o a_o_text o_held o_length o_place o_next_j63 o_sort o_value_j63 o_code o_fault o_faultPlace o_text) → va_S A s.heap H locs → lv_has ls 1 [(0, .ref a_o)] → W p l e (rmd 1) s m aa below meth cd H locs 0 0 QQ (F0 m 63 ls []) := by
      intro o_next_j63 o_value_j63 H locs ls hf hP hD hS hl
      unfold X8_takeDigits_j63 at hf
      refine lv_aload_n hx hb dX8_takeDigits_63 rfl (lv_at hl 0 rfl) ?_
      refine lv_dup hx hb dX8_takeDigits_64 rfl ?_
      refine va_get (D := E.1) (ci := 8) (v := .int o_next_j63) (C := RX8) (T := TX8) (N := 10) hx hb hts inX8 hown hK hP 0 rfl rfl 4 (by decide) (hts _ fl_X8_38) (fun _ h9 => h9) rfl dX8_takeDigits_65 ?_
      refine lv_iconst (v := 1) hx hb dX8_takeDigits_68 (by decide) ?_
      refine lv_iadd hx hb dX8_takeDigits_69 ?_
      refine va_put (D := E.1) (ci := 8) (v := .int (o_next_j63 + 1)) (ty := .int) (C := RX8) (T := TX8) (N := 10) hx hb hts inX8 tyX8 tyX8_ok nmX8 hown hK hP hD hS 0 rfl rfl 4 (by decide) (hts _ fl_X8_38) (fun _ h9 => h9) rfl (by decide +kernel) rfl rfl (Nat.le_of_ble_eq_true rfl) dX8_takeDigits_70 (fun H locs hP hD hS => ?_)
      have hP : va_P E.1 vwCl (wd_X8_takeDigits E a_o a_o_text o_held o_length o_place (o_next_j63 + 1) o_sort o_value_j63 o_code o_fault o_faultPlace o_text) H := hP
      have hD : va_D A (wd_X8_takeDigits E a_o a_o_text o_held o_length o_place (o_next_j63 + 1) o_sort o_value_j63 o_code o_fault o_faultPlace o_text) := hD
      refine lv_goto (tgt := 0) hx hb dX8_takeDigits_73 (by decide) ?_
      exact hk0 _ (Option.some.inj hf).symm _ _ _ hP hD hS (lv_sub hl [0] rfl)
    unfold X8_takeDigits_b0 at hf
    refine lv_aload_n hx hb dX8_takeDigits_0 rfl (lv_at hl 0 rfl) ?_
    refine va_get (D := E.1) (ci := 8) (v := .int st0.1) (C := RX8) (T := TX8) (N := 10) hx hb hts inX8 hown hK hP 0 rfl rfl 4 (by decide) (hts _ fl_X8_38) (fun _ h9 => h9) rfl dX8_takeDigits_1 ?_
    refine lv_aload_n hx hb dX8_takeDigits_4 rfl (lv_at hl 0 rfl) ?_
    refine va_get (D := E.1) (ci := 8) (v := .int o_length) (C := RX8) (T := TX8) (N := 10) hx hb hts inX8 hown hK hP 0 rfl rfl 2 (by decide) (hts _ fl_X8_35) (fun _ h9 => h9) rfl dX8_takeDigits_5 ?_
    refine lv_icmp_ge (tgt := 76) hx hb dX8_takeDigits_8 (by decide) (fun hc => ?_) (fun hc => ?_)
    · have hf := it_t hc hf
      exact he0 _ (Option.some.inj hf).symm _ _ _ hP hD hS (lv_sub hl [0] rfl)
    · have hf := it_f hc hf
      refine lv_aload_n hx hb dX8_takeDigits_11 rfl (lv_at hl 0 rfl) ?_
      refine va_get (D := E.1) (ci := 8) (v := .ref a_o_text) (C := RX8) (T := TX8) (N := 10) hx hb hts inX8 hown hK hP 0 rfl rfl 0 (by decide) (hts _ fl_X8_11) (fun _ h9 => h9) rfl dX8_takeDigits_12 ?_
      refine lv_aload_n hx hb dX8_takeDigits_15 rfl (lv_at hl 0 rfl) ?_
      refine va_get (D := E.1) (ci := 8) (v := .int st0.1) (C := RX8) (T := TX8) (N := 10) hx hb hts inX8 hown hK hP 0 rfl rfl 4 (by decide) (hts _ fl_X8_38) (fun _ h9 => h9) rfl dX8_takeDigits_16 ?_
      obtain ⟨hi, hf⟩ := ck hf
      refine r_iald 1 cx hP rfl hi dX8_takeDigits_19 ?_
      obtain ⟨u20, hu20, hf⟩ := bd hf
      refine keepSI (ct_X8_isDigit l E (jat o_text st0.1) u20 hu20) [] cal_X8_isDigit sta_X8_isDigit lk_X8_70 cx hP hD hS hl dX8_takeDigits_20 rfl rfl (Nat.le_of_ble_eq_true rfl) ⟨Nat.le_of_ble_eq_true rfl, Nat.le_of_ble_eq_true rfl⟩ rfl (by decide) (fun H locs hP hS => ?_)
      refine lv_if_eq (tgt := 76) hx hb dX8_takeDigits_23 (by decide) (fun hc => ?_) (fun hc => ?_)
      · have hf := it_t hc hf
        exact he0 _ (Option.some.inj hf).symm _ _ _ hP hD hS (lv_sub hl [0] rfl)
      · have hf := it_f hc hf
        refine lv_aload_n hx hb dX8_takeDigits_26 rfl (lv_at hl 0 rfl) ?_
        refine va_get (D := E.1) (ci := 8) (v := .int st0.1) (C := RX8) (T := TX8) (N := 10) hx hb hts inX8 hown hK hP 0 rfl rfl 4 (by decide) (hts _ fl_X8_38) (fun _ h9 => h9) rfl dX8_takeDigits_27 ?_
        refine lv_aload_n hx hb dX8_takeDigits_30 rfl (lv_at hl 0 rfl) ?_
        refine va_get (D := E.1) (ci := 8) (v := .int o_place) (C := RX8) (T := TX8) (N := 10) hx hb hts inX8 hown hK hP 0 rfl rfl 3 (by decide) (hts _ fl_X8_50) (fun _ h9 => h9) rfl dX8_takeDigits_31 ?_
        refine lv_isub hx hb dX8_takeDigits_34 ?_
        refine lv_iconst (v := 4) hx hb dX8_takeDigits_35 (by decide) ?_
        refine lv_icmp_ge (tgt := 63) hx hb dX8_takeDigits_36 (by decide) (fun hc => ?_) (fun hc => ?_)
        · have hf := it_t hc hf
          exact hj63 _ _ _ _ _ hf hP hD hS (lv_sub hl [0] rfl)
        · have hf := it_f hc hf
          refine lv_aload_n hx hb dX8_takeDigits_39 rfl (lv_at hl 0 rfl) ?_
          refine lv_aload_n hx hb dX8_takeDigits_40 rfl (lv_at hl 0 rfl) ?_
          refine va_get (D := E.1) (ci := 8) (v := .int st0.2) (C := RX8) (T := TX8) (N := 10) hx hb hts inX8 hown hK hP 0 rfl rfl 6 (by decide) (hts _ fl_X8_57) (fun _ h9 => h9) rfl dX8_takeDigits_41 ?_
          refine lv_bipush (v := 10) hx hb dX8_takeDigits_44 (by decide) ?_
          refine lv_imul hx hb dX8_takeDigits_46 ?_
          refine lv_aload_n hx hb dX8_takeDigits_47 rfl (lv_at hl 0 rfl) ?_
          refine va_get (D := E.1) (ci := 8) (v := .ref a_o_text) (C := RX8) (T := TX8) (N := 10) hx hb hts inX8 hown hK hP 0 rfl rfl 0 (by decide) (hts _ fl_X8_11) (fun _ h9 => h9) rfl dX8_takeDigits_48 ?_
          refine lv_aload_n hx hb dX8_takeDigits_51 rfl (lv_at hl 0 rfl) ?_
          refine va_get (D := E.1) (ci := 8) (v := .int st0.1) (C := RX8) (T := TX8) (N := 10) hx hb hts inX8 hown hK hP 0 rfl rfl 4 (by decide) (hts _ fl_X8_38) (fun _ h9 => h9) rfl dX8_takeDigits_52 ?_
          obtain ⟨hi, hf⟩ := ck hf
          refine r_iald 1 cx hP rfl hi dX8_takeDigits_55 ?_
          refine lv_iadd hx hb dX8_takeDigits_56 ?_
          refine lv_bipush (v := 48) hx hb dX8_takeDigits_57 (by decide) ?_
          refine lv_isub hx hb dX8_takeDigits_59 ?_
          refine va_put (D := E.1) (ci := 8) (v := .int (((st0.2 * 10) + (jat o_text st0.1)) - 48)) (ty := .int) (C := RX8) (T := TX8) (N := 10) hx hb hts inX8 tyX8 tyX8_ok nmX8 hown hK hP hD hS 0 rfl rfl 6 (by decide) (hts _ fl_X8_57) (fun _ h9 => h9) rfl (by decide +kernel) rfl rfl (Nat.le_of_ble_eq_true rfl) dX8_takeDigits_60 (fun H locs hP hD hS => ?_)
          have hP : va_P E.1 vwCl (wd_X8_takeDigits E a_o a_o_text o_held o_length o_place st0.1 o_sort (((st0.2 * 10) + (jat o_text st0.1)) - 48) o_code o_fault o_faultPlace o_text) H := hP
          have hD : va_D A (wd_X8_takeDigits E a_o a_o_text o_held o_length o_place st0.1 o_sort (((st0.2 * 10) + (jat o_text st0.1)) - 48) o_code o_fault o_faultPlace o_text) := hD
          exact hj63 _ _ _ _ _ hf hP hD hS (lv_sub hl [0] rfl)
  · refine fun H locs ls hP hD hS hl => ?_
    exact hj76 _ _ _ _ _ _ hf hP hD hS (lv_sub hl [0] rfl)
def X8_advance_j149 (F : Nat) (o_length : Int32) (o_place : Int32) (o_next : Int32) (o_sort : Int32) (o_value : Int32) (o_code : Int64) (o_text : Nat → Int32) (v1 : Int32) : Option (Int32 × Int32 × Int32 × Int32 × Int64) :=
  some (o_place, (o_next + 1), 3, v1, o_code)
def X8_advance_j52 (F : Nat) (o_length : Int32) (o_place : Int32) (o_next : Int32) (o_sort : Int32) (o_value : Int32) (o_code : Int64) (o_text : Nat → Int32) : Option (Int32 × Int32 × Int32 × Int32 × Int64) :=
  if o_next < o_length then
  if ix o_next 900 then
  (X8_isLetter (jat o_text o_next)).bind fun u98 =>
  if u98 = 0 then
  (X8_isDigit (jat o_text o_next)).bind fun u112 =>
  if u112 = 0 then
  if (jat o_text o_next) = 59 then
  X8_advance_j149 F o_length o_next o_next o_sort 0 0 o_text (jat o_text o_next)
  else
  if (jat o_text o_next) = 60 then
  X8_advance_j149 F o_length o_next o_next o_sort 0 0 o_text (jat o_text o_next)
  else
  if (jat o_text o_next) = 62 then
  X8_advance_j149 F o_length o_next o_next o_sort 0 0 o_text (jat o_text o_next)
  else
  if (jat o_text o_next) = 61 then
  X8_advance_j149 F o_length o_next o_next o_sort 0 0 o_text (jat o_text o_next)
  else
  some (o_next, o_next, 4, 0, 0)
  else
  (X8_takeDigits F o_length o_next o_next o_sort 0 o_text).bind fun u119 =>
  some (o_next, u119.1, u119.2.1, u119.2.2, 0)
  else
  (X8_takeLetters F o_length o_next o_next o_sort 0 0 o_text).bind fun u105 =>
  some (o_next, u105.1, u105.2.1, u105.2.2.1, u105.2.2.2)
  else none
  else
  some (o_next, o_next, 0, 0, 0)
def X8_advance_j39 (F : Nat) (o_length : Int32) (o_place : Int32) (o_next : Int32) (o_sort : Int32) (o_value : Int32) (o_code : Int64) (o_text : Nat → Int32) : Option ((Int32) ⊕ ((Int32))) :=
  some (.inl (o_next + 1))
def X8_advance_b0 (F : Nat) (o_length : Int32) (o_place : Int32) (o_sort : Int32) (o_value : Int32) (o_code : Int64) (o_text : Nat → Int32) (st0 : Int32) : Option ((Int32) ⊕ ((Int32))) :=
  if o_length ≤ st0 then
  some (.inr st0)
  else
  if ix st0 900 then
  if (jat o_text st0) = 10 then
  X8_advance_j39 F o_length o_place st0 o_sort o_value o_code o_text
  else
  if ix st0 900 then
  if (jat o_text st0) = 32 then
  X8_advance_j39 F o_length o_place st0 o_sort o_value o_code o_text
  else
  some (.inr st0)
  else none
  else none
def X8_advance (F : Nat) (o_length : Int32) (o_place : Int32) (o_next : Int32) (o_sort : Int32) (o_value : Int32) (o_code : Int64) (o_text : Nat → Int32) : Option (Int32 × Int32 × Int32 × Int32 × Int64) :=
  (iter (X8_advance_b0 F o_length o_place o_sort o_value o_code o_text) F o_next).bind (fun (e0 : Int32) =>
    X8_advance_j52 F o_length o_place e0 o_sort o_value o_code o_text)
abbrev wd_X8_advance (E : vE) (a_o a_o_text : Nat) (o_held : Int32) (o_length : Int32) (o_place : Int32) (o_next : Int32) (o_sort : Int32) (o_value : Int32) (o_code : Int64) (o_fault : Int32) (o_faultPlace : Int32) (o_text : Nat → Int32) : va_W := [(a_o, .inr (8, [.ref a_o_text, .int o_held, .int o_length, .int o_place, .int o_next, .int o_sort, .int o_value, .long o_code, .int o_fault, .int o_faultPlace])), (a_o_text, .inl (E.2.1, 900, .inl o_text))]
set_option maxHeartbeats 4000000 in
set_option maxRecDepth 100000 in
theorem ct_X8_advance (l : Launch) (E : vE) (F : Nat) (a_o a_o_text : Nat) (o_held : Int32) (o_length : Int32) (o_place : Int32) (o_next : Int32) (o_sort : Int32) (o_value : Int32) (o_code : Int64) (o_fault : Int32) (o_faultPlace : Int32) (o_text : Nat → Int32) (u : Int32 × Int32 × Int32 × Int32 × Int64) (hf : X8_advance F o_length o_place o_next o_sort o_value o_code o_text = some u) :
    CtV l yX8_advance cX8_advance 2 none 6 E [.ref a_o] (wd_X8_advance E a_o a_o_text o_held o_length o_place o_next o_sort o_value o_code o_fault o_faultPlace o_text) (wd_X8_advance E a_o a_o_text o_held o_length u.1 u.2.1 u.2.2.1 u.2.2.2.1 u.2.2.2.2 o_fault o_faultPlace o_text) := by
  refine ctV (by decide) (Nat.le_of_ble_eq_true rfl) ?_
  intro p e s m below meth cd A ls aa QQ hq cx hP hD hS hl
  obtain ⟨⟨hx, hb, hml, hown, hts⟩, hr, hlocks, hK, hA, hX⟩ := id cx
  have hl : lv_has ls 2 [(0, .ref a_o)] := hl
  have hj149 : ∀ (v1_j149 : Int32) (o_place_j149 : Int32) (o_next_j149 : Int32) (o_sort_j149 : Int32) (o_value_j149 : Int32) (o_code_j149 : Int64) (H : Heap) (locs : List Loc) (ls : Array Slot), X8_advance_j149 F o_length o_place_j149 o_next_j149 o_sort_j149 o_value_j149 o_code_j149 o_text v1_j149 = some u → va_P E.1 vwCl (wd_X8_advance E a_o a_o_text o_held o_length o_place_j149 o_next_j149 o_sort_j149 o_value_j149 o_code_j149 o_fault o_faultPlace o_text) H → va_D A (wd_X8_advance E a_o a_o_text o_held o_length o_place_j149 o_next_j149 o_sort_j149 o_value_j149 o_code_j149 o_fault o_faultPlace o_text) → va_S A s.heap H locs → lv_has ls 2 [(0, .ref a_o), (1, .int v1_j149)] → W p l e (rmd 6) s m aa below meth cd H locs 0 0 QQ (F0 m 149 ls []) := by
    intro v1_j149 o_place_j149 o_next_j149 o_sort_j149 o_value_j149 o_code_j149 H locs ls hf hP hD hS hl
    unfold X8_advance_j149 at hf
    refine lv_aload_n hx hb dX8_advance_149 rfl (lv_at hl 0 rfl) ?_
    refine lv_iconst (v := 3) hx hb dX8_advance_150 (by decide) ?_
    refine va_put (D := E.1) (ci := 8) (v := .int 3) (ty := .int) (C := RX8) (T := TX8) (N := 10) hx hb hts inX8 tyX8 tyX8_ok nmX8 hown hK hP hD hS 0 rfl rfl 5 (by decide) (hts _ fl_X8_47) (fun _ h9 => h9) rfl (by decide +kernel) rfl rfl (Nat.le_of_ble_eq_true rfl) dX8_advance_151 (fun H locs hP hD hS => ?_)
    have hP : va_P E.1 vwCl (wd_X8_advance E a_o a_o_text o_held o_length o_place_j149 o_next_j149 3 o_value_j149 o_code_j149 o_fault o_faultPlace o_text) H := hP
    have hD : va_D A (wd_X8_advance E a_o a_o_text o_held o_length o_place_j149 o_next_j149 3 o_value_j149 o_code_j149 o_fault o_faultPlace o_text) := hD
    refine lv_aload_n hx hb dX8_advance_154 rfl (lv_at hl 0 rfl) ?_
    refine lv_iload_n hx hb dX8_advance_155 rfl (lv_at hl 1 rfl) ?_
    refine va_put (D := E.1) (ci := 8) (v := .int v1_j149) (ty := .int) (C := RX8) (T := TX8) (N := 10) hx hb hts inX8 tyX8 tyX8_ok nmX8 hown hK hP hD hS 0 rfl rfl 6 (by decide) (hts _ fl_X8_57) (fun _ h9 => h9) rfl (by decide +kernel) rfl rfl (Nat.le_of_ble_eq_true rfl) dX8_advance_156 (fun H locs hP hD hS => ?_)
    have hP : va_P E.1 vwCl (wd_X8_advance E a_o a_o_text o_held o_length o_place_j149 o_next_j149 3 v1_j149 o_code_j149 o_fault o_faultPlace o_text) H := hP
    have hD : va_D A (wd_X8_advance E a_o a_o_text o_held o_length o_place_j149 o_next_j149 3 v1_j149 o_code_j149 o_fault o_faultPlace o_text) := hD
    refine lv_aload_n hx hb dX8_advance_159 rfl (lv_at hl 0 rfl) ?_
    refine lv_dup hx hb dX8_advance_160 rfl ?_
    refine va_get (D := E.1) (ci := 8) (v := .int o_next_j149) (C := RX8) (T := TX8) (N := 10) hx hb hts inX8 hown hK hP 0 rfl rfl 4 (by decide) (hts _ fl_X8_38) (fun _ h9 => h9) rfl dX8_advance_161 ?_
    refine lv_iconst (v := 1) hx hb dX8_advance_164 (by decide) ?_
    refine lv_iadd hx hb dX8_advance_165 ?_
    refine va_put (D := E.1) (ci := 8) (v := .int (o_next_j149 + 1)) (ty := .int) (C := RX8) (T := TX8) (N := 10) hx hb hts inX8 tyX8 tyX8_ok nmX8 hown hK hP hD hS 0 rfl rfl 4 (by decide) (hts _ fl_X8_38) (fun _ h9 => h9) rfl (by decide +kernel) rfl rfl (Nat.le_of_ble_eq_true rfl) dX8_advance_166 (fun H locs hP hD hS => ?_)
    have hP : va_P E.1 vwCl (wd_X8_advance E a_o a_o_text o_held o_length o_place_j149 (o_next_j149 + 1) 3 v1_j149 o_code_j149 o_fault o_faultPlace o_text) H := hP
    have hD : va_D A (wd_X8_advance E a_o a_o_text o_held o_length o_place_j149 (o_next_j149 + 1) 3 v1_j149 o_code_j149 o_fault o_faultPlace o_text) := hD
    refine lv_goto (tgt := 177) hx hb dX8_advance_169 (by decide) ?_
    obtain rfl := Option.some.inj hf
    subst hq
    exact retV cx hP hD hS dX8_advance_177
  have hj52 : ∀ (o_place_j52 : Int32) (o_next_j52 : Int32) (o_sort_j52 : Int32) (o_value_j52 : Int32) (o_code_j52 : Int64) (H : Heap) (locs : List Loc) (ls : Array Slot), X8_advance_j52 F o_length o_place_j52 o_next_j52 o_sort_j52 o_value_j52 o_code_j52 o_text = some u → va_P E.1 vwCl (wd_X8_advance E a_o a_o_text o_held o_length o_place_j52 o_next_j52 o_sort_j52 o_value_j52 o_code_j52 o_fault o_faultPlace o_text) H → va_D A (wd_X8_advance E a_o a_o_text o_held o_length o_place_j52 o_next_j52 o_sort_j52 o_value_j52 o_code_j52 o_fault o_faultPlace o_text) → va_S A s.heap H locs → lv_has ls 2 [(0, .ref a_o)] → W p l e (rmd 6) s m aa below meth cd H locs 0 0 QQ (F0 m 52 ls []) := by
    intro o_place_j52 o_next_j52 o_sort_j52 o_value_j52 o_code_j52 H locs ls hf hP hD hS hl
    unfold X8_advance_j52 at hf
    refine lv_aload_n hx hb dX8_advance_52 rfl (lv_at hl 0 rfl) ?_
    refine lv_aload_n hx hb dX8_advance_53 rfl (lv_at hl 0 rfl) ?_
    refine va_get (D := E.1) (ci := 8) (v := .int o_next_j52) (C := RX8) (T := TX8) (N := 10) hx hb hts inX8 hown hK hP 0 rfl rfl 4 (by decide) (hts _ fl_X8_38) (fun _ h9 => h9) rfl dX8_advance_54 ?_
    refine va_put (D := E.1) (ci := 8) (v := .int o_next_j52) (ty := .int) (C := RX8) (T := TX8) (N := 10) hx hb hts inX8 tyX8 tyX8_ok nmX8 hown hK hP hD hS 0 rfl rfl 3 (by decide) (hts _ fl_X8_50) (fun _ h9 => h9) rfl (by decide +kernel) rfl rfl (Nat.le_of_ble_eq_true rfl) dX8_advance_57 (fun H locs hP hD hS => ?_)
    have hP : va_P E.1 vwCl (wd_X8_advance E a_o a_o_text o_held o_length o_next_j52 o_next_j52 o_sort_j52 o_value_j52 o_code_j52 o_fault o_faultPlace o_text) H := hP
    have hD : va_D A (wd_X8_advance E a_o a_o_text o_held o_length o_next_j52 o_next_j52 o_sort_j52 o_value_j52 o_code_j52 o_fault o_faultPlace o_text) := hD
    refine lv_aload_n hx hb dX8_advance_60 rfl (lv_at hl 0 rfl) ?_
    refine lv_iconst (v := 0) hx hb dX8_advance_61 (by decide) ?_
    refine va_put (D := E.1) (ci := 8) (v := .int 0) (ty := .int) (C := RX8) (T := TX8) (N := 10) hx hb hts inX8 tyX8 tyX8_ok nmX8 hown hK hP hD hS 0 rfl rfl 6 (by decide) (hts _ fl_X8_57) (fun _ h9 => h9) rfl (by decide +kernel) rfl rfl (Nat.le_of_ble_eq_true rfl) dX8_advance_62 (fun H locs hP hD hS => ?_)
    have hP : va_P E.1 vwCl (wd_X8_advance E a_o a_o_text o_held o_length o_next_j52 o_next_j52 o_sort_j52 0 o_code_j52 o_fault o_faultPlace o_text) H := hP
    have hD : va_D A (wd_X8_advance E a_o a_o_text o_held o_length o_next_j52 o_next_j52 o_sort_j52 0 o_code_j52 o_fault o_faultPlace o_text) := hD
    refine lv_aload_n hx hb dX8_advance_65 rfl (lv_at hl 0 rfl) ?_
    refine lv_lconst (v := 0) hx hb dX8_advance_66 (by decide) ?_
    refine va_put (D := E.1) (ci := 8) (v := .long 0) (ty := .long) (C := RX8) (T := TX8) (N := 10) hx hb hts inX8 tyX8 tyX8_ok nmX8 hown hK hP hD hS 0 rfl rfl 7 (by decide) (hts _ fl_X8_60) (fun _ h9 => h9) rfl (by decide +kernel) rfl rfl (Nat.le_of_ble_eq_true rfl) dX8_advance_67 (fun H locs hP hD hS => ?_)
    have hP : va_P E.1 vwCl (wd_X8_advance E a_o a_o_text o_held o_length o_next_j52 o_next_j52 o_sort_j52 0 0 o_fault o_faultPlace o_text) H := hP
    have hD : va_D A (wd_X8_advance E a_o a_o_text o_held o_length o_next_j52 o_next_j52 o_sort_j52 0 0 o_fault o_faultPlace o_text) := hD
    refine lv_aload_n hx hb dX8_advance_70 rfl (lv_at hl 0 rfl) ?_
    refine va_get (D := E.1) (ci := 8) (v := .int o_next_j52) (C := RX8) (T := TX8) (N := 10) hx hb hts inX8 hown hK hP 0 rfl rfl 4 (by decide) (hts _ fl_X8_38) (fun _ h9 => h9) rfl dX8_advance_71 ?_
    refine lv_aload_n hx hb dX8_advance_74 rfl (lv_at hl 0 rfl) ?_
    refine va_get (D := E.1) (ci := 8) (v := .int o_length) (C := RX8) (T := TX8) (N := 10) hx hb hts inX8 hown hK hP 0 rfl rfl 2 (by decide) (hts _ fl_X8_35) (fun _ h9 => h9) rfl dX8_advance_75 ?_
    refine lv_icmp_lt (tgt := 87) hx hb dX8_advance_78 (by decide) (fun hc => ?_) (fun hc => ?_)
    · have hf := it_t hc hf
      refine lv_aload_n hx hb dX8_advance_87 rfl (lv_at hl 0 rfl) ?_
      refine va_get (D := E.1) (ci := 8) (v := .ref a_o_text) (C := RX8) (T := TX8) (N := 10) hx hb hts inX8 hown hK hP 0 rfl rfl 0 (by decide) (hts _ fl_X8_11) (fun _ h9 => h9) rfl dX8_advance_88 ?_
      refine lv_aload_n hx hb dX8_advance_91 rfl (lv_at hl 0 rfl) ?_
      refine va_get (D := E.1) (ci := 8) (v := .int o_next_j52) (C := RX8) (T := TX8) (N := 10) hx hb hts inX8 hown hK hP 0 rfl rfl 4 (by decide) (hts _ fl_X8_38) (fun _ h9 => h9) rfl dX8_advance_92 ?_
      obtain ⟨hi, hf⟩ := ck hf
      refine r_iald 1 cx hP rfl hi dX8_advance_95 ?_
      refine lv_istore_n (lv' := [(1, .int (jat o_text o_next_j52)), (0, .ref a_o)]) hx hb dX8_advance_96 rfl hl (by decide) rfl (fun ls hl => ?_)
      refine lv_iload_n hx hb dX8_advance_97 rfl (lv_at hl 0 rfl) ?_
      obtain ⟨u98, hu98, hf⟩ := bd hf
      refine keepSI (ct_X8_isLetter l E (jat o_text o_next_j52) u98 hu98) [] cal_X8_isLetter sta_X8_isLetter lk_X8_64 cx hP hD hS hl dX8_advance_98 rfl rfl (Nat.le_of_ble_eq_true rfl) ⟨Nat.le_of_ble_eq_true rfl, Nat.le_of_ble_eq_true rfl⟩ rfl (by decide) (fun H locs hP hS => ?_)
      refine lv_if_eq (tgt := 111) hx hb dX8_advance_101 (by decide) (fun hc => ?_) (fun hc => ?_)
      · have hf := it_t hc hf
        refine lv_iload_n hx hb dX8_advance_111 rfl (lv_at hl 0 rfl) ?_
        obtain ⟨u112, hu112, hf⟩ := bd hf
        refine keepSI (ct_X8_isDigit l E (jat o_text o_next_j52) u112 hu112) [] cal_X8_isDigit sta_X8_isDigit lk_X8_70 cx hP hD hS hl dX8_advance_112 rfl rfl (Nat.le_of_ble_eq_true rfl) ⟨Nat.le_of_ble_eq_true rfl, Nat.le_of_ble_eq_true rfl⟩ rfl (by decide) (fun H locs hP hS => ?_)
        refine lv_if_eq (tgt := 125) hx hb dX8_advance_115 (by decide) (fun hc => ?_) (fun hc => ?_)
        · have hf := it_t hc hf
          refine lv_iload_n hx hb dX8_advance_125 rfl (lv_at hl 0 rfl) ?_
          refine lv_bipush (v := 59) hx hb dX8_advance_126 (by decide) ?_
          refine lv_icmp_eq (tgt := 149) hx hb dX8_advance_128 (by decide) (fun hc => ?_) (fun hc => ?_)
          · have hf := it_t hc hf
            exact hj149 _ _ _ _ _ _ _ _ _ hf hP hD hS (lv_sub hl [1, 0] rfl)
          · have hf := it_f hc hf
            refine lv_iload_n hx hb dX8_advance_131 rfl (lv_at hl 0 rfl) ?_
            refine lv_bipush (v := 60) hx hb dX8_advance_132 (by decide) ?_
            refine lv_icmp_eq (tgt := 149) hx hb dX8_advance_134 (by decide) (fun hc => ?_) (fun hc => ?_)
            · have hf := it_t hc hf
              exact hj149 _ _ _ _ _ _ _ _ _ hf hP hD hS (lv_sub hl [1, 0] rfl)
            · have hf := it_f hc hf
              refine lv_iload_n hx hb dX8_advance_137 rfl (lv_at hl 0 rfl) ?_
              refine lv_bipush (v := 62) hx hb dX8_advance_138 (by decide) ?_
              refine lv_icmp_eq (tgt := 149) hx hb dX8_advance_140 (by decide) (fun hc => ?_) (fun hc => ?_)
              · have hf := it_t hc hf
                exact hj149 _ _ _ _ _ _ _ _ _ hf hP hD hS (lv_sub hl [1, 0] rfl)
              · have hf := it_f hc hf
                refine lv_iload_n hx hb dX8_advance_143 rfl (lv_at hl 0 rfl) ?_
                refine lv_bipush (v := 61) hx hb dX8_advance_144 (by decide) ?_
                refine lv_icmp_ne (tgt := 172) hx hb dX8_advance_146 (by decide) (fun hc => ?_) (fun hc => ?_)
                · have hf := it_f hc hf
                  refine lv_aload_n hx hb dX8_advance_172 rfl (lv_at hl 1 rfl) ?_
                  refine lv_iconst (v := 4) hx hb dX8_advance_173 (by decide) ?_
                  refine va_put (D := E.1) (ci := 8) (v := .int 4) (ty := .int) (C := RX8) (T := TX8) (N := 10) hx hb hts inX8 tyX8 tyX8_ok nmX8 hown hK hP hD hS 0 rfl rfl 5 (by decide) (hts _ fl_X8_47) (fun _ h9 => h9) rfl (by decide +kernel) rfl rfl (Nat.le_of_ble_eq_true rfl) dX8_advance_174 (fun H locs hP hD hS => ?_)
                  have hP : va_P E.1 vwCl (wd_X8_advance E a_o a_o_text o_held o_length o_next_j52 o_next_j52 4 0 0 o_fault o_faultPlace o_text) H := hP
                  have hD : va_D A (wd_X8_advance E a_o a_o_text o_held o_length o_next_j52 o_next_j52 4 0 0 o_fault o_faultPlace o_text) := hD
                  obtain rfl := Option.some.inj hf
                  subst hq
                  exact retV cx hP hD hS dX8_advance_177
                · have hf := it_t hc hf
                  exact hj149 _ _ _ _ _ _ _ _ _ hf hP hD hS (lv_sub hl [1, 0] rfl)
        · have hf := it_f hc hf
          refine lv_aload_n hx hb dX8_advance_118 rfl (lv_at hl 1 rfl) ?_
          obtain ⟨u119, hu119, hf⟩ := bd hf
          refine callVV (wn := (wd_X8_advance E a_o a_o_text o_held o_length o_next_j52 u119.1 u119.2.1 u119.2.2 0 o_fault o_faultPlace o_text)) (n1 := 2) (ct_X8_takeDigits l E F a_o a_o_text o_held o_length o_next_j52 o_next_j52 o_sort_j52 0 0 o_fault o_faultPlace o_text u119 hu119) [0, 1] cal_X8_takeDigits cav_X8_takeDigits lk_X8_73 cx hP hD hS hl dX8_advance_119 rfl rfl rfl rfl (Nat.le_of_ble_eq_true rfl) ⟨Nat.le_of_ble_eq_true rfl, Nat.le_of_ble_eq_true rfl⟩ rfl (by decide +kernel) rfl [some 0, some 1] rfl (by decide +kernel) rfl (fun H locs hP hD hS => ?_)
          refine lv_goto (tgt := 177) hx hb dX8_advance_122 (by decide) ?_
          obtain rfl := Option.some.inj hf
          subst hq
          exact retV cx hP hD hS dX8_advance_177
      · have hf := it_f hc hf
        refine lv_aload_n hx hb dX8_advance_104 rfl (lv_at hl 1 rfl) ?_
        obtain ⟨u105, hu105, hf⟩ := bd hf
        refine callVV (wn := (wd_X8_advance E a_o a_o_text o_held o_length o_next_j52 u105.1 u105.2.1 u105.2.2.1 u105.2.2.2 o_fault o_faultPlace o_text)) (n1 := 2) (ct_X8_takeLetters l E F a_o a_o_text o_held o_length o_next_j52 o_next_j52 o_sort_j52 0 0 o_fault o_faultPlace o_text u105 hu105) [0, 1] cal_X8_takeLetters cav_X8_takeLetters lk_X8_67 cx hP hD hS hl dX8_advance_105 rfl rfl rfl rfl (Nat.le_of_ble_eq_true rfl) ⟨Nat.le_of_ble_eq_true rfl, Nat.le_of_ble_eq_true rfl⟩ rfl (by decide +kernel) rfl [some 0, some 1] rfl (by decide +kernel) rfl (fun H locs hP hD hS => ?_)
        refine lv_goto (tgt := 177) hx hb dX8_advance_108 (by decide) ?_
        obtain rfl := Option.some.inj hf
        subst hq
        exact retV cx hP hD hS dX8_advance_177
    · have hf := it_f hc hf
      refine lv_aload_n hx hb dX8_advance_81 rfl (lv_at hl 0 rfl) ?_
      refine lv_iconst (v := 0) hx hb dX8_advance_82 (by decide) ?_
      refine va_put (D := E.1) (ci := 8) (v := .int 0) (ty := .int) (C := RX8) (T := TX8) (N := 10) hx hb hts inX8 tyX8 tyX8_ok nmX8 hown hK hP hD hS 0 rfl rfl 5 (by decide) (hts _ fl_X8_47) (fun _ h9 => h9) rfl (by decide +kernel) rfl rfl (Nat.le_of_ble_eq_true rfl) dX8_advance_83 (fun H locs hP hD hS => ?_)
      have hP : va_P E.1 vwCl (wd_X8_advance E a_o a_o_text o_held o_length o_next_j52 o_next_j52 0 0 0 o_fault o_faultPlace o_text) H := hP
      have hD : va_D A (wd_X8_advance E a_o a_o_text o_held o_length o_next_j52 o_next_j52 0 0 0 o_fault o_faultPlace o_text) := hD
      obtain rfl := Option.some.inj hf
      subst hq
      exact retV cx hP hD hS dX8_advance_86
  unfold X8_advance at hf
  obtain ⟨e0, hit0, hf⟩ := bd hf
  refine iter_W (b := X8_advance_b0 F o_length o_place o_sort o_value o_code o_text) (P := fun st0 => ∀ (H : Heap) (locs : List Loc) (ls : Array Slot), va_P E.1 vwCl (wd_X8_advance E a_o a_o_text o_held o_length o_place st0 o_sort o_value o_code o_fault o_faultPlace o_text) H → va_D A (wd_X8_advance E a_o a_o_text o_held o_length o_place st0 o_sort o_value o_code o_fault o_faultPlace o_text) → va_S A s.heap H locs → lv_has ls 2 [(0, .ref a_o)] → W p l e (rmd 6) s m aa below meth cd H locs 0 0 QQ (F0 m 0 ls [])) (G := (fun (e0 : Int32) => ∀ (H : Heap) (locs : List Loc) (ls : Array Slot), va_P E.1 vwCl (wd_X8_advance E a_o a_o_text o_held o_length o_place e0 o_sort o_value o_code o_fault o_faultPlace o_text) H → va_D A (wd_X8_advance E a_o a_o_text o_held o_length o_place e0 o_sort o_value o_code o_fault o_faultPlace o_text) → va_S A s.heap H locs → lv_has ls 2 [(0, .ref a_o)] → W p l e (rmd 6) s m aa below meth cd H locs 0 0 QQ (F0 m 52 ls []))) ?_ F o_next e0 hit0 ?_ _ _ _ hP hD hS (lv_sub hl [0] rfl)
  · intro st0 r0 hf hk0 he0 H locs ls hP hD hS hl
    have hj39 : ∀ (o_next_j39 : Int32) (H : Heap) (locs : List Loc) (ls : Array Slot), X8_advance_j39 F o_length o_place o_next_j39 o_sort o_value o_code o_text = some r0 → va_P E.1 vwCl (wd_X8_advance E a_o a_o_text o_held o_length o_place o_next_j39 o_sort o_value o_code o_fault o_faultPlace o_text) H → va_D A (wd_X8_advance E a_o a_o_text o_held o_length o_place o_next_j39 o_sort o_value o_code o_fault o_faultPlace o_text) → va_S A s.heap H locs → lv_has ls 2 [(0, .ref a_o)] → W p l e (rmd 6) s m aa below meth cd H locs 0 0 QQ (F0 m 39 ls []) := by
      intro o_next_j39 H locs ls hf hP hD hS hl
      unfold X8_advance_j39 at hf
      refine lv_aload_n hx hb dX8_advance_39 rfl (lv_at hl 0 rfl) ?_
      refine lv_dup hx hb dX8_advance_40 rfl ?_
      refine va_get (D := E.1) (ci := 8) (v := .int o_next_j39) (C := RX8) (T := TX8) (N := 10) hx hb hts inX8 hown hK hP 0 rfl rfl 4 (by decide) (hts _ fl_X8_38) (fun _ h9 => h9) rfl dX8_advance_41 ?_
      refine lv_iconst (v := 1) hx hb dX8_advance_44 (by decide) ?_
      refine lv_iadd hx hb dX8_advance_45 ?_
      refine va_put (D := E.1) (ci := 8) (v := .int (o_next_j39 + 1)) (ty := .int) (C := RX8) (T := TX8) (N := 10) hx hb hts inX8 tyX8 tyX8_ok nmX8 hown hK hP hD hS 0 rfl rfl 4 (by decide) (hts _ fl_X8_38) (fun _ h9 => h9) rfl (by decide +kernel) rfl rfl (Nat.le_of_ble_eq_true rfl) dX8_advance_46 (fun H locs hP hD hS => ?_)
      have hP : va_P E.1 vwCl (wd_X8_advance E a_o a_o_text o_held o_length o_place (o_next_j39 + 1) o_sort o_value o_code o_fault o_faultPlace o_text) H := hP
      have hD : va_D A (wd_X8_advance E a_o a_o_text o_held o_length o_place (o_next_j39 + 1) o_sort o_value o_code o_fault o_faultPlace o_text) := hD
      refine lv_goto (tgt := 0) hx hb dX8_advance_49 (by decide) ?_
      exact hk0 _ (Option.some.inj hf).symm _ _ _ hP hD hS (lv_sub hl [0] rfl)
    unfold X8_advance_b0 at hf
    refine lv_aload_n hx hb dX8_advance_0 rfl (lv_at hl 0 rfl) ?_
    refine va_get (D := E.1) (ci := 8) (v := .int st0) (C := RX8) (T := TX8) (N := 10) hx hb hts inX8 hown hK hP 0 rfl rfl 4 (by decide) (hts _ fl_X8_38) (fun _ h9 => h9) rfl dX8_advance_1 ?_
    refine lv_aload_n hx hb dX8_advance_4 rfl (lv_at hl 0 rfl) ?_
    refine va_get (D := E.1) (ci := 8) (v := .int o_length) (C := RX8) (T := TX8) (N := 10) hx hb hts inX8 hown hK hP 0 rfl rfl 2 (by decide) (hts _ fl_X8_35) (fun _ h9 => h9) rfl dX8_advance_5 ?_
    refine lv_icmp_ge (tgt := 52) hx hb dX8_advance_8 (by decide) (fun hc => ?_) (fun hc => ?_)
    · have hf := it_t hc hf
      exact he0 _ (Option.some.inj hf).symm _ _ _ hP hD hS (lv_sub hl [0] rfl)
    · have hf := it_f hc hf
      refine lv_aload_n hx hb dX8_advance_11 rfl (lv_at hl 0 rfl) ?_
      refine va_get (D := E.1) (ci := 8) (v := .ref a_o_text) (C := RX8) (T := TX8) (N := 10) hx hb hts inX8 hown hK hP 0 rfl rfl 0 (by decide) (hts _ fl_X8_11) (fun _ h9 => h9) rfl dX8_advance_12 ?_
      refine lv_aload_n hx hb dX8_advance_15 rfl (lv_at hl 0 rfl) ?_
      refine va_get (D := E.1) (ci := 8) (v := .int st0) (C := RX8) (T := TX8) (N := 10) hx hb hts inX8 hown hK hP 0 rfl rfl 4 (by decide) (hts _ fl_X8_38) (fun _ h9 => h9) rfl dX8_advance_16 ?_
      obtain ⟨hi, hf⟩ := ck hf
      refine r_iald 1 cx hP rfl hi dX8_advance_19 ?_
      refine lv_bipush (v := 10) hx hb dX8_advance_20 (by decide) ?_
      refine lv_icmp_eq (tgt := 39) hx hb dX8_advance_22 (by decide) (fun hc => ?_) (fun hc => ?_)
      · have hf := it_t hc hf
        exact hj39 _ _ _ _ hf hP hD hS (lv_sub hl [0] rfl)
      · have hf := it_f hc hf
        refine lv_aload_n hx hb dX8_advance_25 rfl (lv_at hl 0 rfl) ?_
        refine va_get (D := E.1) (ci := 8) (v := .ref a_o_text) (C := RX8) (T := TX8) (N := 10) hx hb hts inX8 hown hK hP 0 rfl rfl 0 (by decide) (hts _ fl_X8_11) (fun _ h9 => h9) rfl dX8_advance_26 ?_
        refine lv_aload_n hx hb dX8_advance_29 rfl (lv_at hl 0 rfl) ?_
        refine va_get (D := E.1) (ci := 8) (v := .int st0) (C := RX8) (T := TX8) (N := 10) hx hb hts inX8 hown hK hP 0 rfl rfl 4 (by decide) (hts _ fl_X8_38) (fun _ h9 => h9) rfl dX8_advance_30 ?_
        obtain ⟨hi, hf⟩ := ck hf
        refine r_iald 1 cx hP rfl hi dX8_advance_33 ?_
        refine lv_bipush (v := 32) hx hb dX8_advance_34 (by decide) ?_
        refine lv_icmp_ne (tgt := 52) hx hb dX8_advance_36 (by decide) (fun hc => ?_) (fun hc => ?_)
        · have hf := it_f hc hf
          exact he0 _ (Option.some.inj hf).symm _ _ _ hP hD hS (lv_sub hl [0] rfl)
        · have hf := it_t hc hf
          exact hj39 _ _ _ _ hf hP hD hS (lv_sub hl [0] rfl)
  · refine fun H locs ls hP hD hS hl => ?_
    exact hj52 _ _ _ _ _ _ _ _ hf hP hD hS (lv_sub hl [0] rfl)
def X8_begin (F : Nat) (o_held : Int32) (o_length : Int32) (o_place : Int32) (o_next : Int32) (o_sort : Int32) (o_value : Int32) (o_code : Int64) (o_fault : Int32) (o_faultPlace : Int32) (o_text : Nat → Int32) (v1 : Int32) : Option (Int32 × Int32 × Int32 × Int32 × Int32 × Int32 × Int64 × Int32 × Int32) :=
  (X8_advance F (jmax (0 : Int32) (jmin v1 o_held)) o_place 0 o_sort o_value o_code o_text).bind fun u37 =>
  some (0, (jmax (0 : Int32) (jmin v1 o_held)), u37.1, u37.2.1, u37.2.2.1, u37.2.2.2.1, u37.2.2.2.2, 0, (-1))
abbrev wd_X8_begin (E : vE) (a_o a_o_text : Nat) (o_held : Int32) (o_length : Int32) (o_place : Int32) (o_next : Int32) (o_sort : Int32) (o_value : Int32) (o_code : Int64) (o_fault : Int32) (o_faultPlace : Int32) (o_text : Nat → Int32) : va_W := [(a_o, .inr (8, [.ref a_o_text, .int o_held, .int o_length, .int o_place, .int o_next, .int o_sort, .int o_value, .long o_code, .int o_fault, .int o_faultPlace])), (a_o_text, .inl (E.2.1, 900, .inl o_text))]
set_option maxHeartbeats 4000000 in
set_option maxRecDepth 100000 in
theorem ct_X8_begin (l : Launch) (E : vE) (F : Nat) (a_o a_o_text : Nat) (o_held : Int32) (o_length : Int32) (o_place : Int32) (o_next : Int32) (o_sort : Int32) (o_value : Int32) (o_code : Int64) (o_fault : Int32) (o_faultPlace : Int32) (o_text : Nat → Int32) (v1 : Int32) (u : Int32 × Int32 × Int32 × Int32 × Int32 × Int32 × Int64 × Int32 × Int32) (hf : X8_begin F o_held o_length o_place o_next o_sort o_value o_code o_fault o_faultPlace o_text v1 = some u) :
    CtV l yX8_begin cX8_begin 2 none 7 E [.ref a_o, .int v1] (wd_X8_begin E a_o a_o_text o_held o_length o_place o_next o_sort o_value o_code o_fault o_faultPlace o_text) (wd_X8_begin E a_o a_o_text u.1 u.2.1 u.2.2.1 u.2.2.2.1 u.2.2.2.2.1 u.2.2.2.2.2.1 u.2.2.2.2.2.2.1 u.2.2.2.2.2.2.2.1 u.2.2.2.2.2.2.2.2 o_text) := by
  refine ctV (by decide) (Nat.le_of_ble_eq_true rfl) ?_
  intro p e s m below meth cd A ls aa QQ hq cx hP hD hS hl
  obtain ⟨⟨hx, hb, hml, hown, hts⟩, hr, hlocks, hK, hA, hX⟩ := id cx
  have hl : lv_has ls 2 [(0, .ref a_o), (1, .int v1)] := hl
  unfold X8_begin at hf
  refine lv_aload_n hx hb dX8_begin_0 rfl (lv_at hl 0 rfl) ?_
  refine lv_iconst (v := 0) hx hb dX8_begin_1 (by decide) ?_
  refine lv_iload_n hx hb dX8_begin_2 rfl (lv_at hl 1 rfl) ?_
  refine lv_aload_n hx hb dX8_begin_3 rfl (lv_at hl 0 rfl) ?_
  refine va_get (D := E.1) (ci := 8) (v := .int o_held) (C := RX8) (T := TX8) (N := 10) hx hb hts inX8 hown hK hP 0 rfl rfl 1 (by decide) (hts _ fl_X8_19) (fun _ h9 => h9) rfl dX8_begin_4 ?_
  refine r_mmin cx hl lk_X8_26 mt_min (Nat.le_of_ble_eq_true rfl) (Nat.le_of_ble_eq_true rfl) dX8_begin_7 ?_
  refine r_mmax cx hl lk_X8_32 mt_max (Nat.le_of_ble_eq_true rfl) (Nat.le_of_ble_eq_true rfl) dX8_begin_10 ?_
  refine va_put (D := E.1) (ci := 8) (v := .int (jmax (0 : Int32) (jmin v1 o_held))) (ty := .int) (C := RX8) (T := TX8) (N := 10) hx hb hts inX8 tyX8 tyX8_ok nmX8 hown hK hP hD hS 0 rfl rfl 2 (by decide) (hts _ fl_X8_35) (fun _ h9 => h9) rfl (by decide +kernel) rfl rfl (Nat.le_of_ble_eq_true rfl) dX8_begin_13 (fun H locs hP hD hS => ?_)
  have hP : va_P E.1 vwCl (wd_X8_begin E a_o a_o_text o_held (jmax (0 : Int32) (jmin v1 o_held)) o_place o_next o_sort o_value o_code o_fault o_faultPlace o_text) H := hP
  have hD : va_D A (wd_X8_begin E a_o a_o_text o_held (jmax (0 : Int32) (jmin v1 o_held)) o_place o_next o_sort o_value o_code o_fault o_faultPlace o_text) := hD
  refine lv_aload_n hx hb dX8_begin_16 rfl (lv_at hl 0 rfl) ?_
  refine lv_iconst (v := 0) hx hb dX8_begin_17 (by decide) ?_
  refine va_put (D := E.1) (ci := 8) (v := .int 0) (ty := .int) (C := RX8) (T := TX8) (N := 10) hx hb hts inX8 tyX8 tyX8_ok nmX8 hown hK hP hD hS 0 rfl rfl 1 (by decide) (hts _ fl_X8_19) (fun _ h9 => h9) rfl (by decide +kernel) rfl rfl (Nat.le_of_ble_eq_true rfl) dX8_begin_18 (fun H locs hP hD hS => ?_)
  have hP : va_P E.1 vwCl (wd_X8_begin E a_o a_o_text 0 (jmax (0 : Int32) (jmin v1 o_held)) o_place o_next o_sort o_value o_code o_fault o_faultPlace o_text) H := hP
  have hD : va_D A (wd_X8_begin E a_o a_o_text 0 (jmax (0 : Int32) (jmin v1 o_held)) o_place o_next o_sort o_value o_code o_fault o_faultPlace o_text) := hD
  refine lv_aload_n hx hb dX8_begin_21 rfl (lv_at hl 0 rfl) ?_
  refine lv_iconst (v := 0) hx hb dX8_begin_22 (by decide) ?_
  refine va_put (D := E.1) (ci := 8) (v := .int 0) (ty := .int) (C := RX8) (T := TX8) (N := 10) hx hb hts inX8 tyX8 tyX8_ok nmX8 hown hK hP hD hS 0 rfl rfl 4 (by decide) (hts _ fl_X8_38) (fun _ h9 => h9) rfl (by decide +kernel) rfl rfl (Nat.le_of_ble_eq_true rfl) dX8_begin_23 (fun H locs hP hD hS => ?_)
  have hP : va_P E.1 vwCl (wd_X8_begin E a_o a_o_text 0 (jmax (0 : Int32) (jmin v1 o_held)) o_place 0 o_sort o_value o_code o_fault o_faultPlace o_text) H := hP
  have hD : va_D A (wd_X8_begin E a_o a_o_text 0 (jmax (0 : Int32) (jmin v1 o_held)) o_place 0 o_sort o_value o_code o_fault o_faultPlace o_text) := hD
  refine lv_aload_n hx hb dX8_begin_26 rfl (lv_at hl 0 rfl) ?_
  refine lv_iconst (v := 0) hx hb dX8_begin_27 (by decide) ?_
  refine va_put (D := E.1) (ci := 8) (v := .int 0) (ty := .int) (C := RX8) (T := TX8) (N := 10) hx hb hts inX8 tyX8 tyX8_ok nmX8 hown hK hP hD hS 0 rfl rfl 8 (by decide) (hts _ fl_X8_41) (fun _ h9 => h9) rfl (by decide +kernel) rfl rfl (Nat.le_of_ble_eq_true rfl) dX8_begin_28 (fun H locs hP hD hS => ?_)
  have hP : va_P E.1 vwCl (wd_X8_begin E a_o a_o_text 0 (jmax (0 : Int32) (jmin v1 o_held)) o_place 0 o_sort o_value o_code 0 o_faultPlace o_text) H := hP
  have hD : va_D A (wd_X8_begin E a_o a_o_text 0 (jmax (0 : Int32) (jmin v1 o_held)) o_place 0 o_sort o_value o_code 0 o_faultPlace o_text) := hD
  refine lv_aload_n hx hb dX8_begin_31 rfl (lv_at hl 0 rfl) ?_
  refine lv_iconst (v := (-1)) hx hb dX8_begin_32 (by decide) ?_
  refine va_put (D := E.1) (ci := 8) (v := .int (-1)) (ty := .int) (C := RX8) (T := TX8) (N := 10) hx hb hts inX8 tyX8 tyX8_ok nmX8 hown hK hP hD hS 0 rfl rfl 9 (by decide) (hts _ fl_X8_15) (fun _ h9 => h9) rfl (by decide +kernel) rfl rfl (Nat.le_of_ble_eq_true rfl) dX8_begin_33 (fun H locs hP hD hS => ?_)
  have hP : va_P E.1 vwCl (wd_X8_begin E a_o a_o_text 0 (jmax (0 : Int32) (jmin v1 o_held)) o_place 0 o_sort o_value o_code 0 (-1) o_text) H := hP
  have hD : va_D A (wd_X8_begin E a_o a_o_text 0 (jmax (0 : Int32) (jmin v1 o_held)) o_place 0 o_sort o_value o_code 0 (-1) o_text) := hD
  refine lv_aload_n hx hb dX8_begin_36 rfl (lv_at hl 0 rfl) ?_
  obtain ⟨u37, hu37, hf⟩ := bd hf
  refine callVV (wn := (wd_X8_begin E a_o a_o_text 0 (jmax (0 : Int32) (jmin v1 o_held)) u37.1 u37.2.1 u37.2.2.1 u37.2.2.2.1 u37.2.2.2.2 0 (-1) o_text)) (n1 := 2) (ct_X8_advance l E F a_o a_o_text 0 (jmax (0 : Int32) (jmin v1 o_held)) o_place 0 o_sort o_value o_code 0 (-1) o_text u37 hu37) [0, 1] cal_X8_advance cav_X8_advance lk_X8_44 cx hP hD hS hl dX8_begin_37 rfl rfl rfl rfl (Nat.le_of_ble_eq_true rfl) ⟨Nat.le_of_ble_eq_true rfl, Nat.le_of_ble_eq_true rfl⟩ rfl (by decide +kernel) rfl [some 0, some 1] rfl (by decide +kernel) rfl (fun H locs hP hD hS => ?_)
  obtain rfl := Option.some.inj hf
  subst hq
  exact retV cx hP hD hS dX8_begin_40
def X8_isOpen_j18 (o_sort : Int32) (o_fault : Int32) : Option (Int32) :=
  some 0
def X8_isOpen (o_sort : Int32) (o_fault : Int32) : Option (Int32) :=
  if o_fault = 0 then
  if o_sort = 0 then
  X8_isOpen_j18 o_sort o_fault
  else
  some 1
  else
  X8_isOpen_j18 o_sort o_fault
abbrev wd_X8_isOpen (E : vE) (a_o a_o_text : Nat) (o_held : Int32) (o_length : Int32) (o_place : Int32) (o_next : Int32) (o_sort : Int32) (o_value : Int32) (o_code : Int64) (o_fault : Int32) (o_faultPlace : Int32) : va_W := [(a_o, .inr (8, [.ref a_o_text, .int o_held, .int o_length, .int o_place, .int o_next, .int o_sort, .int o_value, .long o_code, .int o_fault, .int o_faultPlace]))]
set_option maxHeartbeats 4000000 in
set_option maxRecDepth 100000 in
theorem ct_X8_isOpen (l : Launch) (E : vE) (a_o a_o_text : Nat) (o_held : Int32) (o_length : Int32) (o_place : Int32) (o_next : Int32) (o_sort : Int32) (o_value : Int32) (o_code : Int64) (o_fault : Int32) (o_faultPlace : Int32) (u : Int32) (hf : X8_isOpen o_sort o_fault = some u) :
    CtI l yX8_isOpen cX8_isOpen 1 (some .boolean) 0 E [.ref a_o] (wd_X8_isOpen E a_o a_o_text o_held o_length o_place o_next o_sort o_value o_code o_fault o_faultPlace) (wd_X8_isOpen E a_o a_o_text o_held o_length o_place o_next o_sort o_value o_code o_fault o_faultPlace) u := by
  refine ctI (by decide) (Nat.le_of_ble_eq_true rfl) ?_
  intro p e s m below meth cd A ls aa QQ hq cx hP hD hS hl
  obtain ⟨⟨hx, hb, hml, hown, hts⟩, hr, hlocks, hK, hA, hX⟩ := id cx
  have hl : lv_has ls 1 [(0, .ref a_o)] := hl
  have hj18 : ∀ (H : Heap) (locs : List Loc) (ls : Array Slot), X8_isOpen_j18 o_sort o_fault = some u → va_P E.1 vwCl (wd_X8_isOpen E a_o a_o_text o_held o_length o_place o_next o_sort o_value o_code o_fault o_faultPlace) H → va_D A (wd_X8_isOpen E a_o a_o_text o_held o_length o_place o_next o_sort o_value o_code o_fault o_faultPlace) → va_S A s.heap H locs → lv_has ls 1 [] → W p l e (rmd 0) s m aa below meth cd H locs 0 0 QQ (F0 m 18 ls []) := by
    intro H locs ls hf hP hD hS hl
    unfold X8_isOpen_j18 at hf
    refine lv_iconst (v := 0) hx hb dX8_isOpen_18 (by decide) ?_
    obtain rfl := Option.some.inj hf
    subst hq
    exact retZ cx rfl hP hD hS dX8_isOpen_19
  unfold X8_isOpen at hf
  refine lv_aload_n hx hb dX8_isOpen_0 rfl (lv_at hl 0 rfl) ?_
  refine va_get (D := E.1) (ci := 8) (v := .int o_fault) (C := RX8) (T := TX8) (N := 10) hx hb hts inX8 hown hK hP 0 rfl rfl 8 (by decide) (hts _ fl_X8_41) (fun _ h9 => h9) rfl dX8_isOpen_1 ?_
  refine lv_if_ne (tgt := 18) hx hb dX8_isOpen_4 (by decide) (fun hc => ?_) (fun hc => ?_)
  · have hf := it_f hc hf
    exact hj18  _ _ _ hf hP hD hS (lv_sub hl [] rfl)
  · have hf := it_t hc hf
    refine lv_aload_n hx hb dX8_isOpen_7 rfl (lv_at hl 0 rfl) ?_
    refine va_get (D := E.1) (ci := 8) (v := .int o_sort) (C := RX8) (T := TX8) (N := 10) hx hb hts inX8 hown hK hP 0 rfl rfl 5 (by decide) (hts _ fl_X8_47) (fun _ h9 => h9) rfl dX8_isOpen_8 ?_
    refine lv_if_eq (tgt := 18) hx hb dX8_isOpen_11 (by decide) (fun hc => ?_) (fun hc => ?_)
    · have hf := it_t hc hf
      exact hj18  _ _ _ hf hP hD hS (lv_sub hl [] rfl)
    · have hf := it_f hc hf
      refine lv_iconst (v := 1) hx hb dX8_isOpen_14 (by decide) ?_
      refine lv_goto (tgt := 19) hx hb dX8_isOpen_15 (by decide) ?_
      obtain rfl := Option.some.inj hf
      subst hq
      exact retZ cx rfl hP hD hS dX8_isOpen_19
def X8_fail (o_place : Int32) (o_fault : Int32) (o_faultPlace : Int32) (v1 : Int32) : Option (Int32 × Int32) :=
  if o_fault = 0 then
  some (v1, o_place)
  else
  some (o_fault, o_faultPlace)
abbrev wd_X8_fail (E : vE) (a_o a_o_text : Nat) (o_held : Int32) (o_length : Int32) (o_place : Int32) (o_next : Int32) (o_sort : Int32) (o_value : Int32) (o_code : Int64) (o_fault : Int32) (o_faultPlace : Int32) : va_W := [(a_o, .inr (8, [.ref a_o_text, .int o_held, .int o_length, .int o_place, .int o_next, .int o_sort, .int o_value, .long o_code, .int o_fault, .int o_faultPlace]))]
set_option maxHeartbeats 4000000 in
set_option maxRecDepth 100000 in
theorem ct_X8_fail (l : Launch) (E : vE) (a_o a_o_text : Nat) (o_held : Int32) (o_length : Int32) (o_place : Int32) (o_next : Int32) (o_sort : Int32) (o_value : Int32) (o_code : Int64) (o_fault : Int32) (o_faultPlace : Int32) (v1 : Int32) (u : Int32 × Int32) (hf : X8_fail o_place o_fault o_faultPlace v1 = some u) :
    CtV l yX8_fail cX8_fail 2 none 0 E [.ref a_o, .int v1] (wd_X8_fail E a_o a_o_text o_held o_length o_place o_next o_sort o_value o_code o_fault o_faultPlace) (wd_X8_fail E a_o a_o_text o_held o_length o_place o_next o_sort o_value o_code u.1 u.2) := by
  refine ctV (by decide) (Nat.le_of_ble_eq_true rfl) ?_
  intro p e s m below meth cd A ls aa QQ hq cx hP hD hS hl
  obtain ⟨⟨hx, hb, hml, hown, hts⟩, hr, hlocks, hK, hA, hX⟩ := id cx
  have hl : lv_has ls 2 [(0, .ref a_o), (1, .int v1)] := hl
  unfold X8_fail at hf
  refine lv_aload_n hx hb dX8_fail_0 rfl (lv_at hl 0 rfl) ?_
  refine va_get (D := E.1) (ci := 8) (v := .int o_fault) (C := RX8) (T := TX8) (N := 10) hx hb hts inX8 hown hK hP 0 rfl rfl 8 (by decide) (hts _ fl_X8_41) (fun _ h9 => h9) rfl dX8_fail_1 ?_
  refine lv_if_ne (tgt := 20) hx hb dX8_fail_4 (by decide) (fun hc => ?_) (fun hc => ?_)
  · have hf := it_f hc hf
    obtain rfl := Option.some.inj hf
    subst hq
    exact retV cx hP hD hS dX8_fail_20
  · have hf := it_t hc hf
    refine lv_aload_n hx hb dX8_fail_7 rfl (lv_at hl 0 rfl) ?_
    refine lv_iload_n hx hb dX8_fail_8 rfl (lv_at hl 1 rfl) ?_
    refine va_put (D := E.1) (ci := 8) (v := .int v1) (ty := .int) (C := RX8) (T := TX8) (N := 10) hx hb hts inX8 tyX8 tyX8_ok nmX8 hown hK hP hD hS 0 rfl rfl 8 (by decide) (hts _ fl_X8_41) (fun _ h9 => h9) rfl (by decide +kernel) rfl rfl (Nat.le_of_ble_eq_true rfl) dX8_fail_9 (fun H locs hP hD hS => ?_)
    have hP : va_P E.1 vwCl (wd_X8_fail E a_o a_o_text o_held o_length o_place o_next o_sort o_value o_code v1 o_faultPlace) H := hP
    have hD : va_D A (wd_X8_fail E a_o a_o_text o_held o_length o_place o_next o_sort o_value o_code v1 o_faultPlace) := hD
    refine lv_aload_n hx hb dX8_fail_12 rfl (lv_at hl 0 rfl) ?_
    refine lv_aload_n hx hb dX8_fail_13 rfl (lv_at hl 0 rfl) ?_
    refine va_get (D := E.1) (ci := 8) (v := .int o_place) (C := RX8) (T := TX8) (N := 10) hx hb hts inX8 hown hK hP 0 rfl rfl 3 (by decide) (hts _ fl_X8_50) (fun _ h9 => h9) rfl dX8_fail_14 ?_
    refine va_put (D := E.1) (ci := 8) (v := .int o_place) (ty := .int) (C := RX8) (T := TX8) (N := 10) hx hb hts inX8 tyX8 tyX8_ok nmX8 hown hK hP hD hS 0 rfl rfl 9 (by decide) (hts _ fl_X8_15) (fun _ h9 => h9) rfl (by decide +kernel) rfl rfl (Nat.le_of_ble_eq_true rfl) dX8_fail_17 (fun H locs hP hD hS => ?_)
    have hP : va_P E.1 vwCl (wd_X8_fail E a_o a_o_text o_held o_length o_place o_next o_sort o_value o_code v1 o_place) H := hP
    have hD : va_D A (wd_X8_fail E a_o a_o_text o_held o_length o_place o_next o_sort o_value o_code v1 o_place) := hD
    obtain rfl := Option.some.inj hf
    subst hq
    exact retV cx hP hD hS dX8_fail_20
def X8_failHere_j14 (o_place : Int32) (o_sort : Int32) (o_fault : Int32) (o_faultPlace : Int32) (k0 : Int32) : Option (Int32 × Int32) :=
  (X8_fail o_place o_fault o_faultPlace k0).bind fun u14 =>
  some (u14.1, u14.2)
def X8_failHere (o_place : Int32) (o_sort : Int32) (o_fault : Int32) (o_faultPlace : Int32) : Option (Int32 × Int32) :=
  if o_sort = 4 then
  X8_failHere_j14 o_place o_sort o_fault o_faultPlace 1
  else
  X8_failHere_j14 o_place o_sort o_fault o_faultPlace 2
abbrev wd_X8_failHere (E : vE) (a_o a_o_text : Nat) (o_held : Int32) (o_length : Int32) (o_place : Int32) (o_next : Int32) (o_sort : Int32) (o_value : Int32) (o_code : Int64) (o_fault : Int32) (o_faultPlace : Int32) : va_W := [(a_o, .inr (8, [.ref a_o_text, .int o_held, .int o_length, .int o_place, .int o_next, .int o_sort, .int o_value, .long o_code, .int o_fault, .int o_faultPlace]))]
set_option maxHeartbeats 4000000 in
set_option maxRecDepth 100000 in
theorem ct_X8_failHere (l : Launch) (E : vE) (a_o a_o_text : Nat) (o_held : Int32) (o_length : Int32) (o_place : Int32) (o_next : Int32) (o_sort : Int32) (o_value : Int32) (o_code : Int64) (o_fault : Int32) (o_faultPlace : Int32) (u : Int32 × Int32) (hf : X8_failHere o_place o_sort o_fault o_faultPlace = some u) :
    CtV l yX8_failHere cX8_failHere 1 none 1 E [.ref a_o] (wd_X8_failHere E a_o a_o_text o_held o_length o_place o_next o_sort o_value o_code o_fault o_faultPlace) (wd_X8_failHere E a_o a_o_text o_held o_length o_place o_next o_sort o_value o_code u.1 u.2) := by
  refine ctV (by decide) (Nat.le_of_ble_eq_true rfl) ?_
  intro p e s m below meth cd A ls aa QQ hq cx hP hD hS hl
  obtain ⟨⟨hx, hb, hml, hown, hts⟩, hr, hlocks, hK, hA, hX⟩ := id cx
  have hl : lv_has ls 1 [(0, .ref a_o)] := hl
  have hj14 : ∀ (o_fault_j14 : Int32) (o_faultPlace_j14 : Int32) (k0_j14 : Int32) (H : Heap) (locs : List Loc) (ls : Array Slot), X8_failHere_j14 o_place o_sort o_fault_j14 o_faultPlace_j14 k0_j14 = some u → va_P E.1 vwCl (wd_X8_failHere E a_o a_o_text o_held o_length o_place o_next o_sort o_value o_code o_fault_j14 o_faultPlace_j14) H → va_D A (wd_X8_failHere E a_o a_o_text o_held o_length o_place o_next o_sort o_value o_code o_fault_j14 o_faultPlace_j14) → va_S A s.heap H locs → lv_has ls 1 [] → W p l e (rmd 1) s m aa below meth cd H locs 0 0 QQ (F0 m 14 ls [.int k0_j14, .ref a_o]) := by
    intro o_fault_j14 o_faultPlace_j14 k0_j14 H locs ls hf hP hD hS hl
    unfold X8_failHere_j14 at hf
    obtain ⟨u14, hu14, hf⟩ := bd hf
    refine callVV (wn := (wd_X8_failHere E a_o a_o_text o_held o_length o_place o_next o_sort o_value o_code u14.1 u14.2)) (n1 := 1) (ct_X8_fail l E a_o a_o_text o_held o_length o_place o_next o_sort o_value o_code o_fault_j14 o_faultPlace_j14 k0_j14 u14 hu14) [0] cal_X8_fail cav_X8_fail lk_X8_53 cx hP hD hS hl dX8_failHere_14 rfl rfl rfl rfl (Nat.le_of_ble_eq_true rfl) ⟨Nat.le_of_ble_eq_true rfl, Nat.le_of_ble_eq_true rfl⟩ rfl (by decide +kernel) rfl [some 0] rfl (by decide +kernel) rfl (fun H locs hP hD hS => ?_)
    obtain rfl := Option.some.inj hf
    subst hq
    exact retV cx hP hD hS dX8_failHere_17
  unfold X8_failHere at hf
  refine lv_aload_n hx hb dX8_failHere_0 rfl (lv_at hl 0 rfl) ?_
  refine lv_aload_n hx hb dX8_failHere_1 rfl (lv_at hl 0 rfl) ?_
  refine va_get (D := E.1) (ci := 8) (v := .int o_sort) (C := RX8) (T := TX8) (N := 10) hx hb hts inX8 hown hK hP 0 rfl rfl 5 (by decide) (hts _ fl_X8_47) (fun _ h9 => h9) rfl dX8_failHere_2 ?_
  refine lv_iconst (v := 4) hx hb dX8_failHere_5 (by decide) ?_
  refine lv_icmp_ne (tgt := 13) hx hb dX8_failHere_6 (by decide) (fun hc => ?_) (fun hc => ?_)
  · have hf := it_f hc hf
    refine lv_iconst (v := 2) hx hb dX8_failHere_13 (by decide) ?_
    exact hj14 _ _ _ _ _ _ hf hP hD hS (lv_sub hl [] rfl)
  · have hf := it_t hc hf
    refine lv_iconst (v := 1) hx hb dX8_failHere_9 (by decide) ?_
    refine lv_goto (tgt := 14) hx hb dX8_failHere_10 (by decide) ?_
    exact hj14 _ _ _ _ _ _ hf hP hD hS (lv_sub hl [] rfl)
def X8_takeNumber_j39 (F : Nat) (o_length : Int32) (o_place : Int32) (o_next : Int32) (o_sort : Int32) (o_value : Int32) (o_code : Int64) (o_fault : Int32) (o_faultPlace : Int32) (o_text : Nat → Int32) (v1 : Int32) : Option (Int32 × Int32 × Int32 × Int32 × Int32 × Int64 × Int32 × Int32) :=
  (X8_fail o_place o_fault o_faultPlace (4 : Int32)).bind fun u41 =>
  some (v1, o_place, o_next, o_sort, o_value, o_code, u41.1, u41.2)
def X8_takeNumber (F : Nat) (o_length : Int32) (o_place : Int32) (o_next : Int32) (o_sort : Int32) (o_value : Int32) (o_code : Int64) (o_fault : Int32) (o_faultPlace : Int32) (o_text : Nat → Int32) (v1 : Int32) (v2 : Int32) : Option (Int32 × Int32 × Int32 × Int32 × Int32 × Int64 × Int32 × Int32) :=
  if o_fault = 0 then
  if o_sort = 2 then
  if o_value < v1 then
  X8_takeNumber_j39 F o_length o_place o_next o_sort o_value o_code o_fault o_faultPlace o_text v1
  else
  if o_value ≤ v2 then
  (X8_advance F o_length o_place o_next o_sort o_value o_code o_text).bind fun u52 =>
  some (o_value, u52.1, u52.2.1, u52.2.2.1, u52.2.2.2.1, u52.2.2.2.2, o_fault, o_faultPlace)
  else
  X8_takeNumber_j39 F o_length o_place o_next o_sort o_value o_code o_fault o_faultPlace o_text v1
  else
  (X8_failHere o_place o_sort o_fault o_faultPlace).bind fun u18 =>
  some (v1, o_place, o_next, o_sort, o_value, o_code, u18.1, u18.2)
  else
  some (v1, o_place, o_next, o_sort, o_value, o_code, o_fault, o_faultPlace)
abbrev wd_X8_takeNumber (E : vE) (a_o a_o_text : Nat) (o_held : Int32) (o_length : Int32) (o_place : Int32) (o_next : Int32) (o_sort : Int32) (o_value : Int32) (o_code : Int64) (o_fault : Int32) (o_faultPlace : Int32) (o_text : Nat → Int32) : va_W := [(a_o, .inr (8, [.ref a_o_text, .int o_held, .int o_length, .int o_place, .int o_next, .int o_sort, .int o_value, .long o_code, .int o_fault, .int o_faultPlace])), (a_o_text, .inl (E.2.1, 900, .inl o_text))]
set_option maxHeartbeats 4000000 in
set_option maxRecDepth 100000 in
theorem ct_X8_takeNumber (l : Launch) (E : vE) (F : Nat) (a_o a_o_text : Nat) (o_held : Int32) (o_length : Int32) (o_place : Int32) (o_next : Int32) (o_sort : Int32) (o_value : Int32) (o_code : Int64) (o_fault : Int32) (o_faultPlace : Int32) (o_text : Nat → Int32) (v1 : Int32) (v2 : Int32) (u : Int32 × Int32 × Int32 × Int32 × Int32 × Int64 × Int32 × Int32) (hf : X8_takeNumber F o_length o_place o_next o_sort o_value o_code o_fault o_faultPlace o_text v1 v2 = some u) :
    CtI l yX8_takeNumber cX8_takeNumber 4 (some .int) 7 E [.ref a_o, .int v1, .int v2] (wd_X8_takeNumber E a_o a_o_text o_held o_length o_place o_next o_sort o_value o_code o_fault o_faultPlace o_text) (wd_X8_takeNumber E a_o a_o_text o_held o_length u.2.1 u.2.2.1 u.2.2.2.1 u.2.2.2.2.1 u.2.2.2.2.2.1 u.2.2.2.2.2.2.1 u.2.2.2.2.2.2.2 o_text) u.1 := by
  refine ctI (by decide) (Nat.le_of_ble_eq_true rfl) ?_
  intro p e s m below meth cd A ls aa QQ hq cx hP hD hS hl
  obtain ⟨⟨hx, hb, hml, hown, hts⟩, hr, hlocks, hK, hA, hX⟩ := id cx
  have hl : lv_has ls 4 [(0, .ref a_o), (1, .int v1), (2, .int v2)] := hl
  have hj39 : ∀ (o_place_j39 : Int32) (o_next_j39 : Int32) (o_sort_j39 : Int32) (o_value_j39 : Int32) (o_code_j39 : Int64) (o_fault_j39 : Int32) (o_faultPlace_j39 : Int32) (H : Heap) (locs : List Loc) (ls : Array Slot), X8_takeNumber_j39 F o_length o_place_j39 o_next_j39 o_sort_j39 o_value_j39 o_code_j39 o_fault_j39 o_faultPlace_j39 o_text v1 = some u → va_P E.1 vwCl (wd_X8_takeNumber E a_o a_o_text o_held o_length o_place_j39 o_next_j39 o_sort_j39 o_value_j39 o_code_j39 o_fault_j39 o_faultPlace_j39 o_text) H → va_D A (wd_X8_takeNumber E a_o a_o_text o_held o_length o_place_j39 o_next_j39 o_sort_j39 o_value_j39 o_code_j39 o_fault_j39 o_faultPlace_j39 o_text) → va_S A s.heap H locs → lv_has ls 4 [(0, .ref a_o), (1, .int v1)] → W p l e (rmd 7) s m aa below meth cd H locs 0 0 QQ (F0 m 39 ls []) := by
    intro o_place_j39 o_next_j39 o_sort_j39 o_value_j39 o_code_j39 o_fault_j39 o_faultPlace_j39 H locs ls hf hP hD hS hl
    unfold X8_takeNumber_j39 at hf
    refine lv_aload_n hx hb dX8_takeNumber_39 rfl (lv_at hl 0 rfl) ?_
    refine lv_iconst (v := 4) hx hb dX8_takeNumber_40 (by decide) ?_
    obtain ⟨u41, hu41, hf⟩ := bd hf
    refine callVV (wn := (wd_X8_takeNumber E a_o a_o_text o_held o_length o_place_j39 o_next_j39 o_sort_j39 o_value_j39 o_code_j39 u41.1 u41.2 o_text)) (n1 := 2) (ct_X8_fail l E a_o a_o_text o_held o_length o_place_j39 o_next_j39 o_sort_j39 o_value_j39 o_code_j39 o_fault_j39 o_faultPlace_j39 (4 : Int32) u41 hu41) [0] cal_X8_fail cav_X8_fail lk_X8_53 cx hP hD hS hl dX8_takeNumber_41 rfl rfl rfl rfl (Nat.le_of_ble_eq_true rfl) ⟨Nat.le_of_ble_eq_true rfl, Nat.le_of_ble_eq_true rfl⟩ rfl (by decide +kernel) rfl [some 0, none] rfl (by decide +kernel) rfl (fun H locs hP hD hS => ?_)
    refine lv_iload_n hx hb dX8_takeNumber_44 rfl (lv_at hl 1 rfl) ?_
    obtain rfl := Option.some.inj hf
    subst hq
    exact retI cx hP hD hS dX8_takeNumber_45
  unfold X8_takeNumber at hf
  refine lv_aload_n hx hb dX8_takeNumber_0 rfl (lv_at hl 0 rfl) ?_
  refine va_get (D := E.1) (ci := 8) (v := .int o_fault) (C := RX8) (T := TX8) (N := 10) hx hb hts inX8 hown hK hP 0 rfl rfl 8 (by decide) (hts _ fl_X8_41) (fun _ h9 => h9) rfl dX8_takeNumber_1 ?_
  refine lv_if_eq (tgt := 9) hx hb dX8_takeNumber_4 (by decide) (fun hc => ?_) (fun hc => ?_)
  · have hf := it_t hc hf
    refine lv_aload_n hx hb dX8_takeNumber_9 rfl (lv_at hl 0 rfl) ?_
    refine va_get (D := E.1) (ci := 8) (v := .int o_sort) (C := RX8) (T := TX8) (N := 10) hx hb hts inX8 hown hK hP 0 rfl rfl 5 (by decide) (hts _ fl_X8_47) (fun _ h9 => h9) rfl dX8_takeNumber_10 ?_
    refine lv_iconst (v := 2) hx hb dX8_takeNumber_13 (by decide) ?_
    refine lv_icmp_eq (tgt := 23) hx hb dX8_takeNumber_14 (by decide) (fun hc => ?_) (fun hc => ?_)
    · have hf := it_t hc hf
      refine lv_aload_n hx hb dX8_takeNumber_23 rfl (lv_at hl 0 rfl) ?_
      refine va_get (D := E.1) (ci := 8) (v := .int o_value) (C := RX8) (T := TX8) (N := 10) hx hb hts inX8 hown hK hP 0 rfl rfl 6 (by decide) (hts _ fl_X8_57) (fun _ h9 => h9) rfl dX8_takeNumber_24 ?_
      refine lv_iload_n hx hb dX8_takeNumber_27 rfl (lv_at hl 1 rfl) ?_
      refine lv_icmp_lt (tgt := 39) hx hb dX8_takeNumber_28 (by decide) (fun hc => ?_) (fun hc => ?_)
      · have hf := it_t hc hf
        exact hj39 _ _ _ _ _ _ _ _ _ _ hf hP hD hS (lv_sub hl [0, 1] rfl)
      · have hf := it_f hc hf
        refine lv_aload_n hx hb dX8_takeNumber_31 rfl (lv_at hl 0 rfl) ?_
        refine va_get (D := E.1) (ci := 8) (v := .int o_value) (C := RX8) (T := TX8) (N := 10) hx hb hts inX8 hown hK hP 0 rfl rfl 6 (by decide) (hts _ fl_X8_57) (fun _ h9 => h9) rfl dX8_takeNumber_32 ?_
        refine lv_iload_n hx hb dX8_takeNumber_35 rfl (lv_at hl 2 rfl) ?_
        refine lv_icmp_le (tgt := 46) hx hb dX8_takeNumber_36 (by decide) (fun hc => ?_) (fun hc => ?_)
        · have hf := it_t hc hf
          refine lv_aload_n hx hb dX8_takeNumber_46 rfl (lv_at hl 0 rfl) ?_
          refine va_get (D := E.1) (ci := 8) (v := .int o_value) (C := RX8) (T := TX8) (N := 10) hx hb hts inX8 hown hK hP 0 rfl rfl 6 (by decide) (hts _ fl_X8_57) (fun _ h9 => h9) rfl dX8_takeNumber_47 ?_
          refine lv_istore_n (lv' := [(3, .int o_value), (0, .ref a_o), (1, .int v1), (2, .int v2)]) hx hb dX8_takeNumber_50 rfl hl (by decide) rfl (fun ls hl => ?_)
          refine lv_aload_n hx hb dX8_takeNumber_51 rfl (lv_at hl 1 rfl) ?_
          obtain ⟨u52, hu52, hf⟩ := bd hf
          refine callVV (wn := (wd_X8_takeNumber E a_o a_o_text o_held o_length u52.1 u52.2.1 u52.2.2.1 u52.2.2.2.1 u52.2.2.2.2 o_fault o_faultPlace o_text)) (n1 := 2) (ct_X8_advance l E F a_o a_o_text o_held o_length o_place o_next o_sort o_value o_code o_fault o_faultPlace o_text u52 hu52) [0, 1] cal_X8_advance cav_X8_advance lk_X8_44 cx hP hD hS hl dX8_takeNumber_52 rfl rfl rfl rfl (Nat.le_of_ble_eq_true rfl) ⟨Nat.le_of_ble_eq_true rfl, Nat.le_of_ble_eq_true rfl⟩ rfl (by decide +kernel) rfl [some 0, some 1] rfl (by decide +kernel) rfl (fun H locs hP hD hS => ?_)
          refine lv_iload_n hx hb dX8_takeNumber_55 rfl (lv_at hl 0 rfl) ?_
          obtain rfl := Option.some.inj hf
          subst hq
          exact retI cx hP hD hS dX8_takeNumber_56
        · have hf := it_f hc hf
          exact hj39 _ _ _ _ _ _ _ _ _ _ hf hP hD hS (lv_sub hl [0, 1] rfl)
    · have hf := it_f hc hf
      refine lv_aload_n hx hb dX8_takeNumber_17 rfl (lv_at hl 0 rfl) ?_
      obtain ⟨u18, hu18, hf⟩ := bd hf
      refine callVV (wn := (wd_X8_takeNumber E a_o a_o_text o_held o_length o_place o_next o_sort o_value o_code u18.1 u18.2 o_text)) (n1 := 2) (ct_X8_failHere l E a_o a_o_text o_held o_length o_place o_next o_sort o_value o_code o_fault o_faultPlace u18 hu18) [0] cal_X8_failHere cav_X8_failHere lk_X8_94 cx hP hD hS hl dX8_takeNumber_18 rfl rfl rfl rfl (Nat.le_of_ble_eq_true rfl) ⟨Nat.le_of_ble_eq_true rfl, Nat.le_of_ble_eq_true rfl⟩ rfl (by decide +kernel) rfl [some 0, none] rfl (by decide +kernel) rfl (fun H locs hP hD hS => ?_)
      refine lv_iload_n hx hb dX8_takeNumber_21 rfl (lv_at hl 1 rfl) ?_
      obtain rfl := Option.some.inj hf
      subst hq
      exact retI cx hP hD hS dX8_takeNumber_22
  · have hf := it_f hc hf
    refine lv_iload_n hx hb dX8_takeNumber_7 rfl (lv_at hl 1 rfl) ?_
    obtain rfl := Option.some.inj hf
    subst hq
    exact retI cx hP hD hS dX8_takeNumber_8
def X8_takeEnd_j25 (F : Nat) (o_length : Int32) (o_place : Int32) (o_next : Int32) (o_sort : Int32) (o_value : Int32) (o_code : Int64) (o_fault : Int32) (o_faultPlace : Int32) (o_text : Nat → Int32) : Option (Int32 × Int32 × Int32 × Int32 × Int64 × Int32 × Int32) :=
  (X8_failHere o_place o_sort o_fault o_faultPlace).bind fun u26 =>
  some (o_place, o_next, o_sort, o_value, o_code, u26.1, u26.2)
def X8_takeEnd (F : Nat) (o_length : Int32) (o_place : Int32) (o_next : Int32) (o_sort : Int32) (o_value : Int32) (o_code : Int64) (o_fault : Int32) (o_faultPlace : Int32) (o_text : Nat → Int32) : Option (Int32 × Int32 × Int32 × Int32 × Int64 × Int32 × Int32) :=
  if o_fault = 0 then
  if o_sort = 3 then
  if o_value = 59 then
  (X8_advance F o_length o_place o_next o_sort o_value o_code o_text).bind fun u31 =>
  some (u31.1, u31.2.1, u31.2.2.1, u31.2.2.2.1, u31.2.2.2.2, o_fault, o_faultPlace)
  else
  X8_takeEnd_j25 F o_length o_place o_next o_sort o_value o_code o_fault o_faultPlace o_text
  else
  X8_takeEnd_j25 F o_length o_place o_next o_sort o_value o_code o_fault o_faultPlace o_text
  else
  some (o_place, o_next, o_sort, o_value, o_code, o_fault, o_faultPlace)
abbrev wd_X8_takeEnd (E : vE) (a_o a_o_text : Nat) (o_held : Int32) (o_length : Int32) (o_place : Int32) (o_next : Int32) (o_sort : Int32) (o_value : Int32) (o_code : Int64) (o_fault : Int32) (o_faultPlace : Int32) (o_text : Nat → Int32) : va_W := [(a_o, .inr (8, [.ref a_o_text, .int o_held, .int o_length, .int o_place, .int o_next, .int o_sort, .int o_value, .long o_code, .int o_fault, .int o_faultPlace])), (a_o_text, .inl (E.2.1, 900, .inl o_text))]
set_option maxHeartbeats 4000000 in
set_option maxRecDepth 100000 in
theorem ct_X8_takeEnd (l : Launch) (E : vE) (F : Nat) (a_o a_o_text : Nat) (o_held : Int32) (o_length : Int32) (o_place : Int32) (o_next : Int32) (o_sort : Int32) (o_value : Int32) (o_code : Int64) (o_fault : Int32) (o_faultPlace : Int32) (o_text : Nat → Int32) (u : Int32 × Int32 × Int32 × Int32 × Int64 × Int32 × Int32) (hf : X8_takeEnd F o_length o_place o_next o_sort o_value o_code o_fault o_faultPlace o_text = some u) :
    CtV l yX8_takeEnd cX8_takeEnd 1 none 7 E [.ref a_o] (wd_X8_takeEnd E a_o a_o_text o_held o_length o_place o_next o_sort o_value o_code o_fault o_faultPlace o_text) (wd_X8_takeEnd E a_o a_o_text o_held o_length u.1 u.2.1 u.2.2.1 u.2.2.2.1 u.2.2.2.2.1 u.2.2.2.2.2.1 u.2.2.2.2.2.2 o_text) := by
  refine ctV (by decide) (Nat.le_of_ble_eq_true rfl) ?_
  intro p e s m below meth cd A ls aa QQ hq cx hP hD hS hl
  obtain ⟨⟨hx, hb, hml, hown, hts⟩, hr, hlocks, hK, hA, hX⟩ := id cx
  have hl : lv_has ls 1 [(0, .ref a_o)] := hl
  have hj25 : ∀ (o_place_j25 : Int32) (o_next_j25 : Int32) (o_sort_j25 : Int32) (o_value_j25 : Int32) (o_code_j25 : Int64) (o_fault_j25 : Int32) (o_faultPlace_j25 : Int32) (H : Heap) (locs : List Loc) (ls : Array Slot), X8_takeEnd_j25 F o_length o_place_j25 o_next_j25 o_sort_j25 o_value_j25 o_code_j25 o_fault_j25 o_faultPlace_j25 o_text = some u → va_P E.1 vwCl (wd_X8_takeEnd E a_o a_o_text o_held o_length o_place_j25 o_next_j25 o_sort_j25 o_value_j25 o_code_j25 o_fault_j25 o_faultPlace_j25 o_text) H → va_D A (wd_X8_takeEnd E a_o a_o_text o_held o_length o_place_j25 o_next_j25 o_sort_j25 o_value_j25 o_code_j25 o_fault_j25 o_faultPlace_j25 o_text) → va_S A s.heap H locs → lv_has ls 1 [(0, .ref a_o)] → W p l e (rmd 7) s m aa below meth cd H locs 0 0 QQ (F0 m 25 ls []) := by
    intro o_place_j25 o_next_j25 o_sort_j25 o_value_j25 o_code_j25 o_fault_j25 o_faultPlace_j25 H locs ls hf hP hD hS hl
    unfold X8_takeEnd_j25 at hf
    refine lv_aload_n hx hb dX8_takeEnd_25 rfl (lv_at hl 0 rfl) ?_
    obtain ⟨u26, hu26, hf⟩ := bd hf
    refine callVV (wn := (wd_X8_takeEnd E a_o a_o_text o_held o_length o_place_j25 o_next_j25 o_sort_j25 o_value_j25 o_code_j25 u26.1 u26.2 o_text)) (n1 := 2) (ct_X8_failHere l E a_o a_o_text o_held o_length o_place_j25 o_next_j25 o_sort_j25 o_value_j25 o_code_j25 o_fault_j25 o_faultPlace_j25 u26 hu26) [0] cal_X8_failHere cav_X8_failHere lk_X8_94 cx hP hD hS hl dX8_takeEnd_26 rfl rfl rfl rfl (Nat.le_of_ble_eq_true rfl) ⟨Nat.le_of_ble_eq_true rfl, Nat.le_of_ble_eq_true rfl⟩ rfl (by decide +kernel) rfl [some 0, none] rfl (by decide +kernel) rfl (fun H locs hP hD hS => ?_)
    obtain rfl := Option.some.inj hf
    subst hq
    exact retV cx hP hD hS dX8_takeEnd_29
  unfold X8_takeEnd at hf
  refine lv_aload_n hx hb dX8_takeEnd_0 rfl (lv_at hl 0 rfl) ?_
  refine va_get (D := E.1) (ci := 8) (v := .int o_fault) (C := RX8) (T := TX8) (N := 10) hx hb hts inX8 hown hK hP 0 rfl rfl 8 (by decide) (hts _ fl_X8_41) (fun _ h9 => h9) rfl dX8_takeEnd_1 ?_
  refine lv_if_eq (tgt := 8) hx hb dX8_takeEnd_4 (by decide) (fun hc => ?_) (fun hc => ?_)
  · have hf := it_t hc hf
    refine lv_aload_n hx hb dX8_takeEnd_8 rfl (lv_at hl 0 rfl) ?_
    refine va_get (D := E.1) (ci := 8) (v := .int o_sort) (C := RX8) (T := TX8) (N := 10) hx hb hts inX8 hown hK hP 0 rfl rfl 5 (by decide) (hts _ fl_X8_47) (fun _ h9 => h9) rfl dX8_takeEnd_9 ?_
    refine lv_iconst (v := 3) hx hb dX8_takeEnd_12 (by decide) ?_
    refine lv_icmp_ne (tgt := 25) hx hb dX8_takeEnd_13 (by decide) (fun hc => ?_) (fun hc => ?_)
    · have hf := it_f hc hf
      exact hj25 _ _ _ _ _ _ _ _ _ _ hf hP hD hS (lv_sub hl [0] rfl)
    · have hf := it_t hc hf
      refine lv_aload_n hx hb dX8_takeEnd_16 rfl (lv_at hl 0 rfl) ?_
      refine va_get (D := E.1) (ci := 8) (v := .int o_value) (C := RX8) (T := TX8) (N := 10) hx hb hts inX8 hown hK hP 0 rfl rfl 6 (by decide) (hts _ fl_X8_57) (fun _ h9 => h9) rfl dX8_takeEnd_17 ?_
      refine lv_bipush (v := 59) hx hb dX8_takeEnd_20 (by decide) ?_
      refine lv_icmp_eq (tgt := 30) hx hb dX8_takeEnd_22 (by decide) (fun hc => ?_) (fun hc => ?_)
      · have hf := it_t hc hf
        refine lv_aload_n hx hb dX8_takeEnd_30 rfl (lv_at hl 0 rfl) ?_
        obtain ⟨u31, hu31, hf⟩ := bd hf
        refine callVV (wn := (wd_X8_takeEnd E a_o a_o_text o_held o_length u31.1 u31.2.1 u31.2.2.1 u31.2.2.2.1 u31.2.2.2.2 o_fault o_faultPlace o_text)) (n1 := 2) (ct_X8_advance l E F a_o a_o_text o_held o_length o_place o_next o_sort o_value o_code o_fault o_faultPlace o_text u31 hu31) [0, 1] cal_X8_advance cav_X8_advance lk_X8_44 cx hP hD hS hl dX8_takeEnd_31 rfl rfl rfl rfl (Nat.le_of_ble_eq_true rfl) ⟨Nat.le_of_ble_eq_true rfl, Nat.le_of_ble_eq_true rfl⟩ rfl (by decide +kernel) rfl [some 0, some 1] rfl (by decide +kernel) rfl (fun H locs hP hD hS => ?_)
        obtain rfl := Option.some.inj hf
        subst hq
        exact retV cx hP hD hS dX8_takeEnd_34
      · have hf := it_f hc hf
        exact hj25 _ _ _ _ _ _ _ _ _ _ hf hP hD hS (lv_sub hl [0] rfl)
  · have hf := it_f hc hf
    obtain rfl := Option.some.inj hf
    subst hq
    exact retV cx hP hD hS dX8_takeEnd_7
def X1_takeRule (F : Nat) (o_rulesTold : Int32) (o_tokens_length : Int32) (o_tokens_place : Int32) (o_tokens_next : Int32) (o_tokens_sort : Int32) (o_tokens_value : Int32) (o_tokens_code : Int64) (o_tokens_fault : Int32) (o_tokens_faultPlace : Int32) (o_tokens_text : Nat → Int32) (v1 : Int32) (v2 : Int32) (v3 : Int32) : Option (Int32 × Int32 × Int32 × Int32 × Int32 × Int32 × Int64 × Int32 × Int32) :=
  if ((jshr o_rulesTold v1) &&& 1) = 1 then
  (X8_fail o_tokens_place o_tokens_fault o_tokens_faultPlace (5 : Int32)).bind fun u17 =>
  some (v2, o_rulesTold, o_tokens_place, o_tokens_next, o_tokens_sort, o_tokens_value, o_tokens_code, u17.1, u17.2)
  else
  (X8_advance F o_tokens_length o_tokens_place o_tokens_next o_tokens_sort o_tokens_value o_tokens_code o_tokens_text).bind fun u38 =>
  (X8_takeNumber F o_tokens_length u38.1 u38.2.1 u38.2.2.1 u38.2.2.2.1 u38.2.2.2.2 o_tokens_fault o_tokens_faultPlace o_tokens_text v2 v3).bind fun u47 =>
  (X8_takeEnd F o_tokens_length u47.2.1 u47.2.2.1 u47.2.2.2.1 u47.2.2.2.2.1 u47.2.2.2.2.2.1 u47.2.2.2.2.2.2.1 u47.2.2.2.2.2.2.2 o_tokens_text).bind fun u56 =>
  some (u47.1, (o_rulesTold ||| (jshl 1 v1)), u56.1, u56.2.1, u56.2.2.1, u56.2.2.2.1, u56.2.2.2.2.1, u56.2.2.2.2.2.1, u56.2.2.2.2.2.2)
abbrev wd_X1_takeRule (E : vE) (a_o a_o_tokens a_o_draft a_o_tokens_text : Nat) (o_rulesTold : Int32) (o_tokens_held : Int32) (o_tokens_length : Int32) (o_tokens_place : Int32) (o_tokens_next : Int32) (o_tokens_sort : Int32) (o_tokens_value : Int32) (o_tokens_code : Int64) (o_tokens_fault : Int32) (o_tokens_faultPlace : Int32) (o_tokens_text : Nat → Int32) : va_W := [(a_o, .inr (1, [.ref a_o_tokens, .ref a_o_draft, .int o_rulesTold])), (a_o_tokens, .inr (8, [.ref a_o_tokens_text, .int o_tokens_held, .int o_tokens_length, .int o_tokens_place, .int o_tokens_next, .int o_tokens_sort, .int o_tokens_value, .long o_tokens_code, .int o_tokens_fault, .int o_tokens_faultPlace])), (a_o_tokens_text, .inl (E.2.1, 900, .inl o_tokens_text))]
set_option maxHeartbeats 4000000 in
set_option maxRecDepth 100000 in
theorem ct_X1_takeRule (l : Launch) (E : vE) (F : Nat) (a_o a_o_tokens a_o_draft a_o_tokens_text : Nat) (o_rulesTold : Int32) (o_tokens_held : Int32) (o_tokens_length : Int32) (o_tokens_place : Int32) (o_tokens_next : Int32) (o_tokens_sort : Int32) (o_tokens_value : Int32) (o_tokens_code : Int64) (o_tokens_fault : Int32) (o_tokens_faultPlace : Int32) (o_tokens_text : Nat → Int32) (v1 : Int32) (v2 : Int32) (v3 : Int32) (u : Int32 × Int32 × Int32 × Int32 × Int32 × Int32 × Int64 × Int32 × Int32) (hf : X1_takeRule F o_rulesTold o_tokens_length o_tokens_place o_tokens_next o_tokens_sort o_tokens_value o_tokens_code o_tokens_fault o_tokens_faultPlace o_tokens_text v1 v2 v3 = some u) :
    CtI l yX1_takeRule cX1_takeRule 5 (some .int) 8 E [.ref a_o, .int v1, .int v2, .int v3] (wd_X1_takeRule E a_o a_o_tokens a_o_draft a_o_tokens_text o_rulesTold o_tokens_held o_tokens_length o_tokens_place o_tokens_next o_tokens_sort o_tokens_value o_tokens_code o_tokens_fault o_tokens_faultPlace o_tokens_text) (wd_X1_takeRule E a_o a_o_tokens a_o_draft a_o_tokens_text u.2.1 o_tokens_held o_tokens_length u.2.2.1 u.2.2.2.1 u.2.2.2.2.1 u.2.2.2.2.2.1 u.2.2.2.2.2.2.1 u.2.2.2.2.2.2.2.1 u.2.2.2.2.2.2.2.2 o_tokens_text) u.1 := by
  refine ctI (by decide) (Nat.le_of_ble_eq_true rfl) ?_
  intro p e s m below meth cd A ls aa QQ hq cx hP hD hS hl
  obtain ⟨⟨hx, hb, hml, hown, hts⟩, hr, hlocks, hK, hA, hX⟩ := id cx
  have hl : lv_has ls 5 [(0, .ref a_o), (1, .int v1), (2, .int v2), (3, .int v3)] := hl
  unfold X1_takeRule at hf
  refine lv_aload_n hx hb dX1_takeRule_0 rfl (lv_at hl 0 rfl) ?_
  refine va_get (D := E.1) (ci := 1) (v := .int o_rulesTold) (C := RX1) (T := TX1) (N := 3) hx hb hts inX1 hown hK hP 0 rfl rfl 2 (by decide) (hts _ fl_X1_23) (fun _ h9 => h9) rfl dX1_takeRule_1 ?_
  refine lv_iload_n hx hb dX1_takeRule_4 rfl (lv_at hl 1 rfl) ?_
  refine r_ishr hx hb dX1_takeRule_5 ?_
  refine lv_iconst (v := 1) hx hb dX1_takeRule_6 (by decide) ?_
  refine lv_iand hx hb dX1_takeRule_7 ?_
  refine lv_iconst (v := 1) hx hb dX1_takeRule_8 (by decide) ?_
  refine lv_icmp_ne (tgt := 22) hx hb dX1_takeRule_9 (by decide) (fun hc => ?_) (fun hc => ?_)
  · have hf := it_f hc hf
    refine lv_aload_n hx hb dX1_takeRule_22 rfl (lv_at hl 0 rfl) ?_
    refine lv_dup hx hb dX1_takeRule_23 rfl ?_
    refine va_get (D := E.1) (ci := 1) (v := .int o_rulesTold) (C := RX1) (T := TX1) (N := 3) hx hb hts inX1 hown hK hP 0 rfl rfl 2 (by decide) (hts _ fl_X1_23) (fun _ h9 => h9) rfl dX1_takeRule_24 ?_
    refine lv_iconst (v := 1) hx hb dX1_takeRule_27 (by decide) ?_
    refine lv_iload_n hx hb dX1_takeRule_28 rfl (lv_at hl 1 rfl) ?_
    refine r_ishl hx hb dX1_takeRule_29 ?_
    refine lv_ior hx hb dX1_takeRule_30 ?_
    refine va_put (D := E.1) (ci := 1) (v := .int (o_rulesTold ||| (jshl 1 v1))) (ty := .int) (C := RX1) (T := TX1) (N := 3) hx hb hts inX1 tyX1 tyX1_ok nmX1 hown hK hP hD hS 0 rfl rfl 2 (by decide) (hts _ fl_X1_23) (fun _ h9 => h9) rfl (by decide +kernel) rfl rfl (Nat.le_of_ble_eq_true rfl) dX1_takeRule_31 (fun H locs hP hD hS => ?_)
    have hP : va_P E.1 vwCl (wd_X1_takeRule E a_o a_o_tokens a_o_draft a_o_tokens_text (o_rulesTold ||| (jshl 1 v1)) o_tokens_held o_tokens_length o_tokens_place o_tokens_next o_tokens_sort o_tokens_value o_tokens_code o_tokens_fault o_tokens_faultPlace o_tokens_text) H := hP
    have hD : va_D A (wd_X1_takeRule E a_o a_o_tokens a_o_draft a_o_tokens_text (o_rulesTold ||| (jshl 1 v1)) o_tokens_held o_tokens_length o_tokens_place o_tokens_next o_tokens_sort o_tokens_value o_tokens_code o_tokens_fault o_tokens_faultPlace o_tokens_text) := hD
    refine lv_aload_n hx hb dX1_takeRule_34 rfl (lv_at hl 0 rfl) ?_
    refine va_get (D := E.1) (ci := 1) (v := .ref a_o_tokens) (C := RX1) (T := TX1) (N := 3) hx hb hts inX1 hown hK hP 0 rfl rfl 0 (by decide) (hts _ fl_X1_16) (fun _ h9 => h9) rfl dX1_takeRule_35 ?_
    obtain ⟨u38, hu38, hf⟩ := bd hf
    refine callVV (wn := (wd_X1_takeRule E a_o a_o_tokens a_o_draft a_o_tokens_text (o_rulesTold ||| (jshl 1 v1)) o_tokens_held o_tokens_length u38.1 u38.2.1 u38.2.2.1 u38.2.2.2.1 u38.2.2.2.2 o_tokens_fault o_tokens_faultPlace o_tokens_text)) (n1 := 3) (ct_X8_advance l E F a_o_tokens a_o_tokens_text o_tokens_held o_tokens_length o_tokens_place o_tokens_next o_tokens_sort o_tokens_value o_tokens_code o_tokens_fault o_tokens_faultPlace o_tokens_text u38 hu38) [1, 2] cal_X8_advance cav_X8_advance lk_X1_95 cx hP hD hS hl dX1_takeRule_38 rfl rfl rfl rfl (Nat.le_of_ble_eq_true rfl) ⟨Nat.le_of_ble_eq_true rfl, Nat.le_of_ble_eq_true rfl⟩ rfl (by decide +kernel) rfl [none, some 0, some 1] rfl (by decide +kernel) rfl (fun H locs hP hD hS => ?_)
    refine lv_aload_n hx hb dX1_takeRule_41 rfl (lv_at hl 0 rfl) ?_
    refine va_get (D := E.1) (ci := 1) (v := .ref a_o_tokens) (C := RX1) (T := TX1) (N := 3) hx hb hts inX1 hown hK hP 0 rfl rfl 0 (by decide) (hts _ fl_X1_16) (fun _ h9 => h9) rfl dX1_takeRule_42 ?_
    refine lv_iload_n hx hb dX1_takeRule_45 rfl (lv_at hl 2 rfl) ?_
    refine lv_iload_n hx hb dX1_takeRule_46 rfl (lv_at hl 3 rfl) ?_
    obtain ⟨u47, hu47, hf⟩ := bd hf
    refine callVI (wn := (wd_X1_takeRule E a_o a_o_tokens a_o_draft a_o_tokens_text (o_rulesTold ||| (jshl 1 v1)) o_tokens_held o_tokens_length u47.2.1 u47.2.2.1 u47.2.2.2.1 u47.2.2.2.2.1 u47.2.2.2.2.2.1 u47.2.2.2.2.2.2.1 u47.2.2.2.2.2.2.2 o_tokens_text)) (n1 := 3) (ct_X8_takeNumber l E F a_o_tokens a_o_tokens_text o_tokens_held o_tokens_length u38.1 u38.2.1 u38.2.2.1 u38.2.2.2.1 u38.2.2.2.2 o_tokens_fault o_tokens_faultPlace o_tokens_text v2 v3 u47 hu47) [1, 2] cal_X8_takeNumber cav_X8_takeNumber lk_X1_98 cx hP hD hS hl dX1_takeRule_47 rfl rfl rfl rfl (Nat.le_of_ble_eq_true rfl) ⟨Nat.le_of_ble_eq_true rfl, Nat.le_of_ble_eq_true rfl⟩ rfl (by decide +kernel) rfl [none, some 0, some 1] rfl (by decide +kernel) rfl (fun H locs hP hD hS => ?_)
    refine lv_istore (lv' := [(4, .int u47.1), (0, .ref a_o), (1, .int v1), (2, .int v2), (3, .int v3)]) hx hb dX1_takeRule_50 hl (by decide) rfl (fun ls hl => ?_)
    refine lv_aload_n hx hb dX1_takeRule_52 rfl (lv_at hl 1 rfl) ?_
    refine va_get (D := E.1) (ci := 1) (v := .ref a_o_tokens) (C := RX1) (T := TX1) (N := 3) hx hb hts inX1 hown hK hP 0 rfl rfl 0 (by decide) (hts _ fl_X1_16) (fun _ h9 => h9) rfl dX1_takeRule_53 ?_
    obtain ⟨u56, hu56, hf⟩ := bd hf
    refine callVV (wn := (wd_X1_takeRule E a_o a_o_tokens a_o_draft a_o_tokens_text (o_rulesTold ||| (jshl 1 v1)) o_tokens_held o_tokens_length u56.1 u56.2.1 u56.2.2.1 u56.2.2.2.1 u56.2.2.2.2.1 u56.2.2.2.2.2.1 u56.2.2.2.2.2.2 o_tokens_text)) (n1 := 3) (ct_X8_takeEnd l E F a_o_tokens a_o_tokens_text o_tokens_held o_tokens_length u47.2.1 u47.2.2.1 u47.2.2.2.1 u47.2.2.2.2.1 u47.2.2.2.2.2.1 u47.2.2.2.2.2.2.1 u47.2.2.2.2.2.2.2 o_tokens_text u56 hu56) [1, 2] cal_X8_takeEnd cav_X8_takeEnd lk_X1_102 cx hP hD hS hl dX1_takeRule_56 rfl rfl rfl rfl (Nat.le_of_ble_eq_true rfl) ⟨Nat.le_of_ble_eq_true rfl, Nat.le_of_ble_eq_true rfl⟩ rfl (by decide +kernel) rfl [none, some 0, some 1] rfl (by decide +kernel) rfl (fun H locs hP hD hS => ?_)
    refine lv_iload hx hb dX1_takeRule_59 (lv_at hl 0 rfl) ?_
    obtain rfl := Option.some.inj hf
    subst hq
    exact retI cx hP hD hS dX1_takeRule_61
  · have hf := it_t hc hf
    refine lv_aload_n hx hb dX1_takeRule_12 rfl (lv_at hl 0 rfl) ?_
    refine va_get (D := E.1) (ci := 1) (v := .ref a_o_tokens) (C := RX1) (T := TX1) (N := 3) hx hb hts inX1 hown hK hP 0 rfl rfl 0 (by decide) (hts _ fl_X1_16) (fun _ h9 => h9) rfl dX1_takeRule_13 ?_
    refine lv_iconst (v := 5) hx hb dX1_takeRule_16 (by decide) ?_
    obtain ⟨u17, hu17, hf⟩ := bd hf
    refine callVV (wn := (wd_X1_takeRule E a_o a_o_tokens a_o_draft a_o_tokens_text o_rulesTold o_tokens_held o_tokens_length o_tokens_place o_tokens_next o_tokens_sort o_tokens_value o_tokens_code u17.1 u17.2 o_tokens_text)) (n1 := 3) (ct_X8_fail l E a_o_tokens a_o_tokens_text o_tokens_held o_tokens_length o_tokens_place o_tokens_next o_tokens_sort o_tokens_value o_tokens_code o_tokens_fault o_tokens_faultPlace (5 : Int32) u17 hu17) [1] cal_X8_fail cav_X8_fail lk_X1_92 cx hP hD hS hl dX1_takeRule_17 rfl rfl rfl rfl (Nat.le_of_ble_eq_true rfl) ⟨Nat.le_of_ble_eq_true rfl, Nat.le_of_ble_eq_true rfl⟩ rfl (by decide +kernel) rfl [none, some 0, none] rfl (by decide +kernel) rfl (fun H locs hP hD hS => ?_)
    refine lv_iload_n hx hb dX1_takeRule_20 rfl (lv_at hl 2 rfl) ?_
    obtain rfl := Option.some.inj hf
    subst hq
    exact retI cx hP hD hS dX1_takeRule_21
