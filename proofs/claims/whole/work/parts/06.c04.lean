def X1_takeRule (F : Nat) (o_rulesTold : Int32) (o_tokens_length : Int32) (o_tokens_place : Int32) (o_tokens_next : Int32) (o_tokens_sort : Int32) (o_tokens_value : Int32) (o_tokens_code : Int64) (o_tokens_fault : Int32) (o_tokens_faultPlace : Int32) (o_tokens_text : Nat → Int32) (v1 : Int32) (v2 : Int32) (v3 : Int32) : Option (Int32 × Int32 × Int32 × Int32 × Int32 × Int32 × Int64 × Int32 × Int32) :=
  if ((jshr o_rulesTold v1) &&& 1) = 1 then
  (X8_fail o_tokens_place o_tokens_fault o_tokens_faultPlace (5 : Int32)).bind fun u17 =>
  some (v2, o_rulesTold, o_tokens_place, o_tokens_next, o_tokens_sort, o_tokens_value, o_tokens_code, u17.1, u17.2)
  else
  (X8_advance F o_tokens_length o_tokens_place o_tokens_next o_tokens_sort o_tokens_value o_tokens_code o_tokens_text).bind fun u38 =>
  (X8_takeNumber F o_tokens_length u38.1 u38.2.1 u38.2.2.1 u38.2.2.2.1 u38.2.2.2.2 o_tokens_fault o_tokens_faultPlace o_tokens_text v2 v3).bind fun u47 =>
  (X8_takeEnd F o_tokens_length u47.2.1 u47.2.2.1 u47.2.2.2.1 u47.2.2.2.2.1 u47.2.2.2.2.2.1 u47.2.2.2.2.2.2.1 u47.2.2.2.2.2.2.2 o_tokens_text).bind fun u56 =>
  some (u47.1, (o_rulesTold ||| (jshl 1 v1)), u56.1, u56.2.1, u56.2.2.1, u56.2.2.2.1, u56.2.2.2.2.1, u56.2.2.2.2.2.1, u56.2.2.2.2.2.2)
abbrev wd_X1_takeRule (E : vE) (a_o a_o_tokens a_o_draft a_o_tokens_text : Nat) (o_rulesTold : Int32) (o_tokens_held : Int32) (o_tokens_length : Int32) (o_tokens_place : Int32) (o_tokens_next : Int32) (o_tokens_sort : Int32) (o_tokens_value : Int32) (o_tokens_code : Int64) (o_tokens_fault : Int32) (o_tokens_faultPlace : Int32) (o_tokens_text : Nat → Int32) : va_W := [(a_o, .inr (1, [.ref a_o_tokens, .ref a_o_draft, .int o_rulesTold])), (a_o_tokens, .inr (8, [.ref a_o_tokens_text, .int o_tokens_held, .int o_tokens_length, .int o_tokens_place, .int o_tokens_next, .int o_tokens_sort, .int o_tokens_value, .long o_tokens_code, .int o_tokens_fault, .int o_tokens_faultPlace])), (a_o_tokens_text, .inl (E.2.1, 900, .inl o_tokens_text))]
set_option maxHeartbeats 4000000 in
set_option maxRecDepth 100000 in
theorem ct_X1_takeRule (l : Launch) (E : vE) (F : Nat) (a_o a_o_tokens a_o_draft a_o_tokens_text : Nat) (o_rulesTold : Int32) (o_tokens_held : Int32) (o_tokens_length : Int32) (o_tokens_place : Int32) (o_tokens_next : Int32) (o_tokens_sort : Int32) (o_tokens_value : Int32) (o_tokens_code : Int64) (o_tokens_fault : Int32) (o_tokens_faultPlace : Int32) (o_tokens_text : Nat → Int32) (v1 : Int32) (v2 : Int32) (v3 : Int32) (u : Int32 × Int32 × Int32 × Int32 × Int32 × Int32 × Int64 × Int32 × Int32) (hf : X1_takeRule F o_rulesTold o_tokens_length o_tokens_place o_tokens_next o_tokens_sort o_tokens_value o_tokens_code o_tokens_fault o_tokens_faultPlace o_tokens_text v1 v2 v3 = some u) :
    CtI l yX1_takeRule cX1_takeRule 5 (some .int) 7 E [.ref a_o, .int v1, .int v2, .int v3] (wd_X1_takeRule E a_o a_o_tokens a_o_draft a_o_tokens_text o_rulesTold o_tokens_held o_tokens_length o_tokens_place o_tokens_next o_tokens_sort o_tokens_value o_tokens_code o_tokens_fault o_tokens_faultPlace o_tokens_text) (wd_X1_takeRule E a_o a_o_tokens a_o_draft a_o_tokens_text u.2.1 o_tokens_held o_tokens_length u.2.2.1 u.2.2.2.1 u.2.2.2.2.1 u.2.2.2.2.2.1 u.2.2.2.2.2.2.1 u.2.2.2.2.2.2.2.1 u.2.2.2.2.2.2.2.2 o_tokens_text) u.1 := by
  refine ctI (by decide) (Nat.le_of_ble_eq_true rfl) ?_
  intro p e s m below meth cd A ls aa QQ hq cx hP hD hS hl
  obtain ⟨⟨hx, hb, hml, hown, hts⟩, hr, hlocks, hK, hA, hX⟩ := id cx
  have hl : lv_has ls 5 [(0, .ref a_o), (1, .int v1), (2, .int v2), (3, .int v3)] := hl
  unfold X1_takeRule at hf
  refine lv_aload_n hx hb dX1_takeRule_0 rfl (lv_at hl 0 rfl) ?_
  refine va_get (D := E.1) (ci := 1) (v := .int o_rulesTold) (C := RX1) (T := TX1) (N := 3) hx hb hts inX1 hown hK hP 0 rfl rfl 2 (by decide) (hts _ fl_X1_23) (fun _ h9 => h9) rfl dX1_takeRule_1 ?_
  refine lv_iload_n hx hb dX1_takeRule_4 rfl (lv_at hl 1 rfl) ?_
  refine r_ishr hx hb dX1_takeRule_5 ?_
  refine lv_iconst (v := 1) hx hb dX1_takeRule_6 (by decide) ?_
  refine lv_iand hx hb dX1_takeRule_7 ?_
  refine lv_iconst (v := 1) hx hb dX1_takeRule_8 (by decide) ?_
  refine lv_icmp_ne (tgt := 22) hx hb dX1_takeRule_9 (by decide) (fun hc => ?_) (fun hc => ?_)
  · have hf := it_f hc hf
    refine lv_aload_n hx hb dX1_takeRule_22 rfl (lv_at hl 0 rfl) ?_
    refine lv_dup hx hb dX1_takeRule_23 rfl ?_
    refine va_get (D := E.1) (ci := 1) (v := .int o_rulesTold) (C := RX1) (T := TX1) (N := 3) hx hb hts inX1 hown hK hP 0 rfl rfl 2 (by decide) (hts _ fl_X1_23) (fun _ h9 => h9) rfl dX1_takeRule_24 ?_
    refine lv_iconst (v := 1) hx hb dX1_takeRule_27 (by decide) ?_
    refine lv_iload_n hx hb dX1_takeRule_28 rfl (lv_at hl 1 rfl) ?_
    refine r_ishl hx hb dX1_takeRule_29 ?_
    refine lv_ior hx hb dX1_takeRule_30 ?_
    refine va_put (D := E.1) (ci := 1) (v := .int (o_rulesTold ||| (jshl 1 v1))) (ty := .int) (C := RX1) (T := TX1) (N := 3) hx hb hts inX1 tyX1 tyX1_ok nmX1 hown hK hP hD hS 0 rfl rfl 2 (by decide) (hts _ fl_X1_23) (fun _ h9 => h9) rfl (by decide +kernel) rfl rfl (Nat.le_of_ble_eq_true rfl) dX1_takeRule_31 (fun H locs hP hD hS => ?_)
    have hP : va_P E.1 vwCl (wd_X1_takeRule E a_o a_o_tokens a_o_draft a_o_tokens_text (o_rulesTold ||| (jshl 1 v1)) o_tokens_held o_tokens_length o_tokens_place o_tokens_next o_tokens_sort o_tokens_value o_tokens_code o_tokens_fault o_tokens_faultPlace o_tokens_text) H := hP
    have hD : va_D A (wd_X1_takeRule E a_o a_o_tokens a_o_draft a_o_tokens_text (o_rulesTold ||| (jshl 1 v1)) o_tokens_held o_tokens_length o_tokens_place o_tokens_next o_tokens_sort o_tokens_value o_tokens_code o_tokens_fault o_tokens_faultPlace o_tokens_text) := hD
    refine lv_aload_n hx hb dX1_takeRule_34 rfl (lv_at hl 0 rfl) ?_
    refine va_get (D := E.1) (ci := 1) (v := .ref a_o_tokens) (C := RX1) (T := TX1) (N := 3) hx hb hts inX1 hown hK hP 0 rfl rfl 0 (by decide) (hts _ fl_X1_16) (fun _ h9 => h9) rfl dX1_takeRule_35 ?_
    obtain ⟨u38, hu38, hf⟩ := bd hf
    refine callVV (wn := (wd_X1_takeRule E a_o a_o_tokens a_o_draft a_o_tokens_text (o_rulesTold ||| (jshl 1 v1)) o_tokens_held o_tokens_length u38.1 u38.2.1 u38.2.2.1 u38.2.2.2.1 u38.2.2.2.2 o_tokens_fault o_tokens_faultPlace o_tokens_text)) (n1 := 3) (ct_X8_advance l E F a_o_tokens a_o_tokens_text o_tokens_held o_tokens_length o_tokens_place o_tokens_next o_tokens_sort o_tokens_value o_tokens_code o_tokens_fault o_tokens_faultPlace o_tokens_text u38 hu38) [1, 2] cal_X8_advance cav_X8_advance lk_X1_95 cx hP hD hS hl dX1_takeRule_38 rfl rfl rfl rfl (Nat.le_of_ble_eq_true rfl) ⟨Nat.le_of_ble_eq_true rfl, Nat.le_of_ble_eq_true rfl⟩ rfl (by decide +kernel) rfl [none, some 0, some 1] rfl (by decide +kernel) rfl (fun H locs hP hD hS => ?_)
    refine lv_aload_n hx hb dX1_takeRule_41 rfl (lv_at hl 0 rfl) ?_
    refine va_get (D := E.1) (ci := 1) (v := .ref a_o_tokens) (C := RX1) (T := TX1) (N := 3) hx hb hts inX1 hown hK hP 0 rfl rfl 0 (by decide) (hts _ fl_X1_16) (fun _ h9 => h9) rfl dX1_takeRule_42 ?_
    refine lv_iload_n hx hb dX1_takeRule_45 rfl (lv_at hl 2 rfl) ?_
    refine lv_iload_n hx hb dX1_takeRule_46 rfl (lv_at hl 3 rfl) ?_
    obtain ⟨u47, hu47, hf⟩ := bd hf
    refine callVI (wn := (wd_X1_takeRule E a_o a_o_tokens a_o_draft a_o_tokens_text (o_rulesTold ||| (jshl 1 v1)) o_tokens_held o_tokens_length u47.2.1 u47.2.2.1 u47.2.2.2.1 u47.2.2.2.2.1 u47.2.2.2.2.2.1 u47.2.2.2.2.2.2.1 u47.2.2.2.2.2.2.2 o_tokens_text)) (n1 := 3) (ct_X8_takeNumber l E F a_o_tokens a_o_tokens_text o_tokens_held o_tokens_length u38.1 u38.2.1 u38.2.2.1 u38.2.2.2.1 u38.2.2.2.2 o_tokens_fault o_tokens_faultPlace o_tokens_text v2 v3 u47 hu47) [1, 2] cal_X8_takeNumber cav_X8_takeNumber lk_X1_98 cx hP hD hS hl dX1_takeRule_47 rfl rfl rfl rfl (Nat.le_of_ble_eq_true rfl) ⟨Nat.le_of_ble_eq_true rfl, Nat.le_of_ble_eq_true rfl⟩ rfl (by decide +kernel) rfl [none, some 0, some 1] rfl (by decide +kernel) rfl (fun H locs hP hD hS => ?_)
    refine lv_istore (lv' := [(4, .int u47.1), (0, .ref a_o), (1, .int v1), (2, .int v2), (3, .int v3)]) hx hb dX1_takeRule_50 hl (by decide) rfl (fun ls hl => ?_)
    refine lv_aload_n hx hb dX1_takeRule_52 rfl (lv_at hl 1 rfl) ?_
    refine va_get (D := E.1) (ci := 1) (v := .ref a_o_tokens) (C := RX1) (T := TX1) (N := 3) hx hb hts inX1 hown hK hP 0 rfl rfl 0 (by decide) (hts _ fl_X1_16) (fun _ h9 => h9) rfl dX1_takeRule_53 ?_
    obtain ⟨u56, hu56, hf⟩ := bd hf
    refine callVV (wn := (wd_X1_takeRule E a_o a_o_tokens a_o_draft a_o_tokens_text (o_rulesTold ||| (jshl 1 v1)) o_tokens_held o_tokens_length u56.1 u56.2.1 u56.2.2.1 u56.2.2.2.1 u56.2.2.2.2.1 u56.2.2.2.2.2.1 u56.2.2.2.2.2.2 o_tokens_text)) (n1 := 3) (ct_X8_takeEnd l E F a_o_tokens a_o_tokens_text o_tokens_held o_tokens_length u47.2.1 u47.2.2.1 u47.2.2.2.1 u47.2.2.2.2.1 u47.2.2.2.2.2.1 u47.2.2.2.2.2.2.1 u47.2.2.2.2.2.2.2 o_tokens_text u56 hu56) [1, 2] cal_X8_takeEnd cav_X8_takeEnd lk_X1_102 cx hP hD hS hl dX1_takeRule_56 rfl rfl rfl rfl (Nat.le_of_ble_eq_true rfl) ⟨Nat.le_of_ble_eq_true rfl, Nat.le_of_ble_eq_true rfl⟩ rfl (by decide +kernel) rfl [none, some 0, some 1] rfl (by decide +kernel) rfl (fun H locs hP hD hS => ?_)
    refine lv_iload hx hb dX1_takeRule_59 (lv_at hl 0 rfl) ?_
    obtain rfl := Option.some.inj hf
    subst hq
    exact retI cx hP hD hS dX1_takeRule_61
  · have hf := it_t hc hf
    refine lv_aload_n hx hb dX1_takeRule_12 rfl (lv_at hl 0 rfl) ?_
    refine va_get (D := E.1) (ci := 1) (v := .ref a_o_tokens) (C := RX1) (T := TX1) (N := 3) hx hb hts inX1 hown hK hP 0 rfl rfl 0 (by decide) (hts _ fl_X1_16) (fun _ h9 => h9) rfl dX1_takeRule_13 ?_
    refine lv_iconst (v := 5) hx hb dX1_takeRule_16 (by decide) ?_
    obtain ⟨u17, hu17, hf⟩ := bd hf
    refine callVV (wn := (wd_X1_takeRule E a_o a_o_tokens a_o_draft a_o_tokens_text o_rulesTold o_tokens_held o_tokens_length o_tokens_place o_tokens_next o_tokens_sort o_tokens_value o_tokens_code u17.1 u17.2 o_tokens_text)) (n1 := 3) (ct_X8_fail l E a_o_tokens a_o_tokens_text o_tokens_held o_tokens_length o_tokens_place o_tokens_next o_tokens_sort o_tokens_value o_tokens_code o_tokens_fault o_tokens_faultPlace (5 : Int32) u17 hu17) [1] cal_X8_fail cav_X8_fail lk_X1_92 cx hP hD hS hl dX1_takeRule_17 rfl rfl rfl rfl (Nat.le_of_ble_eq_true rfl) ⟨Nat.le_of_ble_eq_true rfl, Nat.le_of_ble_eq_true rfl⟩ rfl (by decide +kernel) rfl [none, some 0, none] rfl (by decide +kernel) rfl (fun H locs hP hD hS => ?_)
    refine lv_iload_n hx hb dX1_takeRule_20 rfl (lv_at hl 2 rfl) ?_
    obtain rfl := Option.some.inj hf
    subst hq
    exact retI cx hP hD hS dX1_takeRule_21
def X1_takeFirstWord (F : Nat) (o_tokens_length : Int32) (o_tokens_place : Int32) (o_tokens_next : Int32) (o_tokens_sort : Int32) (o_tokens_value : Int32) (o_tokens_code : Int64) (o_tokens_fault : Int32) (o_tokens_faultPlace : Int32) (o_tokens_text : Nat → Int32) (v1 : Int32) : Option (Int32 × Int32 × Int32 × Int32 × Int64 × Int32 × Int32) :=
  if v1 = 0 then
  (X8_advance F o_tokens_length o_tokens_place o_tokens_next o_tokens_sort o_tokens_value o_tokens_code o_tokens_text).bind fun u18 =>
  some (u18.1, u18.2.1, u18.2.2.1, u18.2.2.2.1, u18.2.2.2.2, o_tokens_fault, o_tokens_faultPlace)
  else
  (X8_fail o_tokens_place o_tokens_fault o_tokens_faultPlace (6 : Int32)).bind fun u10 =>
  some (o_tokens_place, o_tokens_next, o_tokens_sort, o_tokens_value, o_tokens_code, u10.1, u10.2)
abbrev wd_X1_takeFirstWord (E : vE) (a_o a_o_tokens a_o_draft a_o_tokens_text : Nat) (o_rulesTold : Int32) (o_tokens_held : Int32) (o_tokens_length : Int32) (o_tokens_place : Int32) (o_tokens_next : Int32) (o_tokens_sort : Int32) (o_tokens_value : Int32) (o_tokens_code : Int64) (o_tokens_fault : Int32) (o_tokens_faultPlace : Int32) (o_tokens_text : Nat → Int32) : va_W := [(a_o, .inr (1, [.ref a_o_tokens, .ref a_o_draft, .int o_rulesTold])), (a_o_tokens, .inr (8, [.ref a_o_tokens_text, .int o_tokens_held, .int o_tokens_length, .int o_tokens_place, .int o_tokens_next, .int o_tokens_sort, .int o_tokens_value, .long o_tokens_code, .int o_tokens_fault, .int o_tokens_faultPlace])), (a_o_tokens_text, .inl (E.2.1, 900, .inl o_tokens_text))]
set_option maxHeartbeats 4000000 in
set_option maxRecDepth 100000 in
theorem ct_X1_takeFirstWord (l : Launch) (E : vE) (F : Nat) (a_o a_o_tokens a_o_draft a_o_tokens_text : Nat) (o_rulesTold : Int32) (o_tokens_held : Int32) (o_tokens_length : Int32) (o_tokens_place : Int32) (o_tokens_next : Int32) (o_tokens_sort : Int32) (o_tokens_value : Int32) (o_tokens_code : Int64) (o_tokens_fault : Int32) (o_tokens_faultPlace : Int32) (o_tokens_text : Nat → Int32) (v1 : Int32) (u : Int32 × Int32 × Int32 × Int32 × Int64 × Int32 × Int32) (hf : X1_takeFirstWord F o_tokens_length o_tokens_place o_tokens_next o_tokens_sort o_tokens_value o_tokens_code o_tokens_fault o_tokens_faultPlace o_tokens_text v1 = some u) :
    CtV l yX1_takeFirstWord cX1_takeFirstWord 2 none 6 E [.ref a_o, .int v1] (wd_X1_takeFirstWord E a_o a_o_tokens a_o_draft a_o_tokens_text o_rulesTold o_tokens_held o_tokens_length o_tokens_place o_tokens_next o_tokens_sort o_tokens_value o_tokens_code o_tokens_fault o_tokens_faultPlace o_tokens_text) (wd_X1_takeFirstWord E a_o a_o_tokens a_o_draft a_o_tokens_text o_rulesTold o_tokens_held o_tokens_length u.1 u.2.1 u.2.2.1 u.2.2.2.1 u.2.2.2.2.1 u.2.2.2.2.2.1 u.2.2.2.2.2.2 o_tokens_text) := by
  refine ctV (by decide) (Nat.le_of_ble_eq_true rfl) ?_
  intro p e s m below meth cd A ls aa QQ hq cx hP hD hS hl
  obtain ⟨⟨hx, hb, hml, hown, hts⟩, hr, hlocks, hK, hA, hX⟩ := id cx
  have hl : lv_has ls 2 [(0, .ref a_o), (1, .int v1)] := hl
  unfold X1_takeFirstWord at hf
  refine lv_iload_n hx hb dX1_takeFirstWord_0 rfl (lv_at hl 1 rfl) ?_
  refine lv_if_eq (tgt := 14) hx hb dX1_takeFirstWord_1 (by decide) (fun hc => ?_) (fun hc => ?_)
  · have hf := it_t hc hf
    refine lv_aload_n hx hb dX1_takeFirstWord_14 rfl (lv_at hl 0 rfl) ?_
    refine va_get (D := E.1) (ci := 1) (v := .ref a_o_tokens) (C := RX1) (T := TX1) (N := 3) hx hb hts inX1 hown hK hP 0 rfl rfl 0 (by decide) (hts _ fl_X1_16) (fun _ h9 => h9) rfl dX1_takeFirstWord_15 ?_
    obtain ⟨u18, hu18, hf⟩ := bd hf
    refine callVV (wn := (wd_X1_takeFirstWord E a_o a_o_tokens a_o_draft a_o_tokens_text o_rulesTold o_tokens_held o_tokens_length u18.1 u18.2.1 u18.2.2.1 u18.2.2.2.1 u18.2.2.2.2 o_tokens_fault o_tokens_faultPlace o_tokens_text)) (n1 := 3) (ct_X8_advance l E F a_o_tokens a_o_tokens_text o_tokens_held o_tokens_length o_tokens_place o_tokens_next o_tokens_sort o_tokens_value o_tokens_code o_tokens_fault o_tokens_faultPlace o_tokens_text u18 hu18) [1, 2] cal_X8_advance cav_X8_advance lk_X1_95 cx hP hD hS hl dX1_takeFirstWord_18 rfl rfl rfl rfl (Nat.le_of_ble_eq_true rfl) ⟨Nat.le_of_ble_eq_true rfl, Nat.le_of_ble_eq_true rfl⟩ rfl (by decide +kernel) rfl [none, some 0, some 1] rfl (by decide +kernel) rfl (fun H locs hP hD hS => ?_)
    obtain rfl := Option.some.inj hf
    subst hq
    exact retV cx hP hD hS dX1_takeFirstWord_21
  · have hf := it_f hc hf
    refine lv_aload_n hx hb dX1_takeFirstWord_4 rfl (lv_at hl 0 rfl) ?_
    refine va_get (D := E.1) (ci := 1) (v := .ref a_o_tokens) (C := RX1) (T := TX1) (N := 3) hx hb hts inX1 hown hK hP 0 rfl rfl 0 (by decide) (hts _ fl_X1_16) (fun _ h9 => h9) rfl dX1_takeFirstWord_5 ?_
    refine lv_bipush (v := 6) hx hb dX1_takeFirstWord_8 (by decide) ?_
    obtain ⟨u10, hu10, hf⟩ := bd hf
    refine callVV (wn := (wd_X1_takeFirstWord E a_o a_o_tokens a_o_draft a_o_tokens_text o_rulesTold o_tokens_held o_tokens_length o_tokens_place o_tokens_next o_tokens_sort o_tokens_value o_tokens_code u10.1 u10.2 o_tokens_text)) (n1 := 3) (ct_X8_fail l E a_o_tokens a_o_tokens_text o_tokens_held o_tokens_length o_tokens_place o_tokens_next o_tokens_sort o_tokens_value o_tokens_code o_tokens_fault o_tokens_faultPlace (6 : Int32) u10 hu10) [1] cal_X8_fail cav_X8_fail lk_X1_92 cx hP hD hS hl dX1_takeFirstWord_10 rfl rfl rfl rfl (Nat.le_of_ble_eq_true rfl) ⟨Nat.le_of_ble_eq_true rfl, Nat.le_of_ble_eq_true rfl⟩ rfl (by decide +kernel) rfl [none, some 0, none] rfl (by decide +kernel) rfl (fun H locs hP hD hS => ?_)
    obtain rfl := Option.some.inj hf
    subst hq
    exact retV cx hP hD hS dX1_takeFirstWord_13
def X3_indexOf_b2 (F : Nat) (o_many : Int32) (o_codes : Nat → Int64) (v1 : Int64) (st2 : Int32) : Option ((Int32) ⊕ ((Int32) ⊕ (Unit))) :=
  if o_many ≤ st2 then
  some (.inr (.inr (())))
  else
  if ix st2 27 then
  if (lg_cmp (jat o_codes st2) v1) = 0 then
  some (.inr (.inl (st2)))
  else
  some (.inl (st2 + 1))
  else none
def X3_indexOf (F : Nat) (o_many : Int32) (o_codes : Nat → Int64) (v1 : Int64) : Option (Int32) :=
  (iter (X3_indexOf_b2 F o_many o_codes v1) F 0).bind (Sum.elim (fun (e2 : Int32) =>
    some e2) (fun (e2 : Unit) =>
    some (-1)))
abbrev wd_X3_indexOf (E : vE) (a_o a_o_codes a_o_sorts a_o_numbers : Nat) (o_many : Int32) (o_codes : Nat → Int64) : va_W := [(a_o, .inr (3, [.ref a_o_codes, .ref a_o_sorts, .ref a_o_numbers, .int o_many])), (a_o_codes, .inl (E.2.2.1, 27, .inr (.inl o_codes)))]
set_option maxHeartbeats 4000000 in
set_option maxRecDepth 100000 in
theorem ct_X3_indexOf (l : Launch) (E : vE) (F : Nat) (a_o a_o_codes a_o_sorts a_o_numbers : Nat) (o_many : Int32) (o_codes : Nat → Int64) (v1 : Int64) (u : Int32) (hf : X3_indexOf F o_many o_codes v1 = some u) :
    CtI l yX3_indexOf cX3_indexOf 4 (some .int) 0 E [.ref a_o, .long v1] (wd_X3_indexOf E a_o a_o_codes a_o_sorts a_o_numbers o_many o_codes) (wd_X3_indexOf E a_o a_o_codes a_o_sorts a_o_numbers o_many o_codes) u := by
  refine ctI (by decide) (Nat.le_of_ble_eq_true rfl) ?_
  intro p e s m below meth cd A ls aa QQ hq cx hP hD hS hl
  obtain ⟨⟨hx, hb, hml, hown, hts⟩, hr, hlocks, hK, hA, hX⟩ := id cx
  have hl : lv_has ls 4 [(0, .ref a_o), (1, .long v1)] := hl
  unfold X3_indexOf at hf
  refine lv_iconst (v := 0) hx hb dX3_indexOf_0 (by decide) ?_
  refine lv_istore_n (lv' := [(3, .int 0), (0, .ref a_o), (1, .long v1)]) hx hb dX3_indexOf_1 rfl hl (by decide) rfl (fun ls hl => ?_)
  obtain ⟨e2, hit2, hf⟩ := bd hf
  refine iter_W (b := X3_indexOf_b2 F o_many o_codes v1) (P := fun st2 => ∀ (H : Heap) (locs : List Loc) (ls : Array Slot), va_P E.1 vwCl (wd_X3_indexOf E a_o a_o_codes a_o_sorts a_o_numbers o_many o_codes) H → va_D A (wd_X3_indexOf E a_o a_o_codes a_o_sorts a_o_numbers o_many o_codes) → va_S A s.heap H locs → lv_has ls 4 [(0, .ref a_o), (1, .long v1), (3, .int st2)] → W p l e (rmd 0) s m aa below meth cd H locs 0 0 QQ (F0 m 2 ls [])) (G := (Sum.elim (fun (e2 : Int32) => ∀ (H : Heap) (locs : List Loc) (ls : Array Slot), va_P E.1 vwCl (wd_X3_indexOf E a_o a_o_codes a_o_sorts a_o_numbers o_many o_codes) H → va_D A (wd_X3_indexOf E a_o a_o_codes a_o_sorts a_o_numbers o_many o_codes) → va_S A s.heap H locs → lv_has ls 4 [(3, .int e2)] → W p l e (rmd 0) s m aa below meth cd H locs 0 0 QQ (F0 m 21 ls [])) (fun (e2 : Unit) => ∀ (H : Heap) (locs : List Loc) (ls : Array Slot), va_P E.1 vwCl (wd_X3_indexOf E a_o a_o_codes a_o_sorts a_o_numbers o_many o_codes) H → va_D A (wd_X3_indexOf E a_o a_o_codes a_o_sorts a_o_numbers o_many o_codes) → va_S A s.heap H locs → lv_has ls 4 [] → W p l e (rmd 0) s m aa below meth cd H locs 0 0 QQ (F0 m 29 ls [])))) ?_ F 0 e2 hit2 ?_ _ _ _ hP hD hS (lv_sub hl [1, 2, 0] rfl)
  · intro st2 r2 hf hk2 he2 H locs ls hP hD hS hl
    unfold X3_indexOf_b2 at hf
    refine lv_iload_n hx hb dX3_indexOf_2 rfl (lv_at hl 2 rfl) ?_
    refine lv_aload_n hx hb dX3_indexOf_3 rfl (lv_at hl 0 rfl) ?_
    refine va_get (D := E.1) (ci := 3) (v := .int o_many) (C := RX3) (T := TX3) (N := 4) hx hb hts inX3 hown hK hP 0 rfl rfl 3 (by decide) (hts _ fl_X3_22) (fun _ h9 => h9) rfl dX3_indexOf_4 ?_
    refine lv_icmp_ge (tgt := 29) hx hb dX3_indexOf_7 (by decide) (fun hc => ?_) (fun hc => ?_)
    · have hf := it_t hc hf
      exact he2 _ (Option.some.inj hf).symm _ _ _ hP hD hS (lv_sub hl [] rfl)
    · have hf := it_f hc hf
      refine lv_aload_n hx hb dX3_indexOf_10 rfl (lv_at hl 0 rfl) ?_
      refine va_get (D := E.1) (ci := 3) (v := .ref a_o_codes) (C := RX3) (T := TX3) (N := 4) hx hb hts inX3 hown hK hP 0 rfl rfl 0 (by decide) (hts _ fl_X3_11) (fun _ h9 => h9) rfl dX3_indexOf_11 ?_
      refine lv_iload_n hx hb dX3_indexOf_14 rfl (lv_at hl 2 rfl) ?_
      obtain ⟨hi, hf⟩ := ck hf
      refine r_lald 1 cx hP rfl hi dX3_indexOf_15 ?_
      refine lv_lload_n hx hb dX3_indexOf_16 rfl (lv_at hl 1 rfl) ?_
      refine W.lcmp hx hb dX3_indexOf_17 ?_
      refine lv_if_ne (tgt := 23) hx hb dX3_indexOf_18 (by decide) (fun hc => ?_) (fun hc => ?_)
      · have hf := it_f hc hf
        refine lv_iinc (v := (st2 + 1)) (lv' := [(3, .int (st2 + 1)), (0, .ref a_o), (1, .long v1)]) hx hb dX3_indexOf_23 hl (k := 2) rfl rfl (by decide) rfl (fun ls hl => ?_)
        refine lv_goto (tgt := 2) hx hb dX3_indexOf_26 (by decide) ?_
        exact hk2 _ (Option.some.inj hf).symm _ _ _ hP hD hS (lv_sub hl [1, 2, 0] rfl)
      · have hf := it_t hc hf
        exact he2 _ (Option.some.inj hf).symm _ _ _ hP hD hS (lv_sub hl [2] rfl)
  · rcases e2 with e2 | e2
    · have hf := se_l hf
      refine fun H locs ls hP hD hS hl => ?_
      refine lv_iload_n hx hb dX3_indexOf_21 rfl (lv_at hl 0 rfl) ?_
      obtain rfl := Option.some.inj hf
      subst hq
      exact retI cx hP hD hS dX3_indexOf_22
    · have hf := se_r hf
      refine fun H locs ls hP hD hS hl => ?_
      refine lv_iconst (v := (-1)) hx hb dX3_indexOf_29 (by decide) ?_
      obtain rfl := Option.some.inj hf
      subst hq
      exact retI cx hP hD hS dX3_indexOf_30
def X8_takeNewName (F : Nat) (o_length : Int32) (o_place : Int32) (o_next : Int32) (o_sort : Int32) (o_value : Int32) (o_code : Int64) (o_fault : Int32) (o_faultPlace : Int32) (o_text : Nat → Int32) (q1_many : Int32) (q1_codes : Nat → Int64) : Option (Int64 × Int32 × Int32 × Int32 × Int32 × Int64 × Int32 × Int32) :=
  if o_fault = 0 then
  if (lg_cmp o_code 0) = 0 then
  (X8_failHere o_place o_sort o_fault o_faultPlace).bind fun u19 =>
  some (0, o_place, o_next, o_sort, o_value, o_code, u19.1, u19.2)
  else
  (X3_indexOf F q1_many q1_codes o_code).bind fun u29 =>
  if u29 = (-1) then
  (X8_advance F o_length o_place o_next o_sort o_value o_code o_text).bind fun u49 =>
  some (o_code, u49.1, u49.2.1, u49.2.2.1, u49.2.2.2.1, u49.2.2.2.2, o_fault, o_faultPlace)
  else
  (X8_fail o_place o_fault o_faultPlace (3 : Int32)).bind fun u38 =>
  some (0, o_place, o_next, o_sort, o_value, o_code, u38.1, u38.2)
  else
  some (0, o_place, o_next, o_sort, o_value, o_code, o_fault, o_faultPlace)
abbrev wd_X8_takeNewName (E : vE) (a_o a_o_text a_q1 a_q1_codes a_q1_sorts a_q1_numbers : Nat) (o_held : Int32) (o_length : Int32) (o_place : Int32) (o_next : Int32) (o_sort : Int32) (o_value : Int32) (o_code : Int64) (o_fault : Int32) (o_faultPlace : Int32) (o_text : Nat → Int32) (q1_many : Int32) (q1_codes : Nat → Int64) : va_W := [(a_o, .inr (8, [.ref a_o_text, .int o_held, .int o_length, .int o_place, .int o_next, .int o_sort, .int o_value, .long o_code, .int o_fault, .int o_faultPlace])), (a_o_text, .inl (E.2.1, 900, .inl o_text)), (a_q1, .inr (3, [.ref a_q1_codes, .ref a_q1_sorts, .ref a_q1_numbers, .int q1_many])), (a_q1_codes, .inl (E.2.2.1, 27, .inr (.inl q1_codes)))]
set_option maxHeartbeats 4000000 in
set_option maxRecDepth 100000 in
theorem ct_X8_takeNewName (l : Launch) (E : vE) (F : Nat) (a_o a_o_text a_q1 a_q1_codes a_q1_sorts a_q1_numbers : Nat) (o_held : Int32) (o_length : Int32) (o_place : Int32) (o_next : Int32) (o_sort : Int32) (o_value : Int32) (o_code : Int64) (o_fault : Int32) (o_faultPlace : Int32) (o_text : Nat → Int32) (q1_many : Int32) (q1_codes : Nat → Int64) (u : Int64 × Int32 × Int32 × Int32 × Int32 × Int64 × Int32 × Int32) (hf : X8_takeNewName F o_length o_place o_next o_sort o_value o_code o_fault o_faultPlace o_text q1_many q1_codes = some u) :
    CtL l yX8_takeNewName cX8_takeNewName 4 (some .long) 6 E [.ref a_o, .ref a_q1] (wd_X8_takeNewName E a_o a_o_text a_q1 a_q1_codes a_q1_sorts a_q1_numbers o_held o_length o_place o_next o_sort o_value o_code o_fault o_faultPlace o_text q1_many q1_codes) (wd_X8_takeNewName E a_o a_o_text a_q1 a_q1_codes a_q1_sorts a_q1_numbers o_held o_length u.2.1 u.2.2.1 u.2.2.2.1 u.2.2.2.2.1 u.2.2.2.2.2.1 u.2.2.2.2.2.2.1 u.2.2.2.2.2.2.2 o_text q1_many q1_codes) u.1 := by
  refine ctL (by decide) (Nat.le_of_ble_eq_true rfl) ?_
  intro p e s m below meth cd A ls aa QQ hq cx hP hD hS hl
  obtain ⟨⟨hx, hb, hml, hown, hts⟩, hr, hlocks, hK, hA, hX⟩ := id cx
  have hl : lv_has ls 4 [(0, .ref a_o), (1, .ref a_q1)] := hl
  unfold X8_takeNewName at hf
  refine lv_aload_n hx hb dX8_takeNewName_0 rfl (lv_at hl 0 rfl) ?_
  refine va_get (D := E.1) (ci := 8) (v := .int o_fault) (C := RX8) (T := TX8) (N := 10) hx hb hts inX8 hown hK hP 0 rfl rfl 8 (by decide) (hts _ fl_X8_41) (fun _ h9 => h9) rfl dX8_takeNewName_1 ?_
  refine lv_if_eq (tgt := 9) hx hb dX8_takeNewName_4 (by decide) (fun hc => ?_) (fun hc => ?_)
  · have hf := it_t hc hf
    refine lv_aload_n hx hb dX8_takeNewName_9 rfl (lv_at hl 0 rfl) ?_
    refine va_get (D := E.1) (ci := 8) (v := .long o_code) (C := RX8) (T := TX8) (N := 10) hx hb hts inX8 hown hK hP 0 rfl rfl 7 (by decide) (hts _ fl_X8_60) (fun _ h9 => h9) rfl dX8_takeNewName_10 ?_
    refine lv_lconst (v := 0) hx hb dX8_takeNewName_13 (by decide) ?_
    refine W.lcmp hx hb dX8_takeNewName_14 ?_
    refine lv_if_ne (tgt := 24) hx hb dX8_takeNewName_15 (by decide) (fun hc => ?_) (fun hc => ?_)
    · have hf := it_f hc hf
      refine lv_aload_n hx hb dX8_takeNewName_24 rfl (lv_at hl 1 rfl) ?_
      refine lv_aload_n hx hb dX8_takeNewName_25 rfl (lv_at hl 0 rfl) ?_
      refine va_get (D := E.1) (ci := 8) (v := .long o_code) (C := RX8) (T := TX8) (N := 10) hx hb hts inX8 hown hK hP 0 rfl rfl 7 (by decide) (hts _ fl_X8_60) (fun _ h9 => h9) rfl dX8_takeNewName_26 ?_
      obtain ⟨u29, hu29, hf⟩ := bd hf
      refine keepVI (ct_X3_indexOf l E F a_q1 a_q1_codes a_q1_sorts a_q1_numbers q1_many q1_codes o_code u29 hu29) [2, 3] cal_X3_indexOf cav_X3_indexOf lk_X8_97 cx hP hD hS hl dX8_takeNewName_29 rfl rfl rfl rfl (Nat.le_of_ble_eq_true rfl) ⟨Nat.le_of_ble_eq_true rfl, Nat.le_of_ble_eq_true rfl⟩ rfl (by decide) (fun H locs hP hS => ?_)
      refine lv_iconst (v := (-1)) hx hb dX8_takeNewName_32 (by decide) ?_
      refine lv_icmp_eq (tgt := 43) hx hb dX8_takeNewName_33 (by decide) (fun hc => ?_) (fun hc => ?_)
      · have hf := it_t hc hf
        refine lv_aload_n hx hb dX8_takeNewName_43 rfl (lv_at hl 0 rfl) ?_
        refine va_get (D := E.1) (ci := 8) (v := .long o_code) (C := RX8) (T := TX8) (N := 10) hx hb hts inX8 hown hK hP 0 rfl rfl 7 (by decide) (hts _ fl_X8_60) (fun _ h9 => h9) rfl dX8_takeNewName_44 ?_
        refine lv_lstore_n (lv' := [(2, .long o_code), (0, .ref a_o), (1, .ref a_q1)]) hx hb dX8_takeNewName_47 rfl hl (by decide) rfl (fun ls hl => ?_)
        refine lv_aload_n hx hb dX8_takeNewName_48 rfl (lv_at hl 1 rfl) ?_
        obtain ⟨u49, hu49, hf⟩ := bd hf
        refine callVV (wn := (wd_X8_takeNewName E a_o a_o_text a_q1 a_q1_codes a_q1_sorts a_q1_numbers o_held o_length u49.1 u49.2.1 u49.2.2.1 u49.2.2.2.1 u49.2.2.2.2 o_fault o_faultPlace o_text q1_many q1_codes)) (n1 := 4) (ct_X8_advance l E F a_o a_o_text o_held o_length o_place o_next o_sort o_value o_code o_fault o_faultPlace o_text u49 hu49) [0, 1] cal_X8_advance cav_X8_advance lk_X8_44 cx hP hD hS hl dX8_takeNewName_49 rfl rfl rfl rfl (Nat.le_of_ble_eq_true rfl) ⟨Nat.le_of_ble_eq_true rfl, Nat.le_of_ble_eq_true rfl⟩ rfl (by decide +kernel) rfl [some 0, some 1, none, none] rfl (by decide +kernel) rfl (fun H locs hP hD hS => ?_)
        refine lv_lload_n hx hb dX8_takeNewName_52 rfl (lv_at hl 0 rfl) ?_
        obtain rfl := Option.some.inj hf
        subst hq
        exact retL cx hP hD hS dX8_takeNewName_53
      · have hf := it_f hc hf
        refine lv_aload_n hx hb dX8_takeNewName_36 rfl (lv_at hl 0 rfl) ?_
        refine lv_iconst (v := 3) hx hb dX8_takeNewName_37 (by decide) ?_
        obtain ⟨u38, hu38, hf⟩ := bd hf
        refine callVV (wn := (wd_X8_takeNewName E a_o a_o_text a_q1 a_q1_codes a_q1_sorts a_q1_numbers o_held o_length o_place o_next o_sort o_value o_code u38.1 u38.2 o_text q1_many q1_codes)) (n1 := 4) (ct_X8_fail l E a_o a_o_text o_held o_length o_place o_next o_sort o_value o_code o_fault o_faultPlace (3 : Int32) u38 hu38) [0] cal_X8_fail cav_X8_fail lk_X8_53 cx hP hD hS hl dX8_takeNewName_38 rfl rfl rfl rfl (Nat.le_of_ble_eq_true rfl) ⟨Nat.le_of_ble_eq_true rfl, Nat.le_of_ble_eq_true rfl⟩ rfl (by decide +kernel) rfl [some 0, none, none, none] rfl (by decide +kernel) rfl (fun H locs hP hD hS => ?_)
        refine lv_lconst (v := 0) hx hb dX8_takeNewName_41 (by decide) ?_
        obtain rfl := Option.some.inj hf
        subst hq
        exact retL cx hP hD hS dX8_takeNewName_42
    · have hf := it_t hc hf
      refine lv_aload_n hx hb dX8_takeNewName_18 rfl (lv_at hl 0 rfl) ?_
      obtain ⟨u19, hu19, hf⟩ := bd hf
      refine callVV (wn := (wd_X8_takeNewName E a_o a_o_text a_q1 a_q1_codes a_q1_sorts a_q1_numbers o_held o_length o_place o_next o_sort o_value o_code u19.1 u19.2 o_text q1_many q1_codes)) (n1 := 4) (ct_X8_failHere l E a_o a_o_text o_held o_length o_place o_next o_sort o_value o_code o_fault o_faultPlace u19 hu19) [0] cal_X8_failHere cav_X8_failHere lk_X8_94 cx hP hD hS hl dX8_takeNewName_19 rfl rfl rfl rfl (Nat.le_of_ble_eq_true rfl) ⟨Nat.le_of_ble_eq_true rfl, Nat.le_of_ble_eq_true rfl⟩ rfl (by decide +kernel) rfl [some 0, none, none, none] rfl (by decide +kernel) rfl (fun H locs hP hD hS => ?_)
      refine lv_lconst (v := 0) hx hb dX8_takeNewName_22 (by decide) ?_
      obtain rfl := Option.some.inj hf
      subst hq
      exact retL cx hP hD hS dX8_takeNewName_23
  · have hf := it_f hc hf
    refine lv_lconst (v := 0) hx hb dX8_takeNewName_7 (by decide) ?_
    obtain rfl := Option.some.inj hf
    subst hq
    exact retL cx hP hD hS dX8_takeNewName_8
def X3_add (o_many : Int32) (o_codes : Nat → Int64) (o_sorts : Nat → Int32) (o_numbers : Nat → Int32) (v1 : Int64) (v3 : Int32) (v4 : Int32) : Option (Int32 × (Nat → Int64) × (Nat → Int32) × (Nat → Int32)) :=
  if (27 : Int32) ≤ o_many then
  some (o_many, o_codes, o_sorts, o_numbers)
  else
  if ix o_many 27 then
  if ix o_many 27 then
  if ix o_many 27 then
  some ((o_many + 1), (jputL o_codes o_many v1), (jput o_sorts o_many v3), (jput o_numbers o_many v4))
  else none
  else none
  else none
abbrev wd_X3_add (E : vE) (a_o a_o_codes a_o_sorts a_o_numbers : Nat) (o_many : Int32) (o_codes : Nat → Int64) (o_sorts : Nat → Int32) (o_numbers : Nat → Int32) : va_W := [(a_o, .inr (3, [.ref a_o_codes, .ref a_o_sorts, .ref a_o_numbers, .int o_many])), (a_o_codes, .inl (E.2.2.1, 27, .inr (.inl o_codes))), (a_o_sorts, .inl (E.2.1, 27, .inl o_sorts)), (a_o_numbers, .inl (E.2.1, 27, .inl o_numbers))]
set_option maxHeartbeats 4000000 in
set_option maxRecDepth 100000 in
theorem ct_X3_add (l : Launch) (E : vE) (a_o a_o_codes a_o_sorts a_o_numbers : Nat) (o_many : Int32) (o_codes : Nat → Int64) (o_sorts : Nat → Int32) (o_numbers : Nat → Int32) (v1 : Int64) (v3 : Int32) (v4 : Int32) (u : Int32 × (Nat → Int64) × (Nat → Int32) × (Nat → Int32)) (hf : X3_add o_many o_codes o_sorts o_numbers v1 v3 v4 = some u) :
    CtV l yX3_add cX3_add 5 none 0 E [.ref a_o, .long v1, .int v3, .int v4] (wd_X3_add E a_o a_o_codes a_o_sorts a_o_numbers o_many o_codes o_sorts o_numbers) (wd_X3_add E a_o a_o_codes a_o_sorts a_o_numbers u.1 u.2.1 u.2.2.1 u.2.2.2) := by
  refine ctV (by decide) (Nat.le_of_ble_eq_true rfl) ?_
  intro p e s m below meth cd A ls aa QQ hq cx hP hD hS hl
  obtain ⟨⟨hx, hb, hml, hown, hts⟩, hr, hlocks, hK, hA, hX⟩ := id cx
  have hl : lv_has ls 5 [(0, .ref a_o), (1, .long v1), (3, .int v3), (4, .int v4)] := hl
  unfold X3_add at hf
  refine lv_aload_n hx hb dX3_add_0 rfl (lv_at hl 0 rfl) ?_
  refine va_get (D := E.1) (ci := 3) (v := .int o_many) (C := RX3) (T := TX3) (N := 4) hx hb hts inX3 hown hK hP 0 rfl rfl 3 (by decide) (hts _ fl_X3_22) (fun _ h9 => h9) rfl dX3_add_1 ?_
  refine lv_bipush (v := 27) hx hb dX3_add_4 (by decide) ?_
  refine lv_icmp_ge (tgt := 50) hx hb dX3_add_6 (by decide) (fun hc => ?_) (fun hc => ?_)
  · have hf := it_t hc hf
    obtain rfl := Option.some.inj hf
    subst hq
    exact retV cx hP hD hS dX3_add_50
  · have hf := it_f hc hf
    refine lv_aload_n hx hb dX3_add_9 rfl (lv_at hl 0 rfl) ?_
    refine va_get (D := E.1) (ci := 3) (v := .ref a_o_codes) (C := RX3) (T := TX3) (N := 4) hx hb hts inX3 hown hK hP 0 rfl rfl 0 (by decide) (hts _ fl_X3_11) (fun _ h9 => h9) rfl dX3_add_10 ?_
    refine lv_aload_n hx hb dX3_add_13 rfl (lv_at hl 0 rfl) ?_
    refine va_get (D := E.1) (ci := 3) (v := .int o_many) (C := RX3) (T := TX3) (N := 4) hx hb hts inX3 hown hK hP 0 rfl rfl 3 (by decide) (hts _ fl_X3_22) (fun _ h9 => h9) rfl dX3_add_14 ?_
    refine lv_lload_n hx hb dX3_add_17 rfl (lv_at hl 1 rfl) ?_
    obtain ⟨hi, hf⟩ := ck hf
    refine r_last 1 cx hP hD hS rfl hi dX3_add_18 (fun H locs hP hD hS => ?_)
    have hP : va_P E.1 vwCl (wd_X3_add E a_o a_o_codes a_o_sorts a_o_numbers o_many (jputL o_codes o_many v1) o_sorts o_numbers) H := hP
    have hD : va_D A (wd_X3_add E a_o a_o_codes a_o_sorts a_o_numbers o_many (jputL o_codes o_many v1) o_sorts o_numbers) := hD
    refine lv_aload_n hx hb dX3_add_19 rfl (lv_at hl 0 rfl) ?_
    refine va_get (D := E.1) (ci := 3) (v := .ref a_o_sorts) (C := RX3) (T := TX3) (N := 4) hx hb hts inX3 hown hK hP 0 rfl rfl 1 (by decide) (hts _ fl_X3_15) (fun _ h9 => h9) rfl dX3_add_20 ?_
    refine lv_aload_n hx hb dX3_add_23 rfl (lv_at hl 0 rfl) ?_
    refine va_get (D := E.1) (ci := 3) (v := .int o_many) (C := RX3) (T := TX3) (N := 4) hx hb hts inX3 hown hK hP 0 rfl rfl 3 (by decide) (hts _ fl_X3_22) (fun _ h9 => h9) rfl dX3_add_24 ?_
    refine lv_iload_n hx hb dX3_add_27 rfl (lv_at hl 2 rfl) ?_
    obtain ⟨hi, hf⟩ := ck hf
    refine r_iast 2 cx hP hD hS rfl hi dX3_add_28 (fun H locs hP hD hS => ?_)
    have hP : va_P E.1 vwCl (wd_X3_add E a_o a_o_codes a_o_sorts a_o_numbers o_many (jputL o_codes o_many v1) (jput o_sorts o_many v3) o_numbers) H := hP
    have hD : va_D A (wd_X3_add E a_o a_o_codes a_o_sorts a_o_numbers o_many (jputL o_codes o_many v1) (jput o_sorts o_many v3) o_numbers) := hD
    refine lv_aload_n hx hb dX3_add_29 rfl (lv_at hl 0 rfl) ?_
    refine va_get (D := E.1) (ci := 3) (v := .ref a_o_numbers) (C := RX3) (T := TX3) (N := 4) hx hb hts inX3 hown hK hP 0 rfl rfl 2 (by decide) (hts _ fl_X3_19) (fun _ h9 => h9) rfl dX3_add_30 ?_
    refine lv_aload_n hx hb dX3_add_33 rfl (lv_at hl 0 rfl) ?_
    refine va_get (D := E.1) (ci := 3) (v := .int o_many) (C := RX3) (T := TX3) (N := 4) hx hb hts inX3 hown hK hP 0 rfl rfl 3 (by decide) (hts _ fl_X3_22) (fun _ h9 => h9) rfl dX3_add_34 ?_
    refine lv_iload hx hb dX3_add_37 (lv_at hl 3 rfl) ?_
    obtain ⟨hi, hf⟩ := ck hf
    refine r_iast 3 cx hP hD hS rfl hi dX3_add_39 (fun H locs hP hD hS => ?_)
    have hP : va_P E.1 vwCl (wd_X3_add E a_o a_o_codes a_o_sorts a_o_numbers o_many (jputL o_codes o_many v1) (jput o_sorts o_many v3) (jput o_numbers o_many v4)) H := hP
    have hD : va_D A (wd_X3_add E a_o a_o_codes a_o_sorts a_o_numbers o_many (jputL o_codes o_many v1) (jput o_sorts o_many v3) (jput o_numbers o_many v4)) := hD
    refine lv_aload_n hx hb dX3_add_40 rfl (lv_at hl 0 rfl) ?_
    refine lv_dup hx hb dX3_add_41 rfl ?_
    refine va_get (D := E.1) (ci := 3) (v := .int o_many) (C := RX3) (T := TX3) (N := 4) hx hb hts inX3 hown hK hP 0 rfl rfl 3 (by decide) (hts _ fl_X3_22) (fun _ h9 => h9) rfl dX3_add_42 ?_
    refine lv_iconst (v := 1) hx hb dX3_add_45 (by decide) ?_
    refine lv_iadd hx hb dX3_add_46 ?_
    refine va_put (D := E.1) (ci := 3) (v := .int (o_many + 1)) (ty := .int) (C := RX3) (T := TX3) (N := 4) hx hb hts inX3 tyX3 tyX3_ok nmX3 hown hK hP hD hS 0 rfl rfl 3 (by decide) (hts _ fl_X3_22) (fun _ h9 => h9) rfl (by decide +kernel) rfl rfl (Nat.le_of_ble_eq_true rfl) dX3_add_47 (fun H locs hP hD hS => ?_)
    have hP : va_P E.1 vwCl (wd_X3_add E a_o a_o_codes a_o_sorts a_o_numbers (o_many + 1) (jputL o_codes o_many v1) (jput o_sorts o_many v3) (jput o_numbers o_many v4)) H := hP
    have hD : va_D A (wd_X3_add E a_o a_o_codes a_o_sorts a_o_numbers (o_many + 1) (jputL o_codes o_many v1) (jput o_sorts o_many v3) (jput o_numbers o_many v4)) := hD
    obtain rfl := Option.some.inj hf
    subst hq
    exact retV cx hP hD hS dX3_add_50
def X1_takeCorner_j21 (F : Nat) (o_tokens_length : Int32) (o_tokens_place : Int32) (o_tokens_next : Int32) (o_tokens_sort : Int32) (o_tokens_value : Int32) (o_tokens_code : Int64) (o_tokens_fault : Int32) (o_tokens_faultPlace : Int32) (o_tokens_text : Nat → Int32) (o_draft_streets_corners : Int32) (o_draft_names_many : Int32) (o_draft_names_codes : Nat → Int64) (o_draft_names_sorts : Nat → Int32) (o_draft_names_numbers : Nat → Int32) (k0 : Int32) : Option (vS) :=
  (X1_takeFirstWord F o_tokens_length o_tokens_place o_tokens_next o_tokens_sort o_tokens_value o_tokens_code o_tokens_fault o_tokens_faultPlace o_tokens_text k0).bind fun u21 =>
  (X8_takeNewName F o_tokens_length u21.1 u21.2.1 u21.2.2.1 u21.2.2.2.1 u21.2.2.2.2.1 u21.2.2.2.2.2.1 u21.2.2.2.2.2.2 o_tokens_text o_draft_names_many o_draft_names_codes).bind fun u35 =>
  (X8_takeEnd F o_tokens_length u35.2.1 u35.2.2.1 u35.2.2.2.1 u35.2.2.2.2.1 u35.2.2.2.2.2.1 u35.2.2.2.2.2.2.1 u35.2.2.2.2.2.2.2 o_tokens_text).bind fun u43 =>
  if u43.2.2.2.2.2.1 = 0 then
  (X3_add o_draft_names_many o_draft_names_codes o_draft_names_sorts o_draft_names_numbers u35.1 (1 : Int32) o_draft_streets_corners).bind fun u75 =>
  some (mkS [u43.1, u43.2.1, u43.2.2.1, u43.2.2.2.1, u43.2.2.2.2.2.1, u43.2.2.2.2.2.2, (o_draft_streets_corners + 1), u75.1] [u43.2.2.2.2.1] [u75.2.2.1, u75.2.2.2] [u75.2.1])
  else
  some (mkS [u43.1, u43.2.1, u43.2.2.1, u43.2.2.2.1, u43.2.2.2.2.2.1, u43.2.2.2.2.2.2, o_draft_streets_corners, o_draft_names_many] [u43.2.2.2.2.1] [o_draft_names_sorts, o_draft_names_numbers] [o_draft_names_codes])
def X1_takeCorner (F : Nat) (o_tokens_length : Int32) (o_tokens_place : Int32) (o_tokens_next : Int32) (o_tokens_sort : Int32) (o_tokens_value : Int32) (o_tokens_code : Int64) (o_tokens_fault : Int32) (o_tokens_faultPlace : Int32) (o_tokens_text : Nat → Int32) (o_draft_streets_corners : Int32) (o_draft_names_many : Int32) (o_draft_names_codes : Nat → Int64) (o_draft_names_sorts : Nat → Int32) (o_draft_names_numbers : Nat → Int32) : Option (vS) :=
  if o_draft_streets_corners < 8 then
  X1_takeCorner_j21 F o_tokens_length o_tokens_place o_tokens_next o_tokens_sort o_tokens_value o_tokens_code o_tokens_fault o_tokens_faultPlace o_tokens_text o_draft_streets_corners o_draft_names_many o_draft_names_codes o_draft_names_sorts o_draft_names_numbers 0
  else
  X1_takeCorner_j21 F o_tokens_length o_tokens_place o_tokens_next o_tokens_sort o_tokens_value o_tokens_code o_tokens_fault o_tokens_faultPlace o_tokens_text o_draft_streets_corners o_draft_names_many o_draft_names_codes o_draft_names_sorts o_draft_names_numbers 1
abbrev wd_X1_takeCorner (E : vE) (a_o a_o_tokens a_o_draft a_o_tokens_text a_o_draft_streets a_o_draft_names a_o_draft_extras a_o_draft_happenings a_o_draft_watchers a_o_draft_weeks a_o_draft_streets_roads a_o_draft_streets_takes a_o_draft_streets_hours a_o_draft_names_codes a_o_draft_names_sorts a_o_draft_names_numbers : Nat) (o_rulesTold : Int32) (o_tokens_held : Int32) (o_tokens_length : Int32) (o_tokens_place : Int32) (o_tokens_next : Int32) (o_tokens_sort : Int32) (o_tokens_value : Int32) (o_tokens_code : Int64) (o_tokens_fault : Int32) (o_tokens_faultPlace : Int32) (o_tokens_text : Nat → Int32) (o_draft_wage : Int32) (o_draft_delay : Int32) (o_draft_odds : Int32) (o_draft_clock : Int32) (o_draft_hasWeeks : Int32) (o_draft_streets_corners : Int32) (o_draft_names_many : Int32) (o_draft_names_codes : Nat → Int64) (o_draft_names_sorts : Nat → Int32) (o_draft_names_numbers : Nat → Int32) : va_W := [(a_o, .inr (1, [.ref a_o_tokens, .ref a_o_draft, .int o_rulesTold])), (a_o_tokens, .inr (8, [.ref a_o_tokens_text, .int o_tokens_held, .int o_tokens_length, .int o_tokens_place, .int o_tokens_next, .int o_tokens_sort, .int o_tokens_value, .long o_tokens_code, .int o_tokens_fault, .int o_tokens_faultPlace])), (a_o_tokens_text, .inl (E.2.1, 900, .inl o_tokens_text)), (a_o_draft, .inr (0, [.int o_draft_wage, .int o_draft_delay, .int o_draft_odds, .int o_draft_clock, .int o_draft_hasWeeks, .ref a_o_draft_streets, .ref a_o_draft_names, .ref a_o_draft_extras, .ref a_o_draft_happenings, .ref a_o_draft_watchers, .ref a_o_draft_weeks])), (a_o_draft_streets, .inr (6, [.int o_draft_streets_corners, .ref a_o_draft_streets_roads, .ref a_o_draft_streets_takes, .ref a_o_draft_streets_hours])), (a_o_draft_names, .inr (3, [.ref a_o_draft_names_codes, .ref a_o_draft_names_sorts, .ref a_o_draft_names_numbers, .int o_draft_names_many])), (a_o_draft_names_codes, .inl (E.2.2.1, 27, .inr (.inl o_draft_names_codes))), (a_o_draft_names_sorts, .inl (E.2.1, 27, .inl o_draft_names_sorts)), (a_o_draft_names_numbers, .inl (E.2.1, 27, .inl o_draft_names_numbers))]
set_option maxHeartbeats 4000000 in
set_option maxRecDepth 100000 in
theorem ct_X1_takeCorner (l : Launch) (E : vE) (F : Nat) (a_o a_o_tokens a_o_draft a_o_tokens_text a_o_draft_streets a_o_draft_names a_o_draft_extras a_o_draft_happenings a_o_draft_watchers a_o_draft_weeks a_o_draft_streets_roads a_o_draft_streets_takes a_o_draft_streets_hours a_o_draft_names_codes a_o_draft_names_sorts a_o_draft_names_numbers : Nat) (o_rulesTold : Int32) (o_tokens_held : Int32) (o_tokens_length : Int32) (o_tokens_place : Int32) (o_tokens_next : Int32) (o_tokens_sort : Int32) (o_tokens_value : Int32) (o_tokens_code : Int64) (o_tokens_fault : Int32) (o_tokens_faultPlace : Int32) (o_tokens_text : Nat → Int32) (o_draft_wage : Int32) (o_draft_delay : Int32) (o_draft_odds : Int32) (o_draft_clock : Int32) (o_draft_hasWeeks : Int32) (o_draft_streets_corners : Int32) (o_draft_names_many : Int32) (o_draft_names_codes : Nat → Int64) (o_draft_names_sorts : Nat → Int32) (o_draft_names_numbers : Nat → Int32) (u : vS) (hf : X1_takeCorner F o_tokens_length o_tokens_place o_tokens_next o_tokens_sort o_tokens_value o_tokens_code o_tokens_fault o_tokens_faultPlace o_tokens_text o_draft_streets_corners o_draft_names_many o_draft_names_codes o_draft_names_sorts o_draft_names_numbers = some u) :
    CtV l yX1_takeCorner cX1_takeCorner 3 none 7 E [.ref a_o] (wd_X1_takeCorner E a_o a_o_tokens a_o_draft a_o_tokens_text a_o_draft_streets a_o_draft_names a_o_draft_extras a_o_draft_happenings a_o_draft_watchers a_o_draft_weeks a_o_draft_streets_roads a_o_draft_streets_takes a_o_draft_streets_hours a_o_draft_names_codes a_o_draft_names_sorts a_o_draft_names_numbers o_rulesTold o_tokens_held o_tokens_length o_tokens_place o_tokens_next o_tokens_sort o_tokens_value o_tokens_code o_tokens_fault o_tokens_faultPlace o_tokens_text o_draft_wage o_draft_delay o_draft_odds o_draft_clock o_draft_hasWeeks o_draft_streets_corners o_draft_names_many o_draft_names_codes o_draft_names_sorts o_draft_names_numbers) (wd_X1_takeCorner E a_o a_o_tokens a_o_draft a_o_tokens_text a_o_draft_streets a_o_draft_names a_o_draft_extras a_o_draft_happenings a_o_draft_watchers a_o_draft_weeks a_o_draft_streets_roads a_o_draft_streets_takes a_o_draft_streets_hours a_o_draft_names_codes a_o_draft_names_sorts a_o_draft_names_numbers o_rulesTold o_tokens_held o_tokens_length (u.1 0) (u.1 1) (u.1 2) (u.1 3) (u.2.1 0) (u.1 4) (u.1 5) o_tokens_text o_draft_wage o_draft_delay o_draft_odds o_draft_clock o_draft_hasWeeks (u.1 6) (u.1 7) (u.2.2.2 0) (u.2.2.1 0) (u.2.2.1 1)) := by
  refine ctV (by decide) (Nat.le_of_ble_eq_true rfl) ?_
  intro p e s m below meth cd A ls aa QQ hq cx hP hD hS hl
  obtain ⟨⟨hx, hb, hml, hown, hts⟩, hr, hlocks, hK, hA, hX⟩ := id cx
  have hl : lv_has ls 3 [(0, .ref a_o)] := hl
  have hj21 : ∀ (o_tokens_place_j21 : Int32) (o_tokens_next_j21 : Int32) (o_tokens_sort_j21 : Int32) (o_tokens_value_j21 : Int32) (o_tokens_code_j21 : Int64) (o_tokens_fault_j21 : Int32) (o_tokens_faultPlace_j21 : Int32) (o_draft_streets_corners_j21 : Int32) (o_draft_names_many_j21 : Int32) (o_draft_names_codes_j21 : Nat → Int64) (o_draft_names_sorts_j21 : Nat → Int32) (o_draft_names_numbers_j21 : Nat → Int32) (k0_j21 : Int32) (H : Heap) (locs : List Loc) (ls : Array Slot), X1_takeCorner_j21 F o_tokens_length o_tokens_place_j21 o_tokens_next_j21 o_tokens_sort_j21 o_tokens_value_j21 o_tokens_code_j21 o_tokens_fault_j21 o_tokens_faultPlace_j21 o_tokens_text o_draft_streets_corners_j21 o_draft_names_many_j21 o_draft_names_codes_j21 o_draft_names_sorts_j21 o_draft_names_numbers_j21 k0_j21 = some u → va_P E.1 vwCl (wd_X1_takeCorner E a_o a_o_tokens a_o_draft a_o_tokens_text a_o_draft_streets a_o_draft_names a_o_draft_extras a_o_draft_happenings a_o_draft_watchers a_o_draft_weeks a_o_draft_streets_roads a_o_draft_streets_takes a_o_draft_streets_hours a_o_draft_names_codes a_o_draft_names_sorts a_o_draft_names_numbers o_rulesTold o_tokens_held o_tokens_length o_tokens_place_j21 o_tokens_next_j21 o_tokens_sort_j21 o_tokens_value_j21 o_tokens_code_j21 o_tokens_fault_j21 o_tokens_faultPlace_j21 o_tokens_text o_draft_wage o_draft_delay o_draft_odds o_draft_clock o_draft_hasWeeks o_draft_streets_corners_j21 o_draft_names_many_j21 o_draft_names_codes_j21 o_draft_names_sorts_j21 o_draft_names_numbers_j21) H → va_D A (wd_X1_takeCorner E a_o a_o_tokens a_o_draft a_o_tokens_text a_o_draft_streets a_o_draft_names a_o_draft_extras a_o_draft_happenings a_o_draft_watchers a_o_draft_weeks a_o_draft_streets_roads a_o_draft_streets_takes a_o_draft_streets_hours a_o_draft_names_codes a_o_draft_names_sorts a_o_draft_names_numbers o_rulesTold o_tokens_held o_tokens_length o_tokens_place_j21 o_tokens_next_j21 o_tokens_sort_j21 o_tokens_value_j21 o_tokens_code_j21 o_tokens_fault_j21 o_tokens_faultPlace_j21 o_tokens_text o_draft_wage o_draft_delay o_draft_odds o_draft_clock o_draft_hasWeeks o_draft_streets_corners_j21 o_draft_names_many_j21 o_draft_names_codes_j21 o_draft_names_sorts_j21 o_draft_names_numbers_j21) → va_S A s.heap H locs → lv_has ls 3 [(0, .ref a_o)] → W p l e (rmd 7) s m aa below meth cd H locs 0 0 QQ (F0 m 21 ls [.int k0_j21, .ref a_o]) := by
    intro o_tokens_place_j21 o_tokens_next_j21 o_tokens_sort_j21 o_tokens_value_j21 o_tokens_code_j21 o_tokens_fault_j21 o_tokens_faultPlace_j21 o_draft_streets_corners_j21 o_draft_names_many_j21 o_draft_names_codes_j21 o_draft_names_sorts_j21 o_draft_names_numbers_j21 k0_j21 H locs ls hf hP hD hS hl
    unfold X1_takeCorner_j21 at hf
    obtain ⟨u21, hu21, hf⟩ := bd hf
    refine callVV (wn := (wd_X1_takeCorner E a_o a_o_tokens a_o_draft a_o_tokens_text a_o_draft_streets a_o_draft_names a_o_draft_extras a_o_draft_happenings a_o_draft_watchers a_o_draft_weeks a_o_draft_streets_roads a_o_draft_streets_takes a_o_draft_streets_hours a_o_draft_names_codes a_o_draft_names_sorts a_o_draft_names_numbers o_rulesTold o_tokens_held o_tokens_length u21.1 u21.2.1 u21.2.2.1 u21.2.2.2.1 u21.2.2.2.2.1 u21.2.2.2.2.2.1 u21.2.2.2.2.2.2 o_tokens_text o_draft_wage o_draft_delay o_draft_odds o_draft_clock o_draft_hasWeeks o_draft_streets_corners_j21 o_draft_names_many_j21 o_draft_names_codes_j21 o_draft_names_sorts_j21 o_draft_names_numbers_j21)) (n1 := 9) (ct_X1_takeFirstWord l E F a_o a_o_tokens a_o_draft a_o_tokens_text o_rulesTold o_tokens_held o_tokens_length o_tokens_place_j21 o_tokens_next_j21 o_tokens_sort_j21 o_tokens_value_j21 o_tokens_code_j21 o_tokens_fault_j21 o_tokens_faultPlace_j21 o_tokens_text k0_j21 u21 hu21) [0, 1, 2] cal_X1_takeFirstWord cav_X1_takeFirstWord lk_X1_108 cx hP hD hS hl dX1_takeCorner_21 rfl rfl rfl rfl (Nat.le_of_ble_eq_true rfl) ⟨Nat.le_of_ble_eq_true rfl, Nat.le_of_ble_eq_true rfl⟩ rfl (by decide +kernel) rfl [some 0, some 1, some 2, none, none, none, none, none, none] rfl (by decide +kernel) rfl (fun H locs hP hD hS => ?_)
    refine lv_aload_n hx hb dX1_takeCorner_24 rfl (lv_at hl 0 rfl) ?_
    refine va_get (D := E.1) (ci := 1) (v := .ref a_o_tokens) (C := RX1) (T := TX1) (N := 3) hx hb hts inX1 hown hK hP 0 rfl rfl 0 (by decide) (hts _ fl_X1_16) (fun _ h9 => h9) rfl dX1_takeCorner_25 ?_
    refine lv_aload_n hx hb dX1_takeCorner_28 rfl (lv_at hl 0 rfl) ?_
    refine va_get (D := E.1) (ci := 1) (v := .ref a_o_draft) (C := RX1) (T := TX1) (N := 3) hx hb hts inX1 hown hK hP 0 rfl rfl 1 (by decide) (hts _ fl_X1_10) (fun _ h9 => h9) rfl dX1_takeCorner_29 ?_
    refine va_get (D := E.1) (ci := 0) (v := .ref a_o_draft_names) (C := RX0) (T := TX0) (N := 11) hx hb hts inX0 hown hK hP 3 rfl rfl 6 (by decide) (hts _ fl_X1_112) (fun _ h9 => h9) rfl dX1_takeCorner_32 ?_
    obtain ⟨u35, hu35, hf⟩ := bd hf
    refine callVL (wn := (wd_X1_takeCorner E a_o a_o_tokens a_o_draft a_o_tokens_text a_o_draft_streets a_o_draft_names a_o_draft_extras a_o_draft_happenings a_o_draft_watchers a_o_draft_weeks a_o_draft_streets_roads a_o_draft_streets_takes a_o_draft_streets_hours a_o_draft_names_codes a_o_draft_names_sorts a_o_draft_names_numbers o_rulesTold o_tokens_held o_tokens_length u35.2.1 u35.2.2.1 u35.2.2.2.1 u35.2.2.2.2.1 u35.2.2.2.2.2.1 u35.2.2.2.2.2.2.1 u35.2.2.2.2.2.2.2 o_tokens_text o_draft_wage o_draft_delay o_draft_odds o_draft_clock o_draft_hasWeeks o_draft_streets_corners_j21 o_draft_names_many_j21 o_draft_names_codes_j21 o_draft_names_sorts_j21 o_draft_names_numbers_j21)) (n1 := 9) (ct_X8_takeNewName l E F a_o_tokens a_o_tokens_text a_o_draft_names a_o_draft_names_codes a_o_draft_names_sorts a_o_draft_names_numbers o_tokens_held o_tokens_length u21.1 u21.2.1 u21.2.2.1 u21.2.2.2.1 u21.2.2.2.2.1 u21.2.2.2.2.2.1 u21.2.2.2.2.2.2 o_tokens_text o_draft_names_many_j21 o_draft_names_codes_j21 u35 hu35) [1, 2, 5, 6] cal_X8_takeNewName cav_X8_takeNewName lk_X1_116 cx hP hD hS hl dX1_takeCorner_35 rfl rfl rfl rfl (Nat.le_of_ble_eq_true rfl) ⟨Nat.le_of_ble_eq_true rfl, Nat.le_of_ble_eq_true rfl⟩ rfl (by decide +kernel) rfl [none, some 0, some 1, none, none, some 2, some 3, none, none] rfl (by decide +kernel) rfl (fun H locs hP hD hS => ?_)
    refine lv_lstore_n (lv' := [(1, .long u35.1), (0, .ref a_o)]) hx hb dX1_takeCorner_38 rfl hl (by decide) rfl (fun ls hl => ?_)
    refine lv_aload_n hx hb dX1_takeCorner_39 rfl (lv_at hl 1 rfl) ?_
    refine va_get (D := E.1) (ci := 1) (v := .ref a_o_tokens) (C := RX1) (T := TX1) (N := 3) hx hb hts inX1 hown hK hP 0 rfl rfl 0 (by decide) (hts _ fl_X1_16) (fun _ h9 => h9) rfl dX1_takeCorner_40 ?_
    obtain ⟨u43, hu43, hf⟩ := bd hf
    refine callVV (wn := (wd_X1_takeCorner E a_o a_o_tokens a_o_draft a_o_tokens_text a_o_draft_streets a_o_draft_names a_o_draft_extras a_o_draft_happenings a_o_draft_watchers a_o_draft_weeks a_o_draft_streets_roads a_o_draft_streets_takes a_o_draft_streets_hours a_o_draft_names_codes a_o_draft_names_sorts a_o_draft_names_numbers o_rulesTold o_tokens_held o_tokens_length u43.1 u43.2.1 u43.2.2.1 u43.2.2.2.1 u43.2.2.2.2.1 u43.2.2.2.2.2.1 u43.2.2.2.2.2.2 o_tokens_text o_draft_wage o_draft_delay o_draft_odds o_draft_clock o_draft_hasWeeks o_draft_streets_corners_j21 o_draft_names_many_j21 o_draft_names_codes_j21 o_draft_names_sorts_j21 o_draft_names_numbers_j21)) (n1 := 9) (ct_X8_takeEnd l E F a_o_tokens a_o_tokens_text o_tokens_held o_tokens_length u35.2.1 u35.2.2.1 u35.2.2.2.1 u35.2.2.2.2.1 u35.2.2.2.2.2.1 u35.2.2.2.2.2.2.1 u35.2.2.2.2.2.2.2 o_tokens_text u43 hu43) [1, 2] cal_X8_takeEnd cav_X8_takeEnd lk_X1_102 cx hP hD hS hl dX1_takeCorner_43 rfl rfl rfl rfl (Nat.le_of_ble_eq_true rfl) ⟨Nat.le_of_ble_eq_true rfl, Nat.le_of_ble_eq_true rfl⟩ rfl (by decide +kernel) rfl [none, some 0, some 1, none, none, none, none, none, none] rfl (by decide +kernel) rfl (fun H locs hP hD hS => ?_)
    refine lv_aload_n hx hb dX1_takeCorner_46 rfl (lv_at hl 1 rfl) ?_
    refine va_get (D := E.1) (ci := 1) (v := .ref a_o_tokens) (C := RX1) (T := TX1) (N := 3) hx hb hts inX1 hown hK hP 0 rfl rfl 0 (by decide) (hts _ fl_X1_16) (fun _ h9 => h9) rfl dX1_takeCorner_47 ?_
    refine va_get (D := E.1) (ci := 8) (v := .int u43.2.2.2.2.2.1) (C := RX8) (T := TX8) (N := 10) hx hb hts inX8 hown hK hP 1 rfl rfl 8 (by decide) (hts _ fl_X1_49) (fun _ h9 => h9) rfl dX1_takeCorner_50 ?_
    refine lv_if_ne (tgt := 94) hx hb dX1_takeCorner_53 (by decide) (fun hc => ?_) (fun hc => ?_)
    · have hf := it_f hc hf
      obtain rfl := Option.some.inj hf
      subst hq
      exact retV cx hP hD hS dX1_takeCorner_94
    · have hf := it_t hc hf
      refine lv_aload_n hx hb dX1_takeCorner_56 rfl (lv_at hl 1 rfl) ?_
      refine va_get (D := E.1) (ci := 1) (v := .ref a_o_draft) (C := RX1) (T := TX1) (N := 3) hx hb hts inX1 hown hK hP 0 rfl rfl 1 (by decide) (hts _ fl_X1_10) (fun _ h9 => h9) rfl dX1_takeCorner_57 ?_
      refine va_get (D := E.1) (ci := 0) (v := .ref a_o_draft_names) (C := RX0) (T := TX0) (N := 11) hx hb hts inX0 hown hK hP 3 rfl rfl 6 (by decide) (hts _ fl_X1_112) (fun _ h9 => h9) rfl dX1_takeCorner_60 ?_
      refine lv_lload_n hx hb dX1_takeCorner_63 rfl (lv_at hl 0 rfl) ?_
      refine lv_iconst (v := 1) hx hb dX1_takeCorner_64 (by decide) ?_
      refine lv_aload_n hx hb dX1_takeCorner_65 rfl (lv_at hl 1 rfl) ?_
      refine va_get (D := E.1) (ci := 1) (v := .ref a_o_draft) (C := RX1) (T := TX1) (N := 3) hx hb hts inX1 hown hK hP 0 rfl rfl 1 (by decide) (hts _ fl_X1_10) (fun _ h9 => h9) rfl dX1_takeCorner_66 ?_
      refine va_get (D := E.1) (ci := 0) (v := .ref a_o_draft_streets) (C := RX0) (T := TX0) (N := 11) hx hb hts inX0 hown hK hP 3 rfl rfl 5 (by decide) (hts _ fl_X1_40) (fun _ h9 => h9) rfl dX1_takeCorner_69 ?_
      refine va_get (D := E.1) (ci := 6) (v := .int o_draft_streets_corners_j21) (C := RX6) (T := TX6) (N := 4) hx hb hts inX6 hown hK hP 4 rfl rfl 0 (by decide) (hts _ fl_X1_105) (fun _ h9 => h9) rfl dX1_takeCorner_72 ?_
      obtain ⟨u75, hu75, hf⟩ := bd hf
      refine callVV (wn := (wd_X1_takeCorner E a_o a_o_tokens a_o_draft a_o_tokens_text a_o_draft_streets a_o_draft_names a_o_draft_extras a_o_draft_happenings a_o_draft_watchers a_o_draft_weeks a_o_draft_streets_roads a_o_draft_streets_takes a_o_draft_streets_hours a_o_draft_names_codes a_o_draft_names_sorts a_o_draft_names_numbers o_rulesTold o_tokens_held o_tokens_length u43.1 u43.2.1 u43.2.2.1 u43.2.2.2.1 u43.2.2.2.2.1 u43.2.2.2.2.2.1 u43.2.2.2.2.2.2 o_tokens_text o_draft_wage o_draft_delay o_draft_odds o_draft_clock o_draft_hasWeeks o_draft_streets_corners_j21 u75.1 u75.2.1 u75.2.2.1 u75.2.2.2)) (n1 := 9) (ct_X3_add l E a_o_draft_names a_o_draft_names_codes a_o_draft_names_sorts a_o_draft_names_numbers o_draft_names_many_j21 o_draft_names_codes_j21 o_draft_names_sorts_j21 o_draft_names_numbers_j21 u35.1 (1 : Int32) o_draft_streets_corners_j21 u75 hu75) [5, 6, 7, 8] cal_X3_add cav_X3_add lk_X1_122 cx hP hD hS hl dX1_takeCorner_75 rfl rfl rfl rfl (Nat.le_of_ble_eq_true rfl) ⟨Nat.le_of_ble_eq_true rfl, Nat.le_of_ble_eq_true rfl⟩ rfl (by decide +kernel) rfl [none, none, none, none, none, some 0, some 1, some 2, some 3] rfl (by decide +kernel) rfl (fun H locs hP hD hS => ?_)
      refine lv_aload_n hx hb dX1_takeCorner_78 rfl (lv_at hl 1 rfl) ?_
      refine va_get (D := E.1) (ci := 1) (v := .ref a_o_draft) (C := RX1) (T := TX1) (N := 3) hx hb hts inX1 hown hK hP 0 rfl rfl 1 (by decide) (hts _ fl_X1_10) (fun _ h9 => h9) rfl dX1_takeCorner_79 ?_
      refine va_get (D := E.1) (ci := 0) (v := .ref a_o_draft_streets) (C := RX0) (T := TX0) (N := 11) hx hb hts inX0 hown hK hP 3 rfl rfl 5 (by decide) (hts _ fl_X1_40) (fun _ h9 => h9) rfl dX1_takeCorner_82 ?_
      refine lv_dup hx hb dX1_takeCorner_85 rfl ?_
      refine va_get (D := E.1) (ci := 6) (v := .int o_draft_streets_corners_j21) (C := RX6) (T := TX6) (N := 4) hx hb hts inX6 hown hK hP 4 rfl rfl 0 (by decide) (hts _ fl_X1_105) (fun _ h9 => h9) rfl dX1_takeCorner_86 ?_
      refine lv_iconst (v := 1) hx hb dX1_takeCorner_89 (by decide) ?_
      refine lv_iadd hx hb dX1_takeCorner_90 ?_
      refine va_put (D := E.1) (ci := 6) (v := .int (o_draft_streets_corners_j21 + 1)) (ty := .int) (C := RX6) (T := TX6) (N := 4) hx hb hts inX6 tyX6 tyX6_ok nmX6 hown hK hP hD hS 4 rfl rfl 0 (by decide) (hts _ fl_X1_105) (fun _ h9 => h9) rfl (by decide +kernel) rfl rfl (Nat.le_of_ble_eq_true rfl) dX1_takeCorner_91 (fun H locs hP hD hS => ?_)
      have hP : va_P E.1 vwCl (wd_X1_takeCorner E a_o a_o_tokens a_o_draft a_o_tokens_text a_o_draft_streets a_o_draft_names a_o_draft_extras a_o_draft_happenings a_o_draft_watchers a_o_draft_weeks a_o_draft_streets_roads a_o_draft_streets_takes a_o_draft_streets_hours a_o_draft_names_codes a_o_draft_names_sorts a_o_draft_names_numbers o_rulesTold o_tokens_held o_tokens_length u43.1 u43.2.1 u43.2.2.1 u43.2.2.2.1 u43.2.2.2.2.1 u43.2.2.2.2.2.1 u43.2.2.2.2.2.2 o_tokens_text o_draft_wage o_draft_delay o_draft_odds o_draft_clock o_draft_hasWeeks (o_draft_streets_corners_j21 + 1) u75.1 u75.2.1 u75.2.2.1 u75.2.2.2) H := hP
      have hD : va_D A (wd_X1_takeCorner E a_o a_o_tokens a_o_draft a_o_tokens_text a_o_draft_streets a_o_draft_names a_o_draft_extras a_o_draft_happenings a_o_draft_watchers a_o_draft_weeks a_o_draft_streets_roads a_o_draft_streets_takes a_o_draft_streets_hours a_o_draft_names_codes a_o_draft_names_sorts a_o_draft_names_numbers o_rulesTold o_tokens_held o_tokens_length u43.1 u43.2.1 u43.2.2.1 u43.2.2.2.1 u43.2.2.2.2.1 u43.2.2.2.2.2.1 u43.2.2.2.2.2.2 o_tokens_text o_draft_wage o_draft_delay o_draft_odds o_draft_clock o_draft_hasWeeks (o_draft_streets_corners_j21 + 1) u75.1 u75.2.1 u75.2.2.1 u75.2.2.2) := hD
      obtain rfl := Option.some.inj hf
      subst hq
      exact retV cx hP hD hS dX1_takeCorner_94
  unfold X1_takeCorner at hf
  refine lv_aload_n hx hb dX1_takeCorner_0 rfl (lv_at hl 0 rfl) ?_
  refine lv_aload_n hx hb dX1_takeCorner_1 rfl (lv_at hl 0 rfl) ?_
  refine va_get (D := E.1) (ci := 1) (v := .ref a_o_draft) (C := RX1) (T := TX1) (N := 3) hx hb hts inX1 hown hK hP 0 rfl rfl 1 (by decide) (hts _ fl_X1_10) (fun _ h9 => h9) rfl dX1_takeCorner_2 ?_
  refine va_get (D := E.1) (ci := 0) (v := .ref a_o_draft_streets) (C := RX0) (T := TX0) (N := 11) hx hb hts inX0 hown hK hP 3 rfl rfl 5 (by decide) (hts _ fl_X1_40) (fun _ h9 => h9) rfl dX1_takeCorner_5 ?_
  refine va_get (D := E.1) (ci := 6) (v := .int o_draft_streets_corners) (C := RX6) (T := TX6) (N := 4) hx hb hts inX6 hown hK hP 4 rfl rfl 0 (by decide) (hts _ fl_X1_105) (fun _ h9 => h9) rfl dX1_takeCorner_8 ?_
  refine lv_bipush (v := 8) hx hb dX1_takeCorner_11 (by decide) ?_
  refine lv_icmp_lt (tgt := 20) hx hb dX1_takeCorner_13 (by decide) (fun hc => ?_) (fun hc => ?_)
  · have hf := it_t hc hf
    refine lv_iconst (v := 0) hx hb dX1_takeCorner_20 (by decide) ?_
    exact hj21 _ _ _ _ _ _ _ _ _ _ _ _ _ _ _ _ hf hP hD hS (lv_sub hl [0] rfl)
  · have hf := it_f hc hf
    refine lv_iconst (v := 1) hx hb dX1_takeCorner_16 (by decide) ?_
    refine lv_goto (tgt := 21) hx hb dX1_takeCorner_17 (by decide) ?_
    exact hj21 _ _ _ _ _ _ _ _ _ _ _ _ _ _ _ _ hf hP hD hS (lv_sub hl [0] rfl)
def X3_isOfSort_j26 (o_many : Int32) (o_sorts : Nat → Int32) : Option (Int32) :=
  some 0
def X3_isOfSort (o_many : Int32) (o_sorts : Nat → Int32) (v1 : Int32) (v2 : Int32) : Option (Int32) :=
  if v1 < 0 then
  X3_isOfSort_j26 o_many o_sorts
  else
  if o_many ≤ v1 then
  X3_isOfSort_j26 o_many o_sorts
  else
  if ix v1 27 then
  if (jat o_sorts v1) = v2 then
  some 1
  else
  X3_isOfSort_j26 o_many o_sorts
  else none
abbrev wd_X3_isOfSort (E : vE) (a_o a_o_codes a_o_sorts a_o_numbers : Nat) (o_many : Int32) (o_sorts : Nat → Int32) : va_W := [(a_o, .inr (3, [.ref a_o_codes, .ref a_o_sorts, .ref a_o_numbers, .int o_many])), (a_o_sorts, .inl (E.2.1, 27, .inl o_sorts))]
set_option maxHeartbeats 4000000 in
set_option maxRecDepth 100000 in
theorem ct_X3_isOfSort (l : Launch) (E : vE) (a_o a_o_codes a_o_sorts a_o_numbers : Nat) (o_many : Int32) (o_sorts : Nat → Int32) (v1 : Int32) (v2 : Int32) (u : Int32) (hf : X3_isOfSort o_many o_sorts v1 v2 = some u) :
    CtI l yX3_isOfSort cX3_isOfSort 3 (some .boolean) 0 E [.ref a_o, .int v1, .int v2] (wd_X3_isOfSort E a_o a_o_codes a_o_sorts a_o_numbers o_many o_sorts) (wd_X3_isOfSort E a_o a_o_codes a_o_sorts a_o_numbers o_many o_sorts) u := by
  refine ctI (by decide) (Nat.le_of_ble_eq_true rfl) ?_
  intro p e s m below meth cd A ls aa QQ hq cx hP hD hS hl
  obtain ⟨⟨hx, hb, hml, hown, hts⟩, hr, hlocks, hK, hA, hX⟩ := id cx
  have hl : lv_has ls 3 [(0, .ref a_o), (1, .int v1), (2, .int v2)] := hl
  have hj26 : ∀ (H : Heap) (locs : List Loc) (ls : Array Slot), X3_isOfSort_j26 o_many o_sorts = some u → va_P E.1 vwCl (wd_X3_isOfSort E a_o a_o_codes a_o_sorts a_o_numbers o_many o_sorts) H → va_D A (wd_X3_isOfSort E a_o a_o_codes a_o_sorts a_o_numbers o_many o_sorts) → va_S A s.heap H locs → lv_has ls 3 [] → W p l e (rmd 0) s m aa below meth cd H locs 0 0 QQ (F0 m 26 ls []) := by
    intro H locs ls hf hP hD hS hl
    unfold X3_isOfSort_j26 at hf
    refine lv_iconst (v := 0) hx hb dX3_isOfSort_26 (by decide) ?_
    obtain rfl := Option.some.inj hf
    subst hq
    exact retZ cx rfl hP hD hS dX3_isOfSort_27
  unfold X3_isOfSort at hf
  refine lv_iload_n hx hb dX3_isOfSort_0 rfl (lv_at hl 1 rfl) ?_
  refine lv_if_lt (tgt := 26) hx hb dX3_isOfSort_1 (by decide) (fun hc => ?_) (fun hc => ?_)
  · have hf := it_t hc hf
    exact hj26  _ _ _ hf hP hD hS (lv_sub hl [] rfl)
  · have hf := it_f hc hf
    refine lv_iload_n hx hb dX3_isOfSort_4 rfl (lv_at hl 1 rfl) ?_
    refine lv_aload_n hx hb dX3_isOfSort_5 rfl (lv_at hl 0 rfl) ?_
    refine va_get (D := E.1) (ci := 3) (v := .int o_many) (C := RX3) (T := TX3) (N := 4) hx hb hts inX3 hown hK hP 0 rfl rfl 3 (by decide) (hts _ fl_X3_22) (fun _ h9 => h9) rfl dX3_isOfSort_6 ?_
    refine lv_icmp_ge (tgt := 26) hx hb dX3_isOfSort_9 (by decide) (fun hc => ?_) (fun hc => ?_)
    · have hf := it_t hc hf
      exact hj26  _ _ _ hf hP hD hS (lv_sub hl [] rfl)
    · have hf := it_f hc hf
      refine lv_aload_n hx hb dX3_isOfSort_12 rfl (lv_at hl 0 rfl) ?_
      refine va_get (D := E.1) (ci := 3) (v := .ref a_o_sorts) (C := RX3) (T := TX3) (N := 4) hx hb hts inX3 hown hK hP 0 rfl rfl 1 (by decide) (hts _ fl_X3_15) (fun _ h9 => h9) rfl dX3_isOfSort_13 ?_
      refine lv_iload_n hx hb dX3_isOfSort_16 rfl (lv_at hl 1 rfl) ?_
      obtain ⟨hi, hf⟩ := ck hf
      refine r_iald 1 cx hP rfl hi dX3_isOfSort_17 ?_
      refine lv_iload_n hx hb dX3_isOfSort_18 rfl (lv_at hl 2 rfl) ?_
      refine lv_icmp_ne (tgt := 26) hx hb dX3_isOfSort_19 (by decide) (fun hc => ?_) (fun hc => ?_)
      · have hf := it_f hc hf
        exact hj26  _ _ _ hf hP hD hS (lv_sub hl [] rfl)
      · have hf := it_t hc hf
        refine lv_iconst (v := 1) hx hb dX3_isOfSort_22 (by decide) ?_
        refine lv_goto (tgt := 27) hx hb dX3_isOfSort_23 (by decide) ?_
        obtain rfl := Option.some.inj hf
        subst hq
        exact retZ cx rfl hP hD hS dX3_isOfSort_27
def X3_numberOf_j21 (o_many : Int32) (o_numbers : Nat → Int32) : Option (Int32) :=
  some (-1)
def X3_numberOf (o_many : Int32) (o_numbers : Nat → Int32) (v1 : Int32) : Option (Int32) :=
  if v1 < 0 then
  X3_numberOf_j21 o_many o_numbers
  else
  if o_many ≤ v1 then
  X3_numberOf_j21 o_many o_numbers
  else
  if ix v1 27 then
  some (jat o_numbers v1)
  else none
abbrev wd_X3_numberOf (E : vE) (a_o a_o_codes a_o_sorts a_o_numbers : Nat) (o_many : Int32) (o_numbers : Nat → Int32) : va_W := [(a_o, .inr (3, [.ref a_o_codes, .ref a_o_sorts, .ref a_o_numbers, .int o_many])), (a_o_numbers, .inl (E.2.1, 27, .inl o_numbers))]
set_option maxHeartbeats 4000000 in
set_option maxRecDepth 100000 in
theorem ct_X3_numberOf (l : Launch) (E : vE) (a_o a_o_codes a_o_sorts a_o_numbers : Nat) (o_many : Int32) (o_numbers : Nat → Int32) (v1 : Int32) (u : Int32) (hf : X3_numberOf o_many o_numbers v1 = some u) :
    CtI l yX3_numberOf cX3_numberOf 2 (some .int) 0 E [.ref a_o, .int v1] (wd_X3_numberOf E a_o a_o_codes a_o_sorts a_o_numbers o_many o_numbers) (wd_X3_numberOf E a_o a_o_codes a_o_sorts a_o_numbers o_many o_numbers) u := by
  refine ctI (by decide) (Nat.le_of_ble_eq_true rfl) ?_
  intro p e s m below meth cd A ls aa QQ hq cx hP hD hS hl
  obtain ⟨⟨hx, hb, hml, hown, hts⟩, hr, hlocks, hK, hA, hX⟩ := id cx
  have hl : lv_has ls 2 [(0, .ref a_o), (1, .int v1)] := hl
  have hj21 : ∀ (H : Heap) (locs : List Loc) (ls : Array Slot), X3_numberOf_j21 o_many o_numbers = some u → va_P E.1 vwCl (wd_X3_numberOf E a_o a_o_codes a_o_sorts a_o_numbers o_many o_numbers) H → va_D A (wd_X3_numberOf E a_o a_o_codes a_o_sorts a_o_numbers o_many o_numbers) → va_S A s.heap H locs → lv_has ls 2 [] → W p l e (rmd 0) s m aa below meth cd H locs 0 0 QQ (F0 m 21 ls []) := by
    intro H locs ls hf hP hD hS hl
    unfold X3_numberOf_j21 at hf
    refine lv_iconst (v := (-1)) hx hb dX3_numberOf_21 (by decide) ?_
    obtain rfl := Option.some.inj hf
    subst hq
    exact retI cx hP hD hS dX3_numberOf_22
  unfold X3_numberOf at hf
  refine lv_iload_n hx hb dX3_numberOf_0 rfl (lv_at hl 1 rfl) ?_
  refine lv_if_lt (tgt := 21) hx hb dX3_numberOf_1 (by decide) (fun hc => ?_) (fun hc => ?_)
  · have hf := it_t hc hf
    exact hj21  _ _ _ hf hP hD hS (lv_sub hl [] rfl)
  · have hf := it_f hc hf
    refine lv_iload_n hx hb dX3_numberOf_4 rfl (lv_at hl 1 rfl) ?_
    refine lv_aload_n hx hb dX3_numberOf_5 rfl (lv_at hl 0 rfl) ?_
    refine va_get (D := E.1) (ci := 3) (v := .int o_many) (C := RX3) (T := TX3) (N := 4) hx hb hts inX3 hown hK hP 0 rfl rfl 3 (by decide) (hts _ fl_X3_22) (fun _ h9 => h9) rfl dX3_numberOf_6 ?_
    refine lv_icmp_ge (tgt := 21) hx hb dX3_numberOf_9 (by decide) (fun hc => ?_) (fun hc => ?_)
    · have hf := it_t hc hf
      exact hj21  _ _ _ hf hP hD hS (lv_sub hl [] rfl)
    · have hf := it_f hc hf
      refine lv_aload_n hx hb dX3_numberOf_12 rfl (lv_at hl 0 rfl) ?_
      refine va_get (D := E.1) (ci := 3) (v := .ref a_o_numbers) (C := RX3) (T := TX3) (N := 4) hx hb hts inX3 hown hK hP 0 rfl rfl 2 (by decide) (hts _ fl_X3_19) (fun _ h9 => h9) rfl dX3_numberOf_13 ?_
      refine lv_iload_n hx hb dX3_numberOf_16 rfl (lv_at hl 1 rfl) ?_
      obtain ⟨hi, hf⟩ := ck hf
      refine r_iald 1 cx hP rfl hi dX3_numberOf_17 ?_
      refine lv_goto (tgt := 22) hx hb dX3_numberOf_18 (by decide) ?_
      obtain rfl := Option.some.inj hf
      subst hq
      exact retI cx hP hD hS dX3_numberOf_22
def X8_lookAtName (F : Nat) (o_place : Int32) (o_sort : Int32) (o_code : Int64) (o_fault : Int32) (o_faultPlace : Int32) (q1_many : Int32) (q1_codes : Nat → Int64) (q1_sorts : Nat → Int32) (q1_numbers : Nat → Int32) (v2 : Int32) : Option (Int32 × Int32 × Int32) :=
  if o_fault = 0 then
  if (lg_cmp o_code 0) = 0 then
  (X8_failHere o_place o_sort o_fault o_faultPlace).bind fun u19 =>
  some (0, u19.1, u19.2)
  else
  (X3_indexOf F q1_many q1_codes o_code).bind fun u29 =>
  (X3_isOfSort q1_many q1_sorts u29 v2).bind fun u36 =>
  if u36 = 0 then
  (X8_fail o_place o_fault o_faultPlace (3 : Int32)).bind fun u44 =>
  some (0, u44.1, u44.2)
  else
  (X3_numberOf q1_many q1_numbers u29).bind fun u51 =>
  some (u51, o_fault, o_faultPlace)
  else
  some (0, o_fault, o_faultPlace)
abbrev wd_X8_lookAtName (E : vE) (a_o a_o_text a_q1 a_q1_codes a_q1_sorts a_q1_numbers : Nat) (o_held : Int32) (o_length : Int32) (o_place : Int32) (o_next : Int32) (o_sort : Int32) (o_value : Int32) (o_code : Int64) (o_fault : Int32) (o_faultPlace : Int32) (q1_many : Int32) (q1_codes : Nat → Int64) (q1_sorts : Nat → Int32) (q1_numbers : Nat → Int32) : va_W := [(a_o, .inr (8, [.ref a_o_text, .int o_held, .int o_length, .int o_place, .int o_next, .int o_sort, .int o_value, .long o_code, .int o_fault, .int o_faultPlace])), (a_q1, .inr (3, [.ref a_q1_codes, .ref a_q1_sorts, .ref a_q1_numbers, .int q1_many])), (a_q1_codes, .inl (E.2.2.1, 27, .inr (.inl q1_codes))), (a_q1_sorts, .inl (E.2.1, 27, .inl q1_sorts)), (a_q1_numbers, .inl (E.2.1, 27, .inl q1_numbers))]
set_option maxHeartbeats 4000000 in
set_option maxRecDepth 100000 in
theorem ct_X8_lookAtName (l : Launch) (E : vE) (F : Nat) (a_o a_o_text a_q1 a_q1_codes a_q1_sorts a_q1_numbers : Nat) (o_held : Int32) (o_length : Int32) (o_place : Int32) (o_next : Int32) (o_sort : Int32) (o_value : Int32) (o_code : Int64) (o_fault : Int32) (o_faultPlace : Int32) (q1_many : Int32) (q1_codes : Nat → Int64) (q1_sorts : Nat → Int32) (q1_numbers : Nat → Int32) (v2 : Int32) (u : Int32 × Int32 × Int32) (hf : X8_lookAtName F o_place o_sort o_code o_fault o_faultPlace q1_many q1_codes q1_sorts q1_numbers v2 = some u) :
    CtI l yX8_lookAtName cX8_lookAtName 4 (some .int) 2 E [.ref a_o, .ref a_q1, .int v2] (wd_X8_lookAtName E a_o a_o_text a_q1 a_q1_codes a_q1_sorts a_q1_numbers o_held o_length o_place o_next o_sort o_value o_code o_fault o_faultPlace q1_many q1_codes q1_sorts q1_numbers) (wd_X8_lookAtName E a_o a_o_text a_q1 a_q1_codes a_q1_sorts a_q1_numbers o_held o_length o_place o_next o_sort o_value o_code u.2.1 u.2.2 q1_many q1_codes q1_sorts q1_numbers) u.1 := by
  refine ctI (by decide) (Nat.le_of_ble_eq_true rfl) ?_
  intro p e s m below meth cd A ls aa QQ hq cx hP hD hS hl
  obtain ⟨⟨hx, hb, hml, hown, hts⟩, hr, hlocks, hK, hA, hX⟩ := id cx
  have hl : lv_has ls 4 [(0, .ref a_o), (1, .ref a_q1), (2, .int v2)] := hl
  unfold X8_lookAtName at hf
  refine lv_aload_n hx hb dX8_lookAtName_0 rfl (lv_at hl 0 rfl) ?_
  refine va_get (D := E.1) (ci := 8) (v := .int o_fault) (C := RX8) (T := TX8) (N := 10) hx hb hts inX8 hown hK hP 0 rfl rfl 8 (by decide) (hts _ fl_X8_41) (fun _ h9 => h9) rfl dX8_lookAtName_1 ?_
  refine lv_if_eq (tgt := 9) hx hb dX8_lookAtName_4 (by decide) (fun hc => ?_) (fun hc => ?_)
  · have hf := it_t hc hf
    refine lv_aload_n hx hb dX8_lookAtName_9 rfl (lv_at hl 0 rfl) ?_
    refine va_get (D := E.1) (ci := 8) (v := .long o_code) (C := RX8) (T := TX8) (N := 10) hx hb hts inX8 hown hK hP 0 rfl rfl 7 (by decide) (hts _ fl_X8_60) (fun _ h9 => h9) rfl dX8_lookAtName_10 ?_
    refine lv_lconst (v := 0) hx hb dX8_lookAtName_13 (by decide) ?_
    refine W.lcmp hx hb dX8_lookAtName_14 ?_
    refine lv_if_ne (tgt := 24) hx hb dX8_lookAtName_15 (by decide) (fun hc => ?_) (fun hc => ?_)
    · have hf := it_f hc hf
      refine lv_aload_n hx hb dX8_lookAtName_24 rfl (lv_at hl 1 rfl) ?_
      refine lv_aload_n hx hb dX8_lookAtName_25 rfl (lv_at hl 0 rfl) ?_
      refine va_get (D := E.1) (ci := 8) (v := .long o_code) (C := RX8) (T := TX8) (N := 10) hx hb hts inX8 hown hK hP 0 rfl rfl 7 (by decide) (hts _ fl_X8_60) (fun _ h9 => h9) rfl dX8_lookAtName_26 ?_
      obtain ⟨u29, hu29, hf⟩ := bd hf
      refine keepVI (ct_X3_indexOf l E F a_q1 a_q1_codes a_q1_sorts a_q1_numbers q1_many q1_codes o_code u29 hu29) [1, 2] cal_X3_indexOf cav_X3_indexOf lk_X8_97 cx hP hD hS hl dX8_lookAtName_29 rfl rfl rfl rfl (Nat.le_of_ble_eq_true rfl) ⟨Nat.le_of_ble_eq_true rfl, Nat.le_of_ble_eq_true rfl⟩ rfl (by decide) (fun H locs hP hS => ?_)
      refine lv_istore_n (lv' := [(3, .int u29), (0, .ref a_o), (1, .ref a_q1), (2, .int v2)]) hx hb dX8_lookAtName_32 rfl hl (by decide) rfl (fun ls hl => ?_)
      refine lv_aload_n hx hb dX8_lookAtName_33 rfl (lv_at hl 2 rfl) ?_
      refine lv_iload_n hx hb dX8_lookAtName_34 rfl (lv_at hl 0 rfl) ?_
      refine lv_iload_n hx hb dX8_lookAtName_35 rfl (lv_at hl 3 rfl) ?_
      obtain ⟨u36, hu36, hf⟩ := bd hf
      refine keepVI (ct_X3_isOfSort l E a_q1 a_q1_codes a_q1_sorts a_q1_numbers q1_many q1_sorts u29 v2 u36 hu36) [1, 3] cal_X3_isOfSort cav_X3_isOfSort lk_X8_103 cx hP hD hS hl dX8_lookAtName_36 rfl rfl rfl rfl (Nat.le_of_ble_eq_true rfl) ⟨Nat.le_of_ble_eq_true rfl, Nat.le_of_ble_eq_true rfl⟩ rfl (by decide) (fun H locs hP hS => ?_)
      refine lv_if_ne (tgt := 49) hx hb dX8_lookAtName_39 (by decide) (fun hc => ?_) (fun hc => ?_)
      · have hf := it_f hc hf
        refine lv_aload_n hx hb dX8_lookAtName_49 rfl (lv_at hl 2 rfl) ?_
        refine lv_iload_n hx hb dX8_lookAtName_50 rfl (lv_at hl 0 rfl) ?_
        obtain ⟨u51, hu51, hf⟩ := bd hf
        refine keepVI (ct_X3_numberOf l E a_q1 a_q1_codes a_q1_sorts a_q1_numbers q1_many q1_numbers u29 u51 hu51) [1, 4] cal_X3_numberOf cav_X3_numberOf lk_X8_107 cx hP hD hS hl dX8_lookAtName_51 rfl rfl rfl rfl (Nat.le_of_ble_eq_true rfl) ⟨Nat.le_of_ble_eq_true rfl, Nat.le_of_ble_eq_true rfl⟩ rfl (by decide) (fun H locs hP hS => ?_)
        obtain rfl := Option.some.inj hf
        subst hq
        exact retI cx hP hD hS dX8_lookAtName_54
      · have hf := it_t hc hf
        refine lv_aload_n hx hb dX8_lookAtName_42 rfl (lv_at hl 1 rfl) ?_
        refine lv_iconst (v := 3) hx hb dX8_lookAtName_43 (by decide) ?_
        obtain ⟨u44, hu44, hf⟩ := bd hf
        refine callVV (wn := (wd_X8_lookAtName E a_o a_o_text a_q1 a_q1_codes a_q1_sorts a_q1_numbers o_held o_length o_place o_next o_sort o_value o_code u44.1 u44.2 q1_many q1_codes q1_sorts q1_numbers)) (n1 := 5) (ct_X8_fail l E a_o a_o_text o_held o_length o_place o_next o_sort o_value o_code o_fault o_faultPlace (3 : Int32) u44 hu44) [0] cal_X8_fail cav_X8_fail lk_X8_53 cx hP hD hS hl dX8_lookAtName_44 rfl rfl rfl rfl (Nat.le_of_ble_eq_true rfl) ⟨Nat.le_of_ble_eq_true rfl, Nat.le_of_ble_eq_true rfl⟩ rfl (by decide +kernel) rfl [some 0, none, none, none, none] rfl (by decide +kernel) rfl (fun H locs hP hD hS => ?_)
        refine lv_iconst (v := 0) hx hb dX8_lookAtName_47 (by decide) ?_
        obtain rfl := Option.some.inj hf
        subst hq
        exact retI cx hP hD hS dX8_lookAtName_48
    · have hf := it_t hc hf
      refine lv_aload_n hx hb dX8_lookAtName_18 rfl (lv_at hl 0 rfl) ?_
      obtain ⟨u19, hu19, hf⟩ := bd hf
      refine callVV (wn := (wd_X8_lookAtName E a_o a_o_text a_q1 a_q1_codes a_q1_sorts a_q1_numbers o_held o_length o_place o_next o_sort o_value o_code u19.1 u19.2 q1_many q1_codes q1_sorts q1_numbers)) (n1 := 5) (ct_X8_failHere l E a_o a_o_text o_held o_length o_place o_next o_sort o_value o_code o_fault o_faultPlace u19 hu19) [0] cal_X8_failHere cav_X8_failHere lk_X8_94 cx hP hD hS hl dX8_lookAtName_19 rfl rfl rfl rfl (Nat.le_of_ble_eq_true rfl) ⟨Nat.le_of_ble_eq_true rfl, Nat.le_of_ble_eq_true rfl⟩ rfl (by decide +kernel) rfl [some 0, none, none, none, none] rfl (by decide +kernel) rfl (fun H locs hP hD hS => ?_)
      refine lv_iconst (v := 0) hx hb dX8_lookAtName_22 (by decide) ?_
      obtain rfl := Option.some.inj hf
      subst hq
      exact retI cx hP hD hS dX8_lookAtName_23
  · have hf := it_f hc hf
    refine lv_iconst (v := 0) hx hb dX8_lookAtName_7 (by decide) ?_
    obtain rfl := Option.some.inj hf
    subst hq
    exact retI cx hP hD hS dX8_lookAtName_8
def X8_takeName (F : Nat) (o_length : Int32) (o_place : Int32) (o_next : Int32) (o_sort : Int32) (o_value : Int32) (o_code : Int64) (o_fault : Int32) (o_faultPlace : Int32) (o_text : Nat → Int32) (q1_many : Int32) (q1_codes : Nat → Int64) (q1_sorts : Nat → Int32) (q1_numbers : Nat → Int32) (v2 : Int32) : Option (Int32 × Int32 × Int32 × Int32 × Int32 × Int64 × Int32 × Int32) :=
  (X8_lookAtName F o_place o_sort o_code o_fault o_faultPlace q1_many q1_codes q1_sorts q1_numbers v2).bind fun u3 =>
  if u3.2.1 = 0 then
  (X8_advance F o_length o_place o_next o_sort o_value o_code o_text).bind fun u15 =>
  some (u3.1, u15.1, u15.2.1, u15.2.2.1, u15.2.2.2.1, u15.2.2.2.2, u3.2.1, u3.2.2)
  else
  some (u3.1, o_place, o_next, o_sort, o_value, o_code, u3.2.1, u3.2.2)
abbrev wd_X8_takeName (E : vE) (a_o a_o_text a_q1 a_q1_codes a_q1_sorts a_q1_numbers : Nat) (o_held : Int32) (o_length : Int32) (o_place : Int32) (o_next : Int32) (o_sort : Int32) (o_value : Int32) (o_code : Int64) (o_fault : Int32) (o_faultPlace : Int32) (o_text : Nat → Int32) (q1_many : Int32) (q1_codes : Nat → Int64) (q1_sorts : Nat → Int32) (q1_numbers : Nat → Int32) : va_W := [(a_o, .inr (8, [.ref a_o_text, .int o_held, .int o_length, .int o_place, .int o_next, .int o_sort, .int o_value, .long o_code, .int o_fault, .int o_faultPlace])), (a_o_text, .inl (E.2.1, 900, .inl o_text)), (a_q1, .inr (3, [.ref a_q1_codes, .ref a_q1_sorts, .ref a_q1_numbers, .int q1_many])), (a_q1_codes, .inl (E.2.2.1, 27, .inr (.inl q1_codes))), (a_q1_sorts, .inl (E.2.1, 27, .inl q1_sorts)), (a_q1_numbers, .inl (E.2.1, 27, .inl q1_numbers))]
set_option maxHeartbeats 4000000 in
set_option maxRecDepth 100000 in
theorem ct_X8_takeName (l : Launch) (E : vE) (F : Nat) (a_o a_o_text a_q1 a_q1_codes a_q1_sorts a_q1_numbers : Nat) (o_held : Int32) (o_length : Int32) (o_place : Int32) (o_next : Int32) (o_sort : Int32) (o_value : Int32) (o_code : Int64) (o_fault : Int32) (o_faultPlace : Int32) (o_text : Nat → Int32) (q1_many : Int32) (q1_codes : Nat → Int64) (q1_sorts : Nat → Int32) (q1_numbers : Nat → Int32) (v2 : Int32) (u : Int32 × Int32 × Int32 × Int32 × Int32 × Int64 × Int32 × Int32) (hf : X8_takeName F o_length o_place o_next o_sort o_value o_code o_fault o_faultPlace o_text q1_many q1_codes q1_sorts q1_numbers v2 = some u) :
    CtI l yX8_takeName cX8_takeName 4 (some .int) 6 E [.ref a_o, .ref a_q1, .int v2] (wd_X8_takeName E a_o a_o_text a_q1 a_q1_codes a_q1_sorts a_q1_numbers o_held o_length o_place o_next o_sort o_value o_code o_fault o_faultPlace o_text q1_many q1_codes q1_sorts q1_numbers) (wd_X8_takeName E a_o a_o_text a_q1 a_q1_codes a_q1_sorts a_q1_numbers o_held o_length u.2.1 u.2.2.1 u.2.2.2.1 u.2.2.2.2.1 u.2.2.2.2.2.1 u.2.2.2.2.2.2.1 u.2.2.2.2.2.2.2 o_text q1_many q1_codes q1_sorts q1_numbers) u.1 := by
  refine ctI (by decide) (Nat.le_of_ble_eq_true rfl) ?_
  intro p e s m below meth cd A ls aa QQ hq cx hP hD hS hl
  obtain ⟨⟨hx, hb, hml, hown, hts⟩, hr, hlocks, hK, hA, hX⟩ := id cx
  have hl : lv_has ls 4 [(0, .ref a_o), (1, .ref a_q1), (2, .int v2)] := hl
  unfold X8_takeName at hf
  refine lv_aload_n hx hb dX8_takeName_0 rfl (lv_at hl 0 rfl) ?_
  refine lv_aload_n hx hb dX8_takeName_1 rfl (lv_at hl 1 rfl) ?_
  refine lv_iload_n hx hb dX8_takeName_2 rfl (lv_at hl 2 rfl) ?_
  obtain ⟨u3, hu3, hf⟩ := bd hf
  refine callVI (wn := (wd_X8_takeName E a_o a_o_text a_q1 a_q1_codes a_q1_sorts a_q1_numbers o_held o_length o_place o_next o_sort o_value o_code u3.2.1 u3.2.2 o_text q1_many q1_codes q1_sorts q1_numbers)) (n1 := 6) (ct_X8_lookAtName l E F a_o a_o_text a_q1 a_q1_codes a_q1_sorts a_q1_numbers o_held o_length o_place o_next o_sort o_value o_code o_fault o_faultPlace q1_many q1_codes q1_sorts q1_numbers v2 u3 hu3) [0, 2, 3, 4, 5] cal_X8_lookAtName cav_X8_lookAtName lk_X8_111 cx hP hD hS hl dX8_takeName_3 rfl rfl rfl rfl (Nat.le_of_ble_eq_true rfl) ⟨Nat.le_of_ble_eq_true rfl, Nat.le_of_ble_eq_true rfl⟩ rfl (by decide +kernel) rfl [some 0, none, some 1, some 2, some 3, some 4] rfl (by decide +kernel) rfl (fun H locs hP hD hS => ?_)
  refine lv_istore_n (lv' := [(3, .int u3.1), (0, .ref a_o), (1, .ref a_q1), (2, .int v2)]) hx hb dX8_takeName_6 rfl hl (by decide) rfl (fun ls hl => ?_)
  refine lv_aload_n hx hb dX8_takeName_7 rfl (lv_at hl 1 rfl) ?_
  refine va_get (D := E.1) (ci := 8) (v := .int u3.2.1) (C := RX8) (T := TX8) (N := 10) hx hb hts inX8 hown hK hP 0 rfl rfl 8 (by decide) (hts _ fl_X8_41) (fun _ h9 => h9) rfl dX8_takeName_8 ?_
  refine lv_if_ne (tgt := 18) hx hb dX8_takeName_11 (by decide) (fun hc => ?_) (fun hc => ?_)
  · have hf := it_f hc hf
    refine lv_iload_n hx hb dX8_takeName_18 rfl (lv_at hl 0 rfl) ?_
    obtain rfl := Option.some.inj hf
    subst hq
    exact retI cx hP hD hS dX8_takeName_19
  · have hf := it_t hc hf
    refine lv_aload_n hx hb dX8_takeName_14 rfl (lv_at hl 1 rfl) ?_
    obtain ⟨u15, hu15, hf⟩ := bd hf
    refine callVV (wn := (wd_X8_takeName E a_o a_o_text a_q1 a_q1_codes a_q1_sorts a_q1_numbers o_held o_length u15.1 u15.2.1 u15.2.2.1 u15.2.2.2.1 u15.2.2.2.2 u3.2.1 u3.2.2 o_text q1_many q1_codes q1_sorts q1_numbers)) (n1 := 6) (ct_X8_advance l E F a_o a_o_text o_held o_length o_place o_next o_sort o_value o_code u3.2.1 u3.2.2 o_text u15 hu15) [0, 1] cal_X8_advance cav_X8_advance lk_X8_44 cx hP hD hS hl dX8_takeName_15 rfl rfl rfl rfl (Nat.le_of_ble_eq_true rfl) ⟨Nat.le_of_ble_eq_true rfl, Nat.le_of_ble_eq_true rfl⟩ rfl (by decide +kernel) rfl [some 0, some 1, none, none, none, none] rfl (by decide +kernel) rfl (fun H locs hP hD hS => ?_)
    refine lv_iload_n hx hb dX8_takeName_18 rfl (lv_at hl 0 rfl) ?_
    obtain rfl := Option.some.inj hf
    subst hq
    exact retI cx hP hD hS dX8_takeName_19
def X8_takeWord_j24 (F : Nat) (o_length : Int32) (o_place : Int32) (o_next : Int32) (o_sort : Int32) (o_value : Int32) (o_code : Int64) (o_fault : Int32) (o_faultPlace : Int32) (o_text : Nat → Int32) : Option (Int32 × Int32 × Int32 × Int32 × Int64 × Int32 × Int32) :=
  (X8_failHere o_place o_sort o_fault o_faultPlace).bind fun u25 =>
  some (o_place, o_next, o_sort, o_value, o_code, u25.1, u25.2)
def X8_takeWord (F : Nat) (o_length : Int32) (o_place : Int32) (o_next : Int32) (o_sort : Int32) (o_value : Int32) (o_code : Int64) (o_fault : Int32) (o_faultPlace : Int32) (o_text : Nat → Int32) (v1 : Int32) : Option (Int32 × Int32 × Int32 × Int32 × Int64 × Int32 × Int32) :=
  if o_fault = 0 then
  if o_sort = 1 then
  if o_value = v1 then
  (X8_advance F o_length o_place o_next o_sort o_value o_code o_text).bind fun u30 =>
  some (u30.1, u30.2.1, u30.2.2.1, u30.2.2.2.1, u30.2.2.2.2, o_fault, o_faultPlace)
  else
  X8_takeWord_j24 F o_length o_place o_next o_sort o_value o_code o_fault o_faultPlace o_text
  else
  X8_takeWord_j24 F o_length o_place o_next o_sort o_value o_code o_fault o_faultPlace o_text
  else
  some (o_place, o_next, o_sort, o_value, o_code, o_fault, o_faultPlace)
abbrev wd_X8_takeWord (E : vE) (a_o a_o_text : Nat) (o_held : Int32) (o_length : Int32) (o_place : Int32) (o_next : Int32) (o_sort : Int32) (o_value : Int32) (o_code : Int64) (o_fault : Int32) (o_faultPlace : Int32) (o_text : Nat → Int32) : va_W := [(a_o, .inr (8, [.ref a_o_text, .int o_held, .int o_length, .int o_place, .int o_next, .int o_sort, .int o_value, .long o_code, .int o_fault, .int o_faultPlace])), (a_o_text, .inl (E.2.1, 900, .inl o_text))]
set_option maxHeartbeats 4000000 in
set_option maxRecDepth 100000 in
theorem ct_X8_takeWord (l : Launch) (E : vE) (F : Nat) (a_o a_o_text : Nat) (o_held : Int32) (o_length : Int32) (o_place : Int32) (o_next : Int32) (o_sort : Int32) (o_value : Int32) (o_code : Int64) (o_fault : Int32) (o_faultPlace : Int32) (o_text : Nat → Int32) (v1 : Int32) (u : Int32 × Int32 × Int32 × Int32 × Int64 × Int32 × Int32) (hf : X8_takeWord F o_length o_place o_next o_sort o_value o_code o_fault o_faultPlace o_text v1 = some u) :
    CtV l yX8_takeWord cX8_takeWord 2 none 6 E [.ref a_o, .int v1] (wd_X8_takeWord E a_o a_o_text o_held o_length o_place o_next o_sort o_value o_code o_fault o_faultPlace o_text) (wd_X8_takeWord E a_o a_o_text o_held o_length u.1 u.2.1 u.2.2.1 u.2.2.2.1 u.2.2.2.2.1 u.2.2.2.2.2.1 u.2.2.2.2.2.2 o_text) := by
  refine ctV (by decide) (Nat.le_of_ble_eq_true rfl) ?_
  intro p e s m below meth cd A ls aa QQ hq cx hP hD hS hl
  obtain ⟨⟨hx, hb, hml, hown, hts⟩, hr, hlocks, hK, hA, hX⟩ := id cx
  have hl : lv_has ls 2 [(0, .ref a_o), (1, .int v1)] := hl
  have hj24 : ∀ (o_place_j24 : Int32) (o_next_j24 : Int32) (o_sort_j24 : Int32) (o_value_j24 : Int32) (o_code_j24 : Int64) (o_fault_j24 : Int32) (o_faultPlace_j24 : Int32) (H : Heap) (locs : List Loc) (ls : Array Slot), X8_takeWord_j24 F o_length o_place_j24 o_next_j24 o_sort_j24 o_value_j24 o_code_j24 o_fault_j24 o_faultPlace_j24 o_text = some u → va_P E.1 vwCl (wd_X8_takeWord E a_o a_o_text o_held o_length o_place_j24 o_next_j24 o_sort_j24 o_value_j24 o_code_j24 o_fault_j24 o_faultPlace_j24 o_text) H → va_D A (wd_X8_takeWord E a_o a_o_text o_held o_length o_place_j24 o_next_j24 o_sort_j24 o_value_j24 o_code_j24 o_fault_j24 o_faultPlace_j24 o_text) → va_S A s.heap H locs → lv_has ls 2 [(0, .ref a_o)] → W p l e (rmd 6) s m aa below meth cd H locs 0 0 QQ (F0 m 24 ls []) := by
    intro o_place_j24 o_next_j24 o_sort_j24 o_value_j24 o_code_j24 o_fault_j24 o_faultPlace_j24 H locs ls hf hP hD hS hl
    unfold X8_takeWord_j24 at hf
    refine lv_aload_n hx hb dX8_takeWord_24 rfl (lv_at hl 0 rfl) ?_
    obtain ⟨u25, hu25, hf⟩ := bd hf
    refine callVV (wn := (wd_X8_takeWord E a_o a_o_text o_held o_length o_place_j24 o_next_j24 o_sort_j24 o_value_j24 o_code_j24 u25.1 u25.2 o_text)) (n1 := 2) (ct_X8_failHere l E a_o a_o_text o_held o_length o_place_j24 o_next_j24 o_sort_j24 o_value_j24 o_code_j24 o_fault_j24 o_faultPlace_j24 u25 hu25) [0] cal_X8_failHere cav_X8_failHere lk_X8_94 cx hP hD hS hl dX8_takeWord_25 rfl rfl rfl rfl (Nat.le_of_ble_eq_true rfl) ⟨Nat.le_of_ble_eq_true rfl, Nat.le_of_ble_eq_true rfl⟩ rfl (by decide +kernel) rfl [some 0, none] rfl (by decide +kernel) rfl (fun H locs hP hD hS => ?_)
    obtain rfl := Option.some.inj hf
    subst hq
    exact retV cx hP hD hS dX8_takeWord_28
  unfold X8_takeWord at hf
  refine lv_aload_n hx hb dX8_takeWord_0 rfl (lv_at hl 0 rfl) ?_
  refine va_get (D := E.1) (ci := 8) (v := .int o_fault) (C := RX8) (T := TX8) (N := 10) hx hb hts inX8 hown hK hP 0 rfl rfl 8 (by decide) (hts _ fl_X8_41) (fun _ h9 => h9) rfl dX8_takeWord_1 ?_
  refine lv_if_eq (tgt := 8) hx hb dX8_takeWord_4 (by decide) (fun hc => ?_) (fun hc => ?_)
  · have hf := it_t hc hf
    refine lv_aload_n hx hb dX8_takeWord_8 rfl (lv_at hl 0 rfl) ?_
    refine va_get (D := E.1) (ci := 8) (v := .int o_sort) (C := RX8) (T := TX8) (N := 10) hx hb hts inX8 hown hK hP 0 rfl rfl 5 (by decide) (hts _ fl_X8_47) (fun _ h9 => h9) rfl dX8_takeWord_9 ?_
    refine lv_iconst (v := 1) hx hb dX8_takeWord_12 (by decide) ?_
    refine lv_icmp_ne (tgt := 24) hx hb dX8_takeWord_13 (by decide) (fun hc => ?_) (fun hc => ?_)
    · have hf := it_f hc hf
      exact hj24 _ _ _ _ _ _ _ _ _ _ hf hP hD hS (lv_sub hl [0] rfl)
    · have hf := it_t hc hf
      refine lv_aload_n hx hb dX8_takeWord_16 rfl (lv_at hl 0 rfl) ?_
      refine va_get (D := E.1) (ci := 8) (v := .int o_value) (C := RX8) (T := TX8) (N := 10) hx hb hts inX8 hown hK hP 0 rfl rfl 6 (by decide) (hts _ fl_X8_57) (fun _ h9 => h9) rfl dX8_takeWord_17 ?_
      refine lv_iload_n hx hb dX8_takeWord_20 rfl (lv_at hl 1 rfl) ?_
      refine lv_icmp_eq (tgt := 29) hx hb dX8_takeWord_21 (by decide) (fun hc => ?_) (fun hc => ?_)
      · have hf := it_t hc hf
        refine lv_aload_n hx hb dX8_takeWord_29 rfl (lv_at hl 0 rfl) ?_
        obtain ⟨u30, hu30, hf⟩ := bd hf
        refine callVV (wn := (wd_X8_takeWord E a_o a_o_text o_held o_length u30.1 u30.2.1 u30.2.2.1 u30.2.2.2.1 u30.2.2.2.2 o_fault o_faultPlace o_text)) (n1 := 2) (ct_X8_advance l E F a_o a_o_text o_held o_length o_place o_next o_sort o_value o_code o_fault o_faultPlace o_text u30 hu30) [0, 1] cal_X8_advance cav_X8_advance lk_X8_44 cx hP hD hS hl dX8_takeWord_30 rfl rfl rfl rfl (Nat.le_of_ble_eq_true rfl) ⟨Nat.le_of_ble_eq_true rfl, Nat.le_of_ble_eq_true rfl⟩ rfl (by decide +kernel) rfl [some 0, some 1] rfl (by decide +kernel) rfl (fun H locs hP hD hS => ?_)
        obtain rfl := Option.some.inj hf
        subst hq
        exact retV cx hP hD hS dX8_takeWord_33
      · have hf := it_f hc hf
        exact hj24 _ _ _ _ _ _ _ _ _ _ hf hP hD hS (lv_sub hl [0] rfl)
  · have hf := it_f hc hf
    obtain rfl := Option.some.inj hf
    subst hq
    exact retV cx hP hD hS dX8_takeWord_7
def X6_addRoad_j69 (F : Nat) (o_roads_many : Int32) (o_roads_cells : Nat → Int32) (o_takes : Nat → Int32) (v1 : Int32) (v2 : Int32) (v3 : Int32) : Option (Int32 × (Nat → Int32) × (Nat → Int32)) :=
  (X6_cell v1 v2).bind fun u75 =>
  if ix u75 64 then
  (X6_cell v2 v1).bind fun u86 =>
  if ix u86 64 then
  some (o_roads_many, o_roads_cells, (jput (jput o_takes u75 v3) u86 v3))
  else none
  else none
def X6_addRoad (F : Nat) (o_roads_many : Int32) (o_roads_cells : Nat → Int32) (o_takes : Nat → Int32) (v1 : Int32) (v2 : Int32) (v3 : Int32) : Option (Int32 × (Nat → Int32) × (Nat → Int32)) :=
  (X6_areCorners v1 v2).bind fun u2 =>
  if u2 = 0 then
  some (o_roads_many, o_roads_cells, o_takes)
  else
  (X7_isFull 24 2 o_roads_many).bind fun u12 =>
  if u12 = 0 then
  (X7_add F 24 2 o_roads_many o_roads_cells).bind fun u23 =>
  (X7_set 24 2 u23.2.1 u23.2.2 u23.1 (0 : Int32) v1).bind fun u36 =>
  (X7_set 24 2 u23.2.1 u36 u23.1 (1 : Int32) v2).bind fun u47 =>
  (X6_takesBetween o_takes v1 v2).bind fun u53 =>
  if u53 = 0 then
  X6_addRoad_j69 F u23.2.1 u47 o_takes v1 v2 v3
  else
  if u53 ≤ v3 then
  some (u23.2.1, u47, o_takes)
  else
  X6_addRoad_j69 F u23.2.1 u47 o_takes v1 v2 v3
  else
  some (o_roads_many, o_roads_cells, o_takes)
abbrev wd_X6_addRoad (E : vE) (a_o a_o_roads a_o_takes a_o_hours a_o_roads_cells : Nat) (o_corners : Int32) (o_roads_many : Int32) (o_roads_cells : Nat → Int32) (o_takes : Nat → Int32) : va_W := [(a_o, .inr (6, [.int o_corners, .ref a_o_roads, .ref a_o_takes, .ref a_o_hours])), (a_o_roads, .inr (7, [.int 2, .ref a_o_roads_cells, .int o_roads_many])), (a_o_roads_cells, .inl (E.2.1, 24, .inl o_roads_cells)), (a_o_takes, .inl (E.2.1, 64, .inl o_takes))]
set_option maxHeartbeats 4000000 in
set_option maxRecDepth 100000 in
theorem ct_X6_addRoad (l : Launch) (E : vE) (F : Nat) (a_o a_o_roads a_o_takes a_o_hours a_o_roads_cells : Nat) (o_corners : Int32) (o_roads_many : Int32) (o_roads_cells : Nat → Int32) (o_takes : Nat → Int32) (v1 : Int32) (v2 : Int32) (v3 : Int32) (u : Int32 × (Nat → Int32) × (Nat → Int32)) (hf : X6_addRoad F o_roads_many o_roads_cells o_takes v1 v2 v3 = some u) :
    CtV l yX6_addRoad cX6_addRoad 6 none 2 E [.ref a_o, .int v1, .int v2, .int v3] (wd_X6_addRoad E a_o a_o_roads a_o_takes a_o_hours a_o_roads_cells o_corners o_roads_many o_roads_cells o_takes) (wd_X6_addRoad E a_o a_o_roads a_o_takes a_o_hours a_o_roads_cells o_corners u.1 u.2.1 u.2.2) := by
  refine ctV (by decide) (Nat.le_of_ble_eq_true rfl) ?_
  intro p e s m below meth cd A ls aa QQ hq cx hP hD hS hl
  obtain ⟨⟨hx, hb, hml, hown, hts⟩, hr, hlocks, hK, hA, hX⟩ := id cx
  have hl : lv_has ls 6 [(0, .ref a_o), (1, .int v1), (2, .int v2), (3, .int v3)] := hl
  have hj69 : ∀ (o_roads_many_j69 : Int32) (o_roads_cells_j69 : Nat → Int32) (o_takes_j69 : Nat → Int32) (H : Heap) (locs : List Loc) (ls : Array Slot), X6_addRoad_j69 F o_roads_many_j69 o_roads_cells_j69 o_takes_j69 v1 v2 v3 = some u → va_P E.1 vwCl (wd_X6_addRoad E a_o a_o_roads a_o_takes a_o_hours a_o_roads_cells o_corners o_roads_many_j69 o_roads_cells_j69 o_takes_j69) H → va_D A (wd_X6_addRoad E a_o a_o_roads a_o_takes a_o_hours a_o_roads_cells o_corners o_roads_many_j69 o_roads_cells_j69 o_takes_j69) → va_S A s.heap H locs → lv_has ls 6 [(0, .ref a_o), (1, .int v1), (2, .int v2), (3, .int v3)] → W p l e (rmd 2) s m aa below meth cd H locs 0 0 QQ (F0 m 69 ls []) := by
    intro o_roads_many_j69 o_roads_cells_j69 o_takes_j69 H locs ls hf hP hD hS hl
    unfold X6_addRoad_j69 at hf
    refine lv_aload_n hx hb dX6_addRoad_69 rfl (lv_at hl 0 rfl) ?_
    refine va_get (D := E.1) (ci := 6) (v := .ref a_o_takes) (C := RX6) (T := TX6) (N := 4) hx hb hts inX6 hown hK hP 0 rfl rfl 2 (by decide) (hts _ fl_X6_20) (fun _ h9 => h9) rfl dX6_addRoad_70 ?_
    refine lv_iload_n hx hb dX6_addRoad_73 rfl (lv_at hl 1 rfl) ?_
    refine lv_iload_n hx hb dX6_addRoad_74 rfl (lv_at hl 2 rfl) ?_
    obtain ⟨u75, hu75, hf⟩ := bd hf
    refine keepSI (ct_X6_cell l E v1 v2 u75 hu75) [] cal_X6_cell sta_X6_cell lk_X6_64 cx hP hD hS hl dX6_addRoad_75 rfl rfl (Nat.le_of_ble_eq_true rfl) ⟨Nat.le_of_ble_eq_true rfl, Nat.le_of_ble_eq_true rfl⟩ rfl (by decide) (fun H locs hP hS => ?_)
    refine lv_iload_n hx hb dX6_addRoad_78 rfl (lv_at hl 3 rfl) ?_
    obtain ⟨hi, hf⟩ := ck hf
    refine r_iast 3 cx hP hD hS rfl hi dX6_addRoad_79 (fun H locs hP hD hS => ?_)
    have hP : va_P E.1 vwCl (wd_X6_addRoad E a_o a_o_roads a_o_takes a_o_hours a_o_roads_cells o_corners o_roads_many_j69 o_roads_cells_j69 (jput o_takes_j69 u75 v3)) H := hP
    have hD : va_D A (wd_X6_addRoad E a_o a_o_roads a_o_takes a_o_hours a_o_roads_cells o_corners o_roads_many_j69 o_roads_cells_j69 (jput o_takes_j69 u75 v3)) := hD
    refine lv_aload_n hx hb dX6_addRoad_80 rfl (lv_at hl 0 rfl) ?_
    refine va_get (D := E.1) (ci := 6) (v := .ref a_o_takes) (C := RX6) (T := TX6) (N := 4) hx hb hts inX6 hown hK hP 0 rfl rfl 2 (by decide) (hts _ fl_X6_20) (fun _ h9 => h9) rfl dX6_addRoad_81 ?_
    refine lv_iload_n hx hb dX6_addRoad_84 rfl (lv_at hl 2 rfl) ?_
    refine lv_iload_n hx hb dX6_addRoad_85 rfl (lv_at hl 1 rfl) ?_
    obtain ⟨u86, hu86, hf⟩ := bd hf
    refine keepSI (ct_X6_cell l E v2 v1 u86 hu86) [] cal_X6_cell sta_X6_cell lk_X6_64 cx hP hD hS hl dX6_addRoad_86 rfl rfl (Nat.le_of_ble_eq_true rfl) ⟨Nat.le_of_ble_eq_true rfl, Nat.le_of_ble_eq_true rfl⟩ rfl (by decide) (fun H locs hP hS => ?_)
    refine lv_iload_n hx hb dX6_addRoad_89 rfl (lv_at hl 3 rfl) ?_
    obtain ⟨hi, hf⟩ := ck hf
    refine r_iast 3 cx hP hD hS rfl hi dX6_addRoad_90 (fun H locs hP hD hS => ?_)
    have hP : va_P E.1 vwCl (wd_X6_addRoad E a_o a_o_roads a_o_takes a_o_hours a_o_roads_cells o_corners o_roads_many_j69 o_roads_cells_j69 (jput (jput o_takes_j69 u75 v3) u86 v3)) H := hP
    have hD : va_D A (wd_X6_addRoad E a_o a_o_roads a_o_takes a_o_hours a_o_roads_cells o_corners o_roads_many_j69 o_roads_cells_j69 (jput (jput o_takes_j69 u75 v3) u86 v3)) := hD
    obtain rfl := Option.some.inj hf
    subst hq
    exact retV cx hP hD hS dX6_addRoad_91
  unfold X6_addRoad at hf
  refine lv_iload_n hx hb dX6_addRoad_0 rfl (lv_at hl 1 rfl) ?_
  refine lv_iload_n hx hb dX6_addRoad_1 rfl (lv_at hl 2 rfl) ?_
  obtain ⟨u2, hu2, hf⟩ := bd hf
  refine keepSI (ct_X6_areCorners l E v1 v2 u2 hu2) [] cal_X6_areCorners sta_X6_areCorners lk_X6_44 cx hP hD hS hl dX6_addRoad_2 rfl rfl (Nat.le_of_ble_eq_true rfl) ⟨Nat.le_of_ble_eq_true rfl, Nat.le_of_ble_eq_true rfl⟩ rfl (by decide) (fun H locs hP hS => ?_)
  refine lv_if_eq (tgt := 18) hx hb dX6_addRoad_5 (by decide) (fun hc => ?_) (fun hc => ?_)
  · have hf := it_t hc hf
    obtain rfl := Option.some.inj hf
    subst hq
    exact retV cx hP hD hS dX6_addRoad_18
  · have hf := it_f hc hf
    refine lv_aload_n hx hb dX6_addRoad_8 rfl (lv_at hl 0 rfl) ?_
    refine va_get (D := E.1) (ci := 6) (v := .ref a_o_roads) (C := RX6) (T := TX6) (N := 4) hx hb hts inX6 hown hK hP 0 rfl rfl 1 (by decide) (hts _ fl_X6_16) (fun _ h9 => h9) rfl dX6_addRoad_9 ?_
    obtain ⟨u12, hu12, hf⟩ := bd hf
    refine keepVI (ct_X7_isFull l E a_o_roads a_o_roads_cells 24 2 o_roads_many o_roads_cells u12 hu12) [1, 2] cal_X7_isFull cav_X7_isFull lk_X6_48 cx hP hD hS hl dX6_addRoad_12 rfl rfl rfl rfl (Nat.le_of_ble_eq_true rfl) ⟨Nat.le_of_ble_eq_true rfl, Nat.le_of_ble_eq_true rfl⟩ rfl (by decide) (fun H locs hP hS => ?_)
    refine lv_if_eq (tgt := 19) hx hb dX6_addRoad_15 (by decide) (fun hc => ?_) (fun hc => ?_)
    · have hf := it_t hc hf
      refine lv_aload_n hx hb dX6_addRoad_19 rfl (lv_at hl 0 rfl) ?_
      refine va_get (D := E.1) (ci := 6) (v := .ref a_o_roads) (C := RX6) (T := TX6) (N := 4) hx hb hts inX6 hown hK hP 0 rfl rfl 1 (by decide) (hts _ fl_X6_16) (fun _ h9 => h9) rfl dX6_addRoad_20 ?_
      obtain ⟨u23, hu23, hf⟩ := bd hf
      refine callVI (wn := (wd_X6_addRoad E a_o a_o_roads a_o_takes a_o_hours a_o_roads_cells o_corners u23.2.1 u23.2.2 o_takes)) (n1 := 4) (ct_X7_add l E F a_o_roads a_o_roads_cells 24 2 o_roads_many o_roads_cells u23 hu23) [1, 2] cal_X7_add cav_X7_add lk_X6_52 cx hP hD hS hl dX6_addRoad_23 rfl rfl rfl rfl (Nat.le_of_ble_eq_true rfl) ⟨Nat.le_of_ble_eq_true rfl, Nat.le_of_ble_eq_true rfl⟩ rfl (by decide +kernel) rfl [none, some 0, some 1, none] rfl (by decide +kernel) rfl (fun H locs hP hD hS => ?_)
      refine lv_istore (lv' := [(4, .int u23.1), (0, .ref a_o), (1, .int v1), (2, .int v2), (3, .int v3)]) hx hb dX6_addRoad_26 hl (by decide) rfl (fun ls hl => ?_)
      refine lv_aload_n hx hb dX6_addRoad_28 rfl (lv_at hl 1 rfl) ?_
      refine va_get (D := E.1) (ci := 6) (v := .ref a_o_roads) (C := RX6) (T := TX6) (N := 4) hx hb hts inX6 hown hK hP 0 rfl rfl 1 (by decide) (hts _ fl_X6_16) (fun _ h9 => h9) rfl dX6_addRoad_29 ?_
      refine lv_iload hx hb dX6_addRoad_32 (lv_at hl 0 rfl) ?_
      refine lv_iconst (v := 0) hx hb dX6_addRoad_34 (by decide) ?_
      refine lv_iload_n hx hb dX6_addRoad_35 rfl (lv_at hl 2 rfl) ?_
      obtain ⟨u36, hu36, hf⟩ := bd hf
      refine callVV (wn := (wd_X6_addRoad E a_o a_o_roads a_o_takes a_o_hours a_o_roads_cells o_corners u23.2.1 u36 o_takes)) (n1 := 4) (ct_X7_set l E a_o_roads a_o_roads_cells 24 2 u23.2.1 u23.2.2 u23.1 (0 : Int32) v1 u36 hu36) [1, 2] cal_X7_set cav_X7_set lk_X6_56 cx hP hD hS hl dX6_addRoad_36 rfl rfl rfl rfl (Nat.le_of_ble_eq_true rfl) ⟨Nat.le_of_ble_eq_true rfl, Nat.le_of_ble_eq_true rfl⟩ rfl (by decide +kernel) rfl [none, some 0, some 1, none] rfl (by decide +kernel) rfl (fun H locs hP hD hS => ?_)
      refine lv_aload_n hx hb dX6_addRoad_39 rfl (lv_at hl 1 rfl) ?_
      refine va_get (D := E.1) (ci := 6) (v := .ref a_o_roads) (C := RX6) (T := TX6) (N := 4) hx hb hts inX6 hown hK hP 0 rfl rfl 1 (by decide) (hts _ fl_X6_16) (fun _ h9 => h9) rfl dX6_addRoad_40 ?_
      refine lv_iload hx hb dX6_addRoad_43 (lv_at hl 0 rfl) ?_
      refine lv_iconst (v := 1) hx hb dX6_addRoad_45 (by decide) ?_
      refine lv_iload_n hx hb dX6_addRoad_46 rfl (lv_at hl 3 rfl) ?_
      obtain ⟨u47, hu47, hf⟩ := bd hf
      refine callVV (wn := (wd_X6_addRoad E a_o a_o_roads a_o_takes a_o_hours a_o_roads_cells o_corners u23.2.1 u47 o_takes)) (n1 := 4) (ct_X7_set l E a_o_roads a_o_roads_cells 24 2 u23.2.1 u36 u23.1 (1 : Int32) v2 u47 hu47) [1, 2] cal_X7_set cav_X7_set lk_X6_56 cx hP hD hS hl dX6_addRoad_47 rfl rfl rfl rfl (Nat.le_of_ble_eq_true rfl) ⟨Nat.le_of_ble_eq_true rfl, Nat.le_of_ble_eq_true rfl⟩ rfl (by decide +kernel) rfl [none, some 0, some 1, none] rfl (by decide +kernel) rfl (fun H locs hP hD hS => ?_)
      refine lv_aload_n hx hb dX6_addRoad_50 rfl (lv_at hl 1 rfl) ?_
      refine lv_iload_n hx hb dX6_addRoad_51 rfl (lv_at hl 2 rfl) ?_
      refine lv_iload_n hx hb dX6_addRoad_52 rfl (lv_at hl 3 rfl) ?_
      obtain ⟨u53, hu53, hf⟩ := bd hf
      refine keepVI (ct_X6_takesBetween l E a_o a_o_roads a_o_takes a_o_hours o_corners o_takes v1 v2 u53 hu53) [0, 3] cal_X6_takesBetween cav_X6_takesBetween lk_X6_60 cx hP hD hS hl dX6_addRoad_53 rfl rfl rfl rfl (Nat.le_of_ble_eq_true rfl) ⟨Nat.le_of_ble_eq_true rfl, Nat.le_of_ble_eq_true rfl⟩ rfl (by decide) (fun H locs hP hS => ?_)
      refine lv_istore (lv' := [(5, .int u53), (4, .int u23.1), (0, .ref a_o), (1, .int v1), (2, .int v2), (3, .int v3)]) hx hb dX6_addRoad_56 hl (by decide) rfl (fun ls hl => ?_)
      refine lv_iload hx hb dX6_addRoad_58 (lv_at hl 0 rfl) ?_
      refine lv_if_eq (tgt := 69) hx hb dX6_addRoad_60 (by decide) (fun hc => ?_) (fun hc => ?_)
      · have hf := it_t hc hf
        exact hj69 _ _ _ _ _ _ hf hP hD hS (lv_sub hl [2, 3, 4, 5] rfl)
      · have hf := it_f hc hf
        refine lv_iload_n hx hb dX6_addRoad_63 rfl (lv_at hl 5 rfl) ?_
        refine lv_iload hx hb dX6_addRoad_64 (lv_at hl 0 rfl) ?_
        refine lv_icmp_ge (tgt := 91) hx hb dX6_addRoad_66 (by decide) (fun hc => ?_) (fun hc => ?_)
        · have hf := it_t hc hf
          obtain rfl := Option.some.inj hf
          subst hq
          exact retV cx hP hD hS dX6_addRoad_91
        · have hf := it_f hc hf
          exact hj69 _ _ _ _ _ _ hf hP hD hS (lv_sub hl [2, 3, 4, 5] rfl)
    · have hf := it_f hc hf
      obtain rfl := Option.some.inj hf
      subst hq
      exact retV cx hP hD hS dX6_addRoad_18
def X1_takeRoad_j89 (F : Nat) (o_tokens_length : Int32) (o_tokens_place : Int32) (o_tokens_next : Int32) (o_tokens_sort : Int32) (o_tokens_value : Int32) (o_tokens_code : Int64) (o_tokens_fault : Int32) (o_tokens_faultPlace : Int32) (o_tokens_text : Nat → Int32) (o_draft_streets_roads_many : Int32) (o_draft_streets_roads_cells : Nat → Int32) (o_draft_streets_takes : Nat → Int32) (o_draft_names_many : Int32) (o_draft_names_codes : Nat → Int64) (o_draft_names_sorts : Nat → Int32) (o_draft_names_numbers : Nat → Int32) (v1 : Int32) (v2 : Int32) : Option (Int32 × Int32 × Int32 × Int32 × Int64 × Int32 × Int32 × Int32 × (Nat → Int32) × (Nat → Int32)) :=
  (X8_takeWord F o_tokens_length o_tokens_place o_tokens_next o_tokens_sort o_tokens_value o_tokens_code o_tokens_fault o_tokens_faultPlace o_tokens_text (6 : Int32)).bind fun u95 =>
  (X8_takeNumber F o_tokens_length u95.1 u95.2.1 u95.2.2.1 u95.2.2.2.1 u95.2.2.2.2.1 u95.2.2.2.2.2.1 u95.2.2.2.2.2.2 o_tokens_text (1 : Int32) (9 : Int32)).bind fun u105 =>
  (X8_takeEnd F o_tokens_length u105.2.1 u105.2.2.1 u105.2.2.2.1 u105.2.2.2.2.1 u105.2.2.2.2.2.1 u105.2.2.2.2.2.2.1 u105.2.2.2.2.2.2.2 o_tokens_text).bind fun u113 =>
  if u113.2.2.2.2.2.1 = 0 then
  (X6_addRoad F o_draft_streets_roads_many o_draft_streets_roads_cells o_draft_streets_takes v1 v2 u105.1).bind fun u136 =>
  some (u113.1, u113.2.1, u113.2.2.1, u113.2.2.2.1, u113.2.2.2.2.1, u113.2.2.2.2.2.1, u113.2.2.2.2.2.2, u136.1, u136.2.1, u136.2.2)
  else
  some (u113.1, u113.2.1, u113.2.2.1, u113.2.2.2.1, u113.2.2.2.2.1, u113.2.2.2.2.2.1, u113.2.2.2.2.2.2, o_draft_streets_roads_many, o_draft_streets_roads_cells, o_draft_streets_takes)
def X1_takeRoad_j72 (F : Nat) (o_tokens_length : Int32) (o_tokens_place : Int32) (o_tokens_next : Int32) (o_tokens_sort : Int32) (o_tokens_value : Int32) (o_tokens_code : Int64) (o_tokens_fault : Int32) (o_tokens_faultPlace : Int32) (o_tokens_text : Nat → Int32) (o_draft_streets_roads_many : Int32) (o_draft_streets_roads_cells : Nat → Int32) (o_draft_streets_takes : Nat → Int32) (o_draft_names_many : Int32) (o_draft_names_codes : Nat → Int64) (o_draft_names_sorts : Nat → Int32) (o_draft_names_numbers : Nat → Int32) (v1 : Int32) (v2 : Int32) : Option (Int32 × Int32 × Int32 × Int32 × Int64 × Int32 × Int32 × Int32 × (Nat → Int32) × (Nat → Int32)) :=
  if o_tokens_fault = 0 then
  (X8_advance F o_tokens_length o_tokens_place o_tokens_next o_tokens_sort o_tokens_value o_tokens_code o_tokens_text).bind fun u86 =>
  X1_takeRoad_j89 F o_tokens_length u86.1 u86.2.1 u86.2.2.1 u86.2.2.2.1 u86.2.2.2.2 o_tokens_fault o_tokens_faultPlace o_tokens_text o_draft_streets_roads_many o_draft_streets_roads_cells o_draft_streets_takes o_draft_names_many o_draft_names_codes o_draft_names_sorts o_draft_names_numbers v1 v2
  else
  X1_takeRoad_j89 F o_tokens_length o_tokens_place o_tokens_next o_tokens_sort o_tokens_value o_tokens_code o_tokens_fault o_tokens_faultPlace o_tokens_text o_draft_streets_roads_many o_draft_streets_roads_cells o_draft_streets_takes o_draft_names_many o_draft_names_codes o_draft_names_sorts o_draft_names_numbers v1 v2
def X1_takeRoad (F : Nat) (o_tokens_length : Int32) (o_tokens_place : Int32) (o_tokens_next : Int32) (o_tokens_sort : Int32) (o_tokens_value : Int32) (o_tokens_code : Int64) (o_tokens_fault : Int32) (o_tokens_faultPlace : Int32) (o_tokens_text : Nat → Int32) (o_draft_streets_roads_many : Int32) (o_draft_streets_roads_cells : Nat → Int32) (o_draft_streets_takes : Nat → Int32) (o_draft_names_many : Int32) (o_draft_names_codes : Nat → Int64) (o_draft_names_sorts : Nat → Int32) (o_draft_names_numbers : Nat → Int32) : Option (Int32 × Int32 × Int32 × Int32 × Int64 × Int32 × Int32 × Int32 × (Nat → Int32) × (Nat → Int32)) :=
  (X7_isFull 24 2 o_draft_streets_roads_many).bind fun u11 =>
  (X1_takeFirstWord F o_tokens_length o_tokens_place o_tokens_next o_tokens_sort o_tokens_value o_tokens_code o_tokens_fault o_tokens_faultPlace o_tokens_text u11).bind fun u14 =>
  (X8_takeName F o_tokens_length u14.1 u14.2.1 u14.2.2.1 u14.2.2.2.1 u14.2.2.2.2.1 u14.2.2.2.2.2.1 u14.2.2.2.2.2.2 o_tokens_text o_draft_names_many o_draft_names_codes o_draft_names_sorts o_draft_names_numbers (1 : Int32)).bind fun u29 =>
  (X8_lookAtName F u29.2.1 u29.2.2.2.1 u29.2.2.2.2.2.1 u29.2.2.2.2.2.2.1 u29.2.2.2.2.2.2.2 o_draft_names_many o_draft_names_codes o_draft_names_sorts o_draft_names_numbers (1 : Int32)).bind fun u45 =>
  if u45.2.1 = 0 then
  if u29.1 = u45.1 then
  (X8_fail u29.2.1 u45.2.1 u45.2.2 (5 : Int32)).bind fun u69 =>
  X1_takeRoad_j72 F o_tokens_length u29.2.1 u29.2.2.1 u29.2.2.2.1 u29.2.2.2.2.1 u29.2.2.2.2.2.1 u69.1 u69.2 o_tokens_text o_draft_streets_roads_many o_draft_streets_roads_cells o_draft_streets_takes o_draft_names_many o_draft_names_codes o_draft_names_sorts o_draft_names_numbers u29.1 u45.1
  else
  X1_takeRoad_j72 F o_tokens_length u29.2.1 u29.2.2.1 u29.2.2.2.1 u29.2.2.2.2.1 u29.2.2.2.2.2.1 u45.2.1 u45.2.2 o_tokens_text o_draft_streets_roads_many o_draft_streets_roads_cells o_draft_streets_takes o_draft_names_many o_draft_names_codes o_draft_names_sorts o_draft_names_numbers u29.1 u45.1
  else
  X1_takeRoad_j72 F o_tokens_length u29.2.1 u29.2.2.1 u29.2.2.2.1 u29.2.2.2.2.1 u29.2.2.2.2.2.1 u45.2.1 u45.2.2 o_tokens_text o_draft_streets_roads_many o_draft_streets_roads_cells o_draft_streets_takes o_draft_names_many o_draft_names_codes o_draft_names_sorts o_draft_names_numbers u29.1 u45.1
abbrev wd_X1_takeRoad (E : vE) (a_o a_o_tokens a_o_draft a_o_tokens_text a_o_draft_streets a_o_draft_names a_o_draft_extras a_o_draft_happenings a_o_draft_watchers a_o_draft_weeks a_o_draft_streets_roads a_o_draft_streets_takes a_o_draft_streets_hours a_o_draft_streets_roads_cells a_o_draft_names_codes a_o_draft_names_sorts a_o_draft_names_numbers : Nat) (o_rulesTold : Int32) (o_tokens_held : Int32) (o_tokens_length : Int32) (o_tokens_place : Int32) (o_tokens_next : Int32) (o_tokens_sort : Int32) (o_tokens_value : Int32) (o_tokens_code : Int64) (o_tokens_fault : Int32) (o_tokens_faultPlace : Int32) (o_tokens_text : Nat → Int32) (o_draft_wage : Int32) (o_draft_delay : Int32) (o_draft_odds : Int32) (o_draft_clock : Int32) (o_draft_hasWeeks : Int32) (o_draft_streets_corners : Int32) (o_draft_streets_roads_many : Int32) (o_draft_streets_roads_cells : Nat → Int32) (o_draft_streets_takes : Nat → Int32) (o_draft_names_many : Int32) (o_draft_names_codes : Nat → Int64) (o_draft_names_sorts : Nat → Int32) (o_draft_names_numbers : Nat → Int32) : va_W := [(a_o, .inr (1, [.ref a_o_tokens, .ref a_o_draft, .int o_rulesTold])), (a_o_tokens, .inr (8, [.ref a_o_tokens_text, .int o_tokens_held, .int o_tokens_length, .int o_tokens_place, .int o_tokens_next, .int o_tokens_sort, .int o_tokens_value, .long o_tokens_code, .int o_tokens_fault, .int o_tokens_faultPlace])), (a_o_tokens_text, .inl (E.2.1, 900, .inl o_tokens_text)), (a_o_draft, .inr (0, [.int o_draft_wage, .int o_draft_delay, .int o_draft_odds, .int o_draft_clock, .int o_draft_hasWeeks, .ref a_o_draft_streets, .ref a_o_draft_names, .ref a_o_draft_extras, .ref a_o_draft_happenings, .ref a_o_draft_watchers, .ref a_o_draft_weeks])), (a_o_draft_streets, .inr (6, [.int o_draft_streets_corners, .ref a_o_draft_streets_roads, .ref a_o_draft_streets_takes, .ref a_o_draft_streets_hours])), (a_o_draft_streets_roads, .inr (7, [.int 2, .ref a_o_draft_streets_roads_cells, .int o_draft_streets_roads_many])), (a_o_draft_streets_roads_cells, .inl (E.2.1, 24, .inl o_draft_streets_roads_cells)), (a_o_draft_streets_takes, .inl (E.2.1, 64, .inl o_draft_streets_takes)), (a_o_draft_names, .inr (3, [.ref a_o_draft_names_codes, .ref a_o_draft_names_sorts, .ref a_o_draft_names_numbers, .int o_draft_names_many])), (a_o_draft_names_codes, .inl (E.2.2.1, 27, .inr (.inl o_draft_names_codes))), (a_o_draft_names_sorts, .inl (E.2.1, 27, .inl o_draft_names_sorts)), (a_o_draft_names_numbers, .inl (E.2.1, 27, .inl o_draft_names_numbers))]
set_option maxHeartbeats 4000000 in
set_option maxRecDepth 100000 in
theorem ct_X1_takeRoad (l : Launch) (E : vE) (F : Nat) (a_o a_o_tokens a_o_draft a_o_tokens_text a_o_draft_streets a_o_draft_names a_o_draft_extras a_o_draft_happenings a_o_draft_watchers a_o_draft_weeks a_o_draft_streets_roads a_o_draft_streets_takes a_o_draft_streets_hours a_o_draft_streets_roads_cells a_o_draft_names_codes a_o_draft_names_sorts a_o_draft_names_numbers : Nat) (o_rulesTold : Int32) (o_tokens_held : Int32) (o_tokens_length : Int32) (o_tokens_place : Int32) (o_tokens_next : Int32) (o_tokens_sort : Int32) (o_tokens_value : Int32) (o_tokens_code : Int64) (o_tokens_fault : Int32) (o_tokens_faultPlace : Int32) (o_tokens_text : Nat → Int32) (o_draft_wage : Int32) (o_draft_delay : Int32) (o_draft_odds : Int32) (o_draft_clock : Int32) (o_draft_hasWeeks : Int32) (o_draft_streets_corners : Int32) (o_draft_streets_roads_many : Int32) (o_draft_streets_roads_cells : Nat → Int32) (o_draft_streets_takes : Nat → Int32) (o_draft_names_many : Int32) (o_draft_names_codes : Nat → Int64) (o_draft_names_sorts : Nat → Int32) (o_draft_names_numbers : Nat → Int32) (u : Int32 × Int32 × Int32 × Int32 × Int64 × Int32 × Int32 × Int32 × (Nat → Int32) × (Nat → Int32)) (hf : X1_takeRoad F o_tokens_length o_tokens_place o_tokens_next o_tokens_sort o_tokens_value o_tokens_code o_tokens_fault o_tokens_faultPlace o_tokens_text o_draft_streets_roads_many o_draft_streets_roads_cells o_draft_streets_takes o_draft_names_many o_draft_names_codes o_draft_names_sorts o_draft_names_numbers = some u) :
    CtV l yX1_takeRoad cX1_takeRoad 4 none 7 E [.ref a_o] (wd_X1_takeRoad E a_o a_o_tokens a_o_draft a_o_tokens_text a_o_draft_streets a_o_draft_names a_o_draft_extras a_o_draft_happenings a_o_draft_watchers a_o_draft_weeks a_o_draft_streets_roads a_o_draft_streets_takes a_o_draft_streets_hours a_o_draft_streets_roads_cells a_o_draft_names_codes a_o_draft_names_sorts a_o_draft_names_numbers o_rulesTold o_tokens_held o_tokens_length o_tokens_place o_tokens_next o_tokens_sort o_tokens_value o_tokens_code o_tokens_fault o_tokens_faultPlace o_tokens_text o_draft_wage o_draft_delay o_draft_odds o_draft_clock o_draft_hasWeeks o_draft_streets_corners o_draft_streets_roads_many o_draft_streets_roads_cells o_draft_streets_takes o_draft_names_many o_draft_names_codes o_draft_names_sorts o_draft_names_numbers) (wd_X1_takeRoad E a_o a_o_tokens a_o_draft a_o_tokens_text a_o_draft_streets a_o_draft_names a_o_draft_extras a_o_draft_happenings a_o_draft_watchers a_o_draft_weeks a_o_draft_streets_roads a_o_draft_streets_takes a_o_draft_streets_hours a_o_draft_streets_roads_cells a_o_draft_names_codes a_o_draft_names_sorts a_o_draft_names_numbers o_rulesTold o_tokens_held o_tokens_length u.1 u.2.1 u.2.2.1 u.2.2.2.1 u.2.2.2.2.1 u.2.2.2.2.2.1 u.2.2.2.2.2.2.1 o_tokens_text o_draft_wage o_draft_delay o_draft_odds o_draft_clock o_draft_hasWeeks o_draft_streets_corners u.2.2.2.2.2.2.2.1 u.2.2.2.2.2.2.2.2.1 u.2.2.2.2.2.2.2.2.2 o_draft_names_many o_draft_names_codes o_draft_names_sorts o_draft_names_numbers) := by
  refine ctV (by decide) (Nat.le_of_ble_eq_true rfl) ?_
  intro p e s m below meth cd A ls aa QQ hq cx hP hD hS hl
  obtain ⟨⟨hx, hb, hml, hown, hts⟩, hr, hlocks, hK, hA, hX⟩ := id cx
  have hl : lv_has ls 4 [(0, .ref a_o)] := hl
  have hj89 : ∀ (v1_j89 : Int32) (v2_j89 : Int32) (o_tokens_place_j89 : Int32) (o_tokens_next_j89 : Int32) (o_tokens_sort_j89 : Int32) (o_tokens_value_j89 : Int32) (o_tokens_code_j89 : Int64) (o_tokens_fault_j89 : Int32) (o_tokens_faultPlace_j89 : Int32) (o_draft_streets_roads_many_j89 : Int32) (o_draft_streets_roads_cells_j89 : Nat → Int32) (o_draft_streets_takes_j89 : Nat → Int32) (H : Heap) (locs : List Loc) (ls : Array Slot), X1_takeRoad_j89 F o_tokens_length o_tokens_place_j89 o_tokens_next_j89 o_tokens_sort_j89 o_tokens_value_j89 o_tokens_code_j89 o_tokens_fault_j89 o_tokens_faultPlace_j89 o_tokens_text o_draft_streets_roads_many_j89 o_draft_streets_roads_cells_j89 o_draft_streets_takes_j89 o_draft_names_many o_draft_names_codes o_draft_names_sorts o_draft_names_numbers v1_j89 v2_j89 = some u → va_P E.1 vwCl (wd_X1_takeRoad E a_o a_o_tokens a_o_draft a_o_tokens_text a_o_draft_streets a_o_draft_names a_o_draft_extras a_o_draft_happenings a_o_draft_watchers a_o_draft_weeks a_o_draft_streets_roads a_o_draft_streets_takes a_o_draft_streets_hours a_o_draft_streets_roads_cells a_o_draft_names_codes a_o_draft_names_sorts a_o_draft_names_numbers o_rulesTold o_tokens_held o_tokens_length o_tokens_place_j89 o_tokens_next_j89 o_tokens_sort_j89 o_tokens_value_j89 o_tokens_code_j89 o_tokens_fault_j89 o_tokens_faultPlace_j89 o_tokens_text o_draft_wage o_draft_delay o_draft_odds o_draft_clock o_draft_hasWeeks o_draft_streets_corners o_draft_streets_roads_many_j89 o_draft_streets_roads_cells_j89 o_draft_streets_takes_j89 o_draft_names_many o_draft_names_codes o_draft_names_sorts o_draft_names_numbers) H → va_D A (wd_X1_takeRoad E a_o a_o_tokens a_o_draft a_o_tokens_text a_o_draft_streets a_o_draft_names a_o_draft_extras a_o_draft_happenings a_o_draft_watchers a_o_draft_weeks a_o_draft_streets_roads a_o_draft_streets_takes a_o_draft_streets_hours a_o_draft_streets_roads_cells a_o_draft_names_codes a_o_draft_names_sorts a_o_draft_names_numbers o_rulesTold o_tokens_held o_tokens_length o_tokens_place_j89 o_tokens_next_j89 o_tokens_sort_j89 o_tokens_value_j89 o_tokens_code_j89 o_tokens_fault_j89 o_tokens_faultPlace_j89 o_tokens_text o_draft_wage o_draft_delay o_draft_odds o_draft_clock o_draft_hasWeeks o_draft_streets_corners o_draft_streets_roads_many_j89 o_draft_streets_roads_cells_j89 o_draft_streets_takes_j89 o_draft_names_many o_draft_names_codes o_draft_names_sorts o_draft_names_numbers) → va_S A s.heap H locs → lv_has ls 4 [(0, .ref a_o), (1, .int v1_j89), (2, .int v2_j89)] → W p l e (rmd 7) s m aa below meth cd H locs 0 0 QQ (F0 m 89 ls []) := by
    intro v1_j89 v2_j89 o_tokens_place_j89 o_tokens_next_j89 o_tokens_sort_j89 o_tokens_value_j89 o_tokens_code_j89 o_tokens_fault_j89 o_tokens_faultPlace_j89 o_draft_streets_roads_many_j89 o_draft_streets_roads_cells_j89 o_draft_streets_takes_j89 H locs ls hf hP hD hS hl
    unfold X1_takeRoad_j89 at hf
    refine lv_aload_n hx hb dX1_takeRoad_89 rfl (lv_at hl 0 rfl) ?_
    refine va_get (D := E.1) (ci := 1) (v := .ref a_o_tokens) (C := RX1) (T := TX1) (N := 3) hx hb hts inX1 hown hK hP 0 rfl rfl 0 (by decide) (hts _ fl_X1_16) (fun _ h9 => h9) rfl dX1_takeRoad_90 ?_
    refine lv_bipush (v := 6) hx hb dX1_takeRoad_93 (by decide) ?_
    obtain ⟨u95, hu95, hf⟩ := bd hf
    refine callVV (wn := (wd_X1_takeRoad E a_o a_o_tokens a_o_draft a_o_tokens_text a_o_draft_streets a_o_draft_names a_o_draft_extras a_o_draft_happenings a_o_draft_watchers a_o_draft_weeks a_o_draft_streets_roads a_o_draft_streets_takes a_o_draft_streets_hours a_o_draft_streets_roads_cells a_o_draft_names_codes a_o_draft_names_sorts a_o_draft_names_numbers o_rulesTold o_tokens_held o_tokens_length u95.1 u95.2.1 u95.2.2.1 u95.2.2.2.1 u95.2.2.2.2.1 u95.2.2.2.2.2.1 u95.2.2.2.2.2.2 o_tokens_text o_draft_wage o_draft_delay o_draft_odds o_draft_clock o_draft_hasWeeks o_draft_streets_corners o_draft_streets_roads_many_j89 o_draft_streets_roads_cells_j89 o_draft_streets_takes_j89 o_draft_names_many o_draft_names_codes o_draft_names_sorts o_draft_names_numbers)) (n1 := 12) (ct_X8_takeWord l E F a_o_tokens a_o_tokens_text o_tokens_held o_tokens_length o_tokens_place_j89 o_tokens_next_j89 o_tokens_sort_j89 o_tokens_value_j89 o_tokens_code_j89 o_tokens_fault_j89 o_tokens_faultPlace_j89 o_tokens_text (6 : Int32) u95 hu95) [1, 2] cal_X8_takeWord cav_X8_takeWord lk_X1_142 cx hP hD hS hl dX1_takeRoad_95 rfl rfl rfl rfl (Nat.le_of_ble_eq_true rfl) ⟨Nat.le_of_ble_eq_true rfl, Nat.le_of_ble_eq_true rfl⟩ rfl (by decide +kernel) rfl [none, some 0, some 1, none, none, none, none, none, none, none, none, none] rfl (by decide +kernel) rfl (fun H locs hP hD hS => ?_)
    refine lv_aload_n hx hb dX1_takeRoad_98 rfl (lv_at hl 0 rfl) ?_
    refine va_get (D := E.1) (ci := 1) (v := .ref a_o_tokens) (C := RX1) (T := TX1) (N := 3) hx hb hts inX1 hown hK hP 0 rfl rfl 0 (by decide) (hts _ fl_X1_16) (fun _ h9 => h9) rfl dX1_takeRoad_99 ?_
    refine lv_iconst (v := 1) hx hb dX1_takeRoad_102 (by decide) ?_
    refine lv_bipush (v := 9) hx hb dX1_takeRoad_103 (by decide) ?_
    obtain ⟨u105, hu105, hf⟩ := bd hf
    refine callVI (wn := (wd_X1_takeRoad E a_o a_o_tokens a_o_draft a_o_tokens_text a_o_draft_streets a_o_draft_names a_o_draft_extras a_o_draft_happenings a_o_draft_watchers a_o_draft_weeks a_o_draft_streets_roads a_o_draft_streets_takes a_o_draft_streets_hours a_o_draft_streets_roads_cells a_o_draft_names_codes a_o_draft_names_sorts a_o_draft_names_numbers o_rulesTold o_tokens_held o_tokens_length u105.2.1 u105.2.2.1 u105.2.2.2.1 u105.2.2.2.2.1 u105.2.2.2.2.2.1 u105.2.2.2.2.2.2.1 u105.2.2.2.2.2.2.2 o_tokens_text o_draft_wage o_draft_delay o_draft_odds o_draft_clock o_draft_hasWeeks o_draft_streets_corners o_draft_streets_roads_many_j89 o_draft_streets_roads_cells_j89 o_draft_streets_takes_j89 o_draft_names_many o_draft_names_codes o_draft_names_sorts o_draft_names_numbers)) (n1 := 12) (ct_X8_takeNumber l E F a_o_tokens a_o_tokens_text o_tokens_held o_tokens_length u95.1 u95.2.1 u95.2.2.1 u95.2.2.2.1 u95.2.2.2.2.1 u95.2.2.2.2.2.1 u95.2.2.2.2.2.2 o_tokens_text (1 : Int32) (9 : Int32) u105 hu105) [1, 2] cal_X8_takeNumber cav_X8_takeNumber lk_X1_98 cx hP hD hS hl dX1_takeRoad_105 rfl rfl rfl rfl (Nat.le_of_ble_eq_true rfl) ⟨Nat.le_of_ble_eq_true rfl, Nat.le_of_ble_eq_true rfl⟩ rfl (by decide +kernel) rfl [none, some 0, some 1, none, none, none, none, none, none, none, none, none] rfl (by decide +kernel) rfl (fun H locs hP hD hS => ?_)
    refine lv_istore_n (lv' := [(3, .int u105.1), (0, .ref a_o), (1, .int v1_j89), (2, .int v2_j89)]) hx hb dX1_takeRoad_108 rfl hl (by decide) rfl (fun ls hl => ?_)
    refine lv_aload_n hx hb dX1_takeRoad_109 rfl (lv_at hl 1 rfl) ?_
    refine va_get (D := E.1) (ci := 1) (v := .ref a_o_tokens) (C := RX1) (T := TX1) (N := 3) hx hb hts inX1 hown hK hP 0 rfl rfl 0 (by decide) (hts _ fl_X1_16) (fun _ h9 => h9) rfl dX1_takeRoad_110 ?_
    obtain ⟨u113, hu113, hf⟩ := bd hf
    refine callVV (wn := (wd_X1_takeRoad E a_o a_o_tokens a_o_draft a_o_tokens_text a_o_draft_streets a_o_draft_names a_o_draft_extras a_o_draft_happenings a_o_draft_watchers a_o_draft_weeks a_o_draft_streets_roads a_o_draft_streets_takes a_o_draft_streets_hours a_o_draft_streets_roads_cells a_o_draft_names_codes a_o_draft_names_sorts a_o_draft_names_numbers o_rulesTold o_tokens_held o_tokens_length u113.1 u113.2.1 u113.2.2.1 u113.2.2.2.1 u113.2.2.2.2.1 u113.2.2.2.2.2.1 u113.2.2.2.2.2.2 o_tokens_text o_draft_wage o_draft_delay o_draft_odds o_draft_clock o_draft_hasWeeks o_draft_streets_corners o_draft_streets_roads_many_j89 o_draft_streets_roads_cells_j89 o_draft_streets_takes_j89 o_draft_names_many o_draft_names_codes o_draft_names_sorts o_draft_names_numbers)) (n1 := 12) (ct_X8_takeEnd l E F a_o_tokens a_o_tokens_text o_tokens_held o_tokens_length u105.2.1 u105.2.2.1 u105.2.2.2.1 u105.2.2.2.2.1 u105.2.2.2.2.2.1 u105.2.2.2.2.2.2.1 u105.2.2.2.2.2.2.2 o_tokens_text u113 hu113) [1, 2] cal_X8_takeEnd cav_X8_takeEnd lk_X1_102 cx hP hD hS hl dX1_takeRoad_113 rfl rfl rfl rfl (Nat.le_of_ble_eq_true rfl) ⟨Nat.le_of_ble_eq_true rfl, Nat.le_of_ble_eq_true rfl⟩ rfl (by decide +kernel) rfl [none, some 0, some 1, none, none, none, none, none, none, none, none, none] rfl (by decide +kernel) rfl (fun H locs hP hD hS => ?_)
    refine lv_aload_n hx hb dX1_takeRoad_116 rfl (lv_at hl 1 rfl) ?_
    refine va_get (D := E.1) (ci := 1) (v := .ref a_o_tokens) (C := RX1) (T := TX1) (N := 3) hx hb hts inX1 hown hK hP 0 rfl rfl 0 (by decide) (hts _ fl_X1_16) (fun _ h9 => h9) rfl dX1_takeRoad_117 ?_
    refine va_get (D := E.1) (ci := 8) (v := .int u113.2.2.2.2.2.1) (C := RX8) (T := TX8) (N := 10) hx hb hts inX8 hown hK hP 1 rfl rfl 8 (by decide) (hts _ fl_X1_49) (fun _ h9 => h9) rfl dX1_takeRoad_120 ?_
    refine lv_if_ne (tgt := 139) hx hb dX1_takeRoad_123 (by decide) (fun hc => ?_) (fun hc => ?_)
    · have hf := it_f hc hf
      obtain rfl := Option.some.inj hf
      subst hq
      exact retV cx hP hD hS dX1_takeRoad_139
    · have hf := it_t hc hf
      refine lv_aload_n hx hb dX1_takeRoad_126 rfl (lv_at hl 1 rfl) ?_
      refine va_get (D := E.1) (ci := 1) (v := .ref a_o_draft) (C := RX1) (T := TX1) (N := 3) hx hb hts inX1 hown hK hP 0 rfl rfl 1 (by decide) (hts _ fl_X1_10) (fun _ h9 => h9) rfl dX1_takeRoad_127 ?_
      refine va_get (D := E.1) (ci := 0) (v := .ref a_o_draft_streets) (C := RX0) (T := TX0) (N := 11) hx hb hts inX0 hown hK hP 3 rfl rfl 5 (by decide) (hts _ fl_X1_40) (fun _ h9 => h9) rfl dX1_takeRoad_130 ?_
      refine lv_iload_n hx hb dX1_takeRoad_133 rfl (lv_at hl 2 rfl) ?_
      refine lv_iload_n hx hb dX1_takeRoad_134 rfl (lv_at hl 3 rfl) ?_
      refine lv_iload_n hx hb dX1_takeRoad_135 rfl (lv_at hl 0 rfl) ?_
      obtain ⟨u136, hu136, hf⟩ := bd hf
      refine callVV (wn := (wd_X1_takeRoad E a_o a_o_tokens a_o_draft a_o_tokens_text a_o_draft_streets a_o_draft_names a_o_draft_extras a_o_draft_happenings a_o_draft_watchers a_o_draft_weeks a_o_draft_streets_roads a_o_draft_streets_takes a_o_draft_streets_hours a_o_draft_streets_roads_cells a_o_draft_names_codes a_o_draft_names_sorts a_o_draft_names_numbers o_rulesTold o_tokens_held o_tokens_length u113.1 u113.2.1 u113.2.2.1 u113.2.2.2.1 u113.2.2.2.2.1 u113.2.2.2.2.2.1 u113.2.2.2.2.2.2 o_tokens_text o_draft_wage o_draft_delay o_draft_odds o_draft_clock o_draft_hasWeeks o_draft_streets_corners u136.1 u136.2.1 u136.2.2 o_draft_names_many o_draft_names_codes o_draft_names_sorts o_draft_names_numbers)) (n1 := 12) (ct_X6_addRoad l E F a_o_draft_streets a_o_draft_streets_roads a_o_draft_streets_takes a_o_draft_streets_hours a_o_draft_streets_roads_cells o_draft_streets_corners o_draft_streets_roads_many_j89 o_draft_streets_roads_cells_j89 o_draft_streets_takes_j89 v1_j89 v2_j89 u105.1 u136 hu136) [4, 5, 6, 7] cal_X6_addRoad cav_X6_addRoad lk_X1_145 cx hP hD hS hl dX1_takeRoad_136 rfl rfl rfl rfl (Nat.le_of_ble_eq_true rfl) ⟨Nat.le_of_ble_eq_true rfl, Nat.le_of_ble_eq_true rfl⟩ rfl (by decide +kernel) rfl [none, none, none, none, some 0, some 1, some 2, some 3, none, none, none, none] rfl (by decide +kernel) rfl (fun H locs hP hD hS => ?_)
      obtain rfl := Option.some.inj hf
      subst hq
      exact retV cx hP hD hS dX1_takeRoad_139
  have hj72 : ∀ (v1_j72 : Int32) (v2_j72 : Int32) (o_tokens_place_j72 : Int32) (o_tokens_next_j72 : Int32) (o_tokens_sort_j72 : Int32) (o_tokens_value_j72 : Int32) (o_tokens_code_j72 : Int64) (o_tokens_fault_j72 : Int32) (o_tokens_faultPlace_j72 : Int32) (o_draft_streets_roads_many_j72 : Int32) (o_draft_streets_roads_cells_j72 : Nat → Int32) (o_draft_streets_takes_j72 : Nat → Int32) (H : Heap) (locs : List Loc) (ls : Array Slot), X1_takeRoad_j72 F o_tokens_length o_tokens_place_j72 o_tokens_next_j72 o_tokens_sort_j72 o_tokens_value_j72 o_tokens_code_j72 o_tokens_fault_j72 o_tokens_faultPlace_j72 o_tokens_text o_draft_streets_roads_many_j72 o_draft_streets_roads_cells_j72 o_draft_streets_takes_j72 o_draft_names_many o_draft_names_codes o_draft_names_sorts o_draft_names_numbers v1_j72 v2_j72 = some u → va_P E.1 vwCl (wd_X1_takeRoad E a_o a_o_tokens a_o_draft a_o_tokens_text a_o_draft_streets a_o_draft_names a_o_draft_extras a_o_draft_happenings a_o_draft_watchers a_o_draft_weeks a_o_draft_streets_roads a_o_draft_streets_takes a_o_draft_streets_hours a_o_draft_streets_roads_cells a_o_draft_names_codes a_o_draft_names_sorts a_o_draft_names_numbers o_rulesTold o_tokens_held o_tokens_length o_tokens_place_j72 o_tokens_next_j72 o_tokens_sort_j72 o_tokens_value_j72 o_tokens_code_j72 o_tokens_fault_j72 o_tokens_faultPlace_j72 o_tokens_text o_draft_wage o_draft_delay o_draft_odds o_draft_clock o_draft_hasWeeks o_draft_streets_corners o_draft_streets_roads_many_j72 o_draft_streets_roads_cells_j72 o_draft_streets_takes_j72 o_draft_names_many o_draft_names_codes o_draft_names_sorts o_draft_names_numbers) H → va_D A (wd_X1_takeRoad E a_o a_o_tokens a_o_draft a_o_tokens_text a_o_draft_streets a_o_draft_names a_o_draft_extras a_o_draft_happenings a_o_draft_watchers a_o_draft_weeks a_o_draft_streets_roads a_o_draft_streets_takes a_o_draft_streets_hours a_o_draft_streets_roads_cells a_o_draft_names_codes a_o_draft_names_sorts a_o_draft_names_numbers o_rulesTold o_tokens_held o_tokens_length o_tokens_place_j72 o_tokens_next_j72 o_tokens_sort_j72 o_tokens_value_j72 o_tokens_code_j72 o_tokens_fault_j72 o_tokens_faultPlace_j72 o_tokens_text o_draft_wage o_draft_delay o_draft_odds o_draft_clock o_draft_hasWeeks o_draft_streets_corners o_draft_streets_roads_many_j72 o_draft_streets_roads_cells_j72 o_draft_streets_takes_j72 o_draft_names_many o_draft_names_codes o_draft_names_sorts o_draft_names_numbers) → va_S A s.heap H locs → lv_has ls 4 [(0, .ref a_o), (1, .int v1_j72), (2, .int v2_j72)] → W p l e (rmd 7) s m aa below meth cd H locs 0 0 QQ (F0 m 72 ls []) := by
    intro v1_j72 v2_j72 o_tokens_place_j72 o_tokens_next_j72 o_tokens_sort_j72 o_tokens_value_j72 o_tokens_code_j72 o_tokens_fault_j72 o_tokens_faultPlace_j72 o_draft_streets_roads_many_j72 o_draft_streets_roads_cells_j72 o_draft_streets_takes_j72 H locs ls hf hP hD hS hl
    unfold X1_takeRoad_j72 at hf
    refine lv_aload_n hx hb dX1_takeRoad_72 rfl (lv_at hl 0 rfl) ?_
    refine va_get (D := E.1) (ci := 1) (v := .ref a_o_tokens) (C := RX1) (T := TX1) (N := 3) hx hb hts inX1 hown hK hP 0 rfl rfl 0 (by decide) (hts _ fl_X1_16) (fun _ h9 => h9) rfl dX1_takeRoad_73 ?_
    refine va_get (D := E.1) (ci := 8) (v := .int o_tokens_fault_j72) (C := RX8) (T := TX8) (N := 10) hx hb hts inX8 hown hK hP 1 rfl rfl 8 (by decide) (hts _ fl_X1_49) (fun _ h9 => h9) rfl dX1_takeRoad_76 ?_
    refine lv_if_ne (tgt := 89) hx hb dX1_takeRoad_79 (by decide) (fun hc => ?_) (fun hc => ?_)
    · have hf := it_f hc hf
      exact hj89 _ _ _ _ _ _ _ _ _ _ _ _ _ _ _ hf hP hD hS (lv_sub hl [0, 1, 2] rfl)
    · have hf := it_t hc hf
      refine lv_aload_n hx hb dX1_takeRoad_82 rfl (lv_at hl 0 rfl) ?_
      refine va_get (D := E.1) (ci := 1) (v := .ref a_o_tokens) (C := RX1) (T := TX1) (N := 3) hx hb hts inX1 hown hK hP 0 rfl rfl 0 (by decide) (hts _ fl_X1_16) (fun _ h9 => h9) rfl dX1_takeRoad_83 ?_
      obtain ⟨u86, hu86, hf⟩ := bd hf
      refine callVV (wn := (wd_X1_takeRoad E a_o a_o_tokens a_o_draft a_o_tokens_text a_o_draft_streets a_o_draft_names a_o_draft_extras a_o_draft_happenings a_o_draft_watchers a_o_draft_weeks a_o_draft_streets_roads a_o_draft_streets_takes a_o_draft_streets_hours a_o_draft_streets_roads_cells a_o_draft_names_codes a_o_draft_names_sorts a_o_draft_names_numbers o_rulesTold o_tokens_held o_tokens_length u86.1 u86.2.1 u86.2.2.1 u86.2.2.2.1 u86.2.2.2.2 o_tokens_fault_j72 o_tokens_faultPlace_j72 o_tokens_text o_draft_wage o_draft_delay o_draft_odds o_draft_clock o_draft_hasWeeks o_draft_streets_corners o_draft_streets_roads_many_j72 o_draft_streets_roads_cells_j72 o_draft_streets_takes_j72 o_draft_names_many o_draft_names_codes o_draft_names_sorts o_draft_names_numbers)) (n1 := 12) (ct_X8_advance l E F a_o_tokens a_o_tokens_text o_tokens_held o_tokens_length o_tokens_place_j72 o_tokens_next_j72 o_tokens_sort_j72 o_tokens_value_j72 o_tokens_code_j72 o_tokens_fault_j72 o_tokens_faultPlace_j72 o_tokens_text u86 hu86) [1, 2] cal_X8_advance cav_X8_advance lk_X1_95 cx hP hD hS hl dX1_takeRoad_86 rfl rfl rfl rfl (Nat.le_of_ble_eq_true rfl) ⟨Nat.le_of_ble_eq_true rfl, Nat.le_of_ble_eq_true rfl⟩ rfl (by decide +kernel) rfl [none, some 0, some 1, none, none, none, none, none, none, none, none, none] rfl (by decide +kernel) rfl (fun H locs hP hD hS => ?_)
      exact hj89 _ _ _ _ _ _ _ _ _ _ _ _ _ _ _ hf hP hD hS (lv_sub hl [0, 1, 2] rfl)
  unfold X1_takeRoad at hf
  refine lv_aload_n hx hb dX1_takeRoad_0 rfl (lv_at hl 0 rfl) ?_
  refine lv_aload_n hx hb dX1_takeRoad_1 rfl (lv_at hl 0 rfl) ?_
  refine va_get (D := E.1) (ci := 1) (v := .ref a_o_draft) (C := RX1) (T := TX1) (N := 3) hx hb hts inX1 hown hK hP 0 rfl rfl 1 (by decide) (hts _ fl_X1_10) (fun _ h9 => h9) rfl dX1_takeRoad_2 ?_
  refine va_get (D := E.1) (ci := 0) (v := .ref a_o_draft_streets) (C := RX0) (T := TX0) (N := 11) hx hb hts inX0 hown hK hP 3 rfl rfl 5 (by decide) (hts _ fl_X1_40) (fun _ h9 => h9) rfl dX1_takeRoad_5 ?_
  refine va_get (D := E.1) (ci := 6) (v := .ref a_o_draft_streets_roads) (C := RX6) (T := TX6) (N := 4) hx hb hts inX6 hown hK hP 4 rfl rfl 1 (by decide) (hts _ fl_X1_126) (fun _ h9 => h9) rfl dX1_takeRoad_8 ?_
  obtain ⟨u11, hu11, hf⟩ := bd hf
  refine keepVI (ct_X7_isFull l E a_o_draft_streets_roads a_o_draft_streets_roads_cells 24 2 o_draft_streets_roads_many o_draft_streets_roads_cells u11 hu11) [5, 6] cal_X7_isFull cav_X7_isFull lk_X1_130 cx hP hD hS hl dX1_takeRoad_11 rfl rfl rfl rfl (Nat.le_of_ble_eq_true rfl) ⟨Nat.le_of_ble_eq_true rfl, Nat.le_of_ble_eq_true rfl⟩ rfl (by decide) (fun H locs hP hS => ?_)
  obtain ⟨u14, hu14, hf⟩ := bd hf
  refine callVV (wn := (wd_X1_takeRoad E a_o a_o_tokens a_o_draft a_o_tokens_text a_o_draft_streets a_o_draft_names a_o_draft_extras a_o_draft_happenings a_o_draft_watchers a_o_draft_weeks a_o_draft_streets_roads a_o_draft_streets_takes a_o_draft_streets_hours a_o_draft_streets_roads_cells a_o_draft_names_codes a_o_draft_names_sorts a_o_draft_names_numbers o_rulesTold o_tokens_held o_tokens_length u14.1 u14.2.1 u14.2.2.1 u14.2.2.2.1 u14.2.2.2.2.1 u14.2.2.2.2.2.1 u14.2.2.2.2.2.2 o_tokens_text o_draft_wage o_draft_delay o_draft_odds o_draft_clock o_draft_hasWeeks o_draft_streets_corners o_draft_streets_roads_many o_draft_streets_roads_cells o_draft_streets_takes o_draft_names_many o_draft_names_codes o_draft_names_sorts o_draft_names_numbers)) (n1 := 12) (ct_X1_takeFirstWord l E F a_o a_o_tokens a_o_draft a_o_tokens_text o_rulesTold o_tokens_held o_tokens_length o_tokens_place o_tokens_next o_tokens_sort o_tokens_value o_tokens_code o_tokens_fault o_tokens_faultPlace o_tokens_text u11 u14 hu14) [0, 1, 2] cal_X1_takeFirstWord cav_X1_takeFirstWord lk_X1_108 cx hP hD hS hl dX1_takeRoad_14 rfl rfl rfl rfl (Nat.le_of_ble_eq_true rfl) ⟨Nat.le_of_ble_eq_true rfl, Nat.le_of_ble_eq_true rfl⟩ rfl (by decide +kernel) rfl [some 0, some 1, some 2, none, none, none, none, none, none, none, none, none] rfl (by decide +kernel) rfl (fun H locs hP hD hS => ?_)
  refine lv_aload_n hx hb dX1_takeRoad_17 rfl (lv_at hl 0 rfl) ?_
  refine va_get (D := E.1) (ci := 1) (v := .ref a_o_tokens) (C := RX1) (T := TX1) (N := 3) hx hb hts inX1 hown hK hP 0 rfl rfl 0 (by decide) (hts _ fl_X1_16) (fun _ h9 => h9) rfl dX1_takeRoad_18 ?_
  refine lv_aload_n hx hb dX1_takeRoad_21 rfl (lv_at hl 0 rfl) ?_
  refine va_get (D := E.1) (ci := 1) (v := .ref a_o_draft) (C := RX1) (T := TX1) (N := 3) hx hb hts inX1 hown hK hP 0 rfl rfl 1 (by decide) (hts _ fl_X1_10) (fun _ h9 => h9) rfl dX1_takeRoad_22 ?_
  refine va_get (D := E.1) (ci := 0) (v := .ref a_o_draft_names) (C := RX0) (T := TX0) (N := 11) hx hb hts inX0 hown hK hP 3 rfl rfl 6 (by decide) (hts _ fl_X1_112) (fun _ h9 => h9) rfl dX1_takeRoad_25 ?_
  refine lv_iconst (v := 1) hx hb dX1_takeRoad_28 (by decide) ?_
  obtain ⟨u29, hu29, hf⟩ := bd hf
  refine callVI (wn := (wd_X1_takeRoad E a_o a_o_tokens a_o_draft a_o_tokens_text a_o_draft_streets a_o_draft_names a_o_draft_extras a_o_draft_happenings a_o_draft_watchers a_o_draft_weeks a_o_draft_streets_roads a_o_draft_streets_takes a_o_draft_streets_hours a_o_draft_streets_roads_cells a_o_draft_names_codes a_o_draft_names_sorts a_o_draft_names_numbers o_rulesTold o_tokens_held o_tokens_length u29.2.1 u29.2.2.1 u29.2.2.2.1 u29.2.2.2.2.1 u29.2.2.2.2.2.1 u29.2.2.2.2.2.2.1 u29.2.2.2.2.2.2.2 o_tokens_text o_draft_wage o_draft_delay o_draft_odds o_draft_clock o_draft_hasWeeks o_draft_streets_corners o_draft_streets_roads_many o_draft_streets_roads_cells o_draft_streets_takes o_draft_names_many o_draft_names_codes o_draft_names_sorts o_draft_names_numbers)) (n1 := 12) (ct_X8_takeName l E F a_o_tokens a_o_tokens_text a_o_draft_names a_o_draft_names_codes a_o_draft_names_sorts a_o_draft_names_numbers o_tokens_held o_tokens_length u14.1 u14.2.1 u14.2.2.1 u14.2.2.2.1 u14.2.2.2.2.1 u14.2.2.2.2.2.1 u14.2.2.2.2.2.2 o_tokens_text o_draft_names_many o_draft_names_codes o_draft_names_sorts o_draft_names_numbers (1 : Int32) u29 hu29) [1, 2, 8, 9, 10, 11] cal_X8_takeName cav_X8_takeName lk_X1_135 cx hP hD hS hl dX1_takeRoad_29 rfl rfl rfl rfl (Nat.le_of_ble_eq_true rfl) ⟨Nat.le_of_ble_eq_true rfl, Nat.le_of_ble_eq_true rfl⟩ rfl (by decide +kernel) rfl [none, some 0, some 1, none, none, none, none, none, some 2, some 3, some 4, some 5] rfl (by decide +kernel) rfl (fun H locs hP hD hS => ?_)
  refine lv_istore_n (lv' := [(1, .int u29.1), (0, .ref a_o)]) hx hb dX1_takeRoad_32 rfl hl (by decide) rfl (fun ls hl => ?_)
  refine lv_aload_n hx hb dX1_takeRoad_33 rfl (lv_at hl 1 rfl) ?_
  refine va_get (D := E.1) (ci := 1) (v := .ref a_o_tokens) (C := RX1) (T := TX1) (N := 3) hx hb hts inX1 hown hK hP 0 rfl rfl 0 (by decide) (hts _ fl_X1_16) (fun _ h9 => h9) rfl dX1_takeRoad_34 ?_
  refine lv_aload_n hx hb dX1_takeRoad_37 rfl (lv_at hl 1 rfl) ?_
  refine va_get (D := E.1) (ci := 1) (v := .ref a_o_draft) (C := RX1) (T := TX1) (N := 3) hx hb hts inX1 hown hK hP 0 rfl rfl 1 (by decide) (hts _ fl_X1_10) (fun _ h9 => h9) rfl dX1_takeRoad_38 ?_
  refine va_get (D := E.1) (ci := 0) (v := .ref a_o_draft_names) (C := RX0) (T := TX0) (N := 11) hx hb hts inX0 hown hK hP 3 rfl rfl 6 (by decide) (hts _ fl_X1_112) (fun _ h9 => h9) rfl dX1_takeRoad_41 ?_
  refine lv_iconst (v := 1) hx hb dX1_takeRoad_44 (by decide) ?_
  obtain ⟨u45, hu45, hf⟩ := bd hf
  refine callVI (wn := (wd_X1_takeRoad E a_o a_o_tokens a_o_draft a_o_tokens_text a_o_draft_streets a_o_draft_names a_o_draft_extras a_o_draft_happenings a_o_draft_watchers a_o_draft_weeks a_o_draft_streets_roads a_o_draft_streets_takes a_o_draft_streets_hours a_o_draft_streets_roads_cells a_o_draft_names_codes a_o_draft_names_sorts a_o_draft_names_numbers o_rulesTold o_tokens_held o_tokens_length u29.2.1 u29.2.2.1 u29.2.2.2.1 u29.2.2.2.2.1 u29.2.2.2.2.2.1 u45.2.1 u45.2.2 o_tokens_text o_draft_wage o_draft_delay o_draft_odds o_draft_clock o_draft_hasWeeks o_draft_streets_corners o_draft_streets_roads_many o_draft_streets_roads_cells o_draft_streets_takes o_draft_names_many o_draft_names_codes o_draft_names_sorts o_draft_names_numbers)) (n1 := 12) (ct_X8_lookAtName l E F a_o_tokens a_o_tokens_text a_o_draft_names a_o_draft_names_codes a_o_draft_names_sorts a_o_draft_names_numbers o_tokens_held o_tokens_length u29.2.1 u29.2.2.1 u29.2.2.2.1 u29.2.2.2.2.1 u29.2.2.2.2.2.1 u29.2.2.2.2.2.2.1 u29.2.2.2.2.2.2.2 o_draft_names_many o_draft_names_codes o_draft_names_sorts o_draft_names_numbers (1 : Int32) u45 hu45) [1, 8, 9, 10, 11] cal_X8_lookAtName cav_X8_lookAtName lk_X1_139 cx hP hD hS hl dX1_takeRoad_45 rfl rfl rfl rfl (Nat.le_of_ble_eq_true rfl) ⟨Nat.le_of_ble_eq_true rfl, Nat.le_of_ble_eq_true rfl⟩ rfl (by decide +kernel) rfl [none, some 0, none, none, none, none, none, none, some 1, some 2, some 3, some 4] rfl (by decide +kernel) rfl (fun H locs hP hD hS => ?_)
  refine lv_istore_n (lv' := [(2, .int u45.1), (1, .int u29.1), (0, .ref a_o)]) hx hb dX1_takeRoad_48 rfl hl (by decide) rfl (fun ls hl => ?_)
  refine lv_aload_n hx hb dX1_takeRoad_49 rfl (lv_at hl 2 rfl) ?_
  refine va_get (D := E.1) (ci := 1) (v := .ref a_o_tokens) (C := RX1) (T := TX1) (N := 3) hx hb hts inX1 hown hK hP 0 rfl rfl 0 (by decide) (hts _ fl_X1_16) (fun _ h9 => h9) rfl dX1_takeRoad_50 ?_
  refine va_get (D := E.1) (ci := 8) (v := .int u45.2.1) (C := RX8) (T := TX8) (N := 10) hx hb hts inX8 hown hK hP 1 rfl rfl 8 (by decide) (hts _ fl_X1_49) (fun _ h9 => h9) rfl dX1_takeRoad_53 ?_
  refine lv_if_ne (tgt := 72) hx hb dX1_takeRoad_56 (by decide) (fun hc => ?_) (fun hc => ?_)
  · have hf := it_f hc hf
    exact hj72 _ _ _ _ _ _ _ _ _ _ _ _ _ _ _ hf hP hD hS (lv_sub hl [2, 1, 0] rfl)
  · have hf := it_t hc hf
    refine lv_iload_n hx hb dX1_takeRoad_59 rfl (lv_at hl 1 rfl) ?_
    refine lv_iload_n hx hb dX1_takeRoad_60 rfl (lv_at hl 0 rfl) ?_
    refine lv_icmp_ne (tgt := 72) hx hb dX1_takeRoad_61 (by decide) (fun hc => ?_) (fun hc => ?_)
    · have hf := it_f hc hf
      exact hj72 _ _ _ _ _ _ _ _ _ _ _ _ _ _ _ hf hP hD hS (lv_sub hl [2, 1, 0] rfl)
    · have hf := it_t hc hf
      refine lv_aload_n hx hb dX1_takeRoad_64 rfl (lv_at hl 2 rfl) ?_
      refine va_get (D := E.1) (ci := 1) (v := .ref a_o_tokens) (C := RX1) (T := TX1) (N := 3) hx hb hts inX1 hown hK hP 0 rfl rfl 0 (by decide) (hts _ fl_X1_16) (fun _ h9 => h9) rfl dX1_takeRoad_65 ?_
      refine lv_iconst (v := 5) hx hb dX1_takeRoad_68 (by decide) ?_
      obtain ⟨u69, hu69, hf⟩ := bd hf
      refine callVV (wn := (wd_X1_takeRoad E a_o a_o_tokens a_o_draft a_o_tokens_text a_o_draft_streets a_o_draft_names a_o_draft_extras a_o_draft_happenings a_o_draft_watchers a_o_draft_weeks a_o_draft_streets_roads a_o_draft_streets_takes a_o_draft_streets_hours a_o_draft_streets_roads_cells a_o_draft_names_codes a_o_draft_names_sorts a_o_draft_names_numbers o_rulesTold o_tokens_held o_tokens_length u29.2.1 u29.2.2.1 u29.2.2.2.1 u29.2.2.2.2.1 u29.2.2.2.2.2.1 u69.1 u69.2 o_tokens_text o_draft_wage o_draft_delay o_draft_odds o_draft_clock o_draft_hasWeeks o_draft_streets_corners o_draft_streets_roads_many o_draft_streets_roads_cells o_draft_streets_takes o_draft_names_many o_draft_names_codes o_draft_names_sorts o_draft_names_numbers)) (n1 := 12) (ct_X8_fail l E a_o_tokens a_o_tokens_text o_tokens_held o_tokens_length u29.2.1 u29.2.2.1 u29.2.2.2.1 u29.2.2.2.2.1 u29.2.2.2.2.2.1 u45.2.1 u45.2.2 (5 : Int32) u69 hu69) [1] cal_X8_fail cav_X8_fail lk_X1_92 cx hP hD hS hl dX1_takeRoad_69 rfl rfl rfl rfl (Nat.le_of_ble_eq_true rfl) ⟨Nat.le_of_ble_eq_true rfl, Nat.le_of_ble_eq_true rfl⟩ rfl (by decide +kernel) rfl [none, some 0, none, none, none, none, none, none, none, none, none, none] rfl (by decide +kernel) rfl (fun H locs hP hD hS => ?_)
      exact hj72 _ _ _ _ _ _ _ _ _ _ _ _ _ _ _ hf hP hD hS (lv_sub hl [2, 1, 0] rfl)
