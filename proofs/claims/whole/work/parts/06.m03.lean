def X12_extraRow (v0 : Int32) : Option (Int32) :=
  some (48 + (5 * v0))
abbrev wd_X12_extraRow (E : vE) : va_W := []
set_option maxHeartbeats 4000000 in
set_option maxRecDepth 100000 in
theorem ct_X12_extraRow (l : Launch) (E : vE) (v0 : Int32) (u : Int32) (hf : X12_extraRow v0 = some u) :
    CtI l yX12_extraRow cX12_extraRow 1 (some .int) 0 E [.int v0] (wd_X12_extraRow E) (wd_X12_extraRow E) u := by
  refine ctI (by decide) (Nat.le_of_ble_eq_true rfl) ?_
  intro p e s m below meth cd A ls aa QQ hq cx hP hD hS hl
  obtain ⟨⟨hx, hb, hml, hown, hts⟩, hr, hlocks, hK, hA, hX⟩ := id cx
  have hl : lv_has ls 1 [(0, .int v0)] := hl
  unfold X12_extraRow at hf
  refine lv_bipush (v := 48) hx hb dX12_extraRow_0 (by decide) ?_
  refine lv_iconst (v := 5) hx hb dX12_extraRow_2 (by decide) ?_
  refine lv_iload_n hx hb dX12_extraRow_3 rfl (lv_at hl 0 rfl) ?_
  refine lv_imul hx hb dX12_extraRow_4 ?_
  refine lv_iadd hx hb dX12_extraRow_5 ?_
  obtain rfl := Option.some.inj hf
  subst hq
  exact retI cx hP hD hS dX12_extraRow_6
def X12_anExtra (F : Nat) (o_size : Int32) (o_token : Int32) (o_from : Int32) (o_end : Int32) (o_value : Int32) (o_faultPlace : Int32) (o_faults : Int32) (o_at : Nat → Int32) (o_names : Nat → Int64) (o_text : Nat → Int32) : Option (Int32 × Int32 × Int32 × Int32 × Int32 × Int32 × Int32 × (Nat → Int32) × (Nat → Int64)) :=
  if ix 1982 3097 then
  (X12_extraRow (jat o_at 1982)).bind fun u11 =>
  (X12_newOne F o_size o_token o_from o_end o_value o_faultPlace o_faults o_at o_names o_text (2 : Int32) (7 : Int32) (8 : Int32)).bind fun u22 =>
  if u22.1 = 0 then
  some (0, u22.2.1, u22.2.2.1, u22.2.2.2.1, u22.2.2.2.2.1, u22.2.2.2.2.2.1, u22.2.2.2.2.2.2.1, o_at, u22.2.2.2.2.2.2.2)
  else
  (X12_wantWord F o_size u22.2.1 u22.2.2.1 u22.2.2.2.1 u22.2.2.2.2.1 u22.2.2.2.2.2.1 u22.2.2.2.2.2.2.1 o_text (10 : Int32)).bind fun u33 =>
  if u33.1 = 0 then
  some (0, u33.2.1, u33.2.2.1, u33.2.2.2.1, u33.2.2.2.2.1, u33.2.2.2.2.2.1, u33.2.2.2.2.2.2, o_at, u22.2.2.2.2.2.2.2)
  else
  (X12_newCornerTo F o_size u33.2.1 u33.2.2.1 u33.2.2.2.1 u33.2.2.2.2.1 u33.2.2.2.2.2.1 u33.2.2.2.2.2.2 o_at u22.2.2.2.2.2.2.2 o_text (1980 + u11)).bind fun u41 =>
  if u41.1 = 0 then
  some (0, u41.2.1, u41.2.2.1, u41.2.2.2.1, u41.2.2.2.2.1, u41.2.2.2.2.2.1, u41.2.2.2.2.2.2.1, u41.2.2.2.2.2.2.2, u22.2.2.2.2.2.2.2)
  else
  if ix 1982 3097 then
  if ix 1982 3097 then
  some (1, u41.2.1, u41.2.2.1, u41.2.2.2.1, u41.2.2.2.2.1, u41.2.2.2.2.2.1, u41.2.2.2.2.2.2.1, (jput u41.2.2.2.2.2.2.2 1982 ((jat u41.2.2.2.2.2.2.2 1982) + 1)), u22.2.2.2.2.2.2.2)
  else none
  else none
  else none
abbrev wd_X12_anExtra (E : vE) (a_o a_o_at a_o_names a_o_sort a_o_trayMany a_o_trays a_o_tape a_o_text a_o_opened a_o_farBy a_o_attendsBy a_o_coveredBy a_o_cameBy a_o_cameThen a_o_fallsBy a_o_loops a_o_ran a_o_told1 : Nat) (o_status : Int32) (o_top : Int64) (o_bottom : Int64) (o_taped : Int32) (o_size : Int32) (o_token : Int32) (o_from : Int32) (o_end : Int32) (o_value : Int32) (o_faultKind : Int32) (o_faultPlace : Int32) (o_faults : Int32) (o_seen : Int32) (o_toldParts : Int32) (o_depth : Int32) (o_counted : Int32) (o_becameThen : Int32) (o_firstCorner : Int32) (o_drawn : Int32) (o_ranSteps : Int32) (o_isTold : Int32) (o_marks : Int32) (o_at : Nat → Int32) (o_names : Nat → Int64) (o_text : Nat → Int32) : va_W := [(a_o, .inr (12, [.ref a_o_at, .ref a_o_names, .int o_status, .long o_top, .long o_bottom, .ref a_o_sort, .ref a_o_trayMany, .ref a_o_trays, .ref a_o_tape, .ref a_o_text, .int o_taped, .int o_size, .int o_token, .int o_from, .int o_end, .int o_value, .int o_faultKind, .int o_faultPlace, .int o_faults, .int o_seen, .int o_toldParts, .ref a_o_opened, .int o_depth, .int o_counted, .ref a_o_farBy, .int o_becameThen, .ref a_o_attendsBy, .ref a_o_coveredBy, .ref a_o_cameBy, .ref a_o_cameThen, .int o_firstCorner, .ref a_o_fallsBy, .int o_drawn, .int o_ranSteps, .ref a_o_loops, .ref a_o_ran, .ref a_o_told1, .int o_isTold, .int o_marks])), (a_o_at, .inl (E.2.1, 3097, .inl o_at)), (a_o_names, .inl (E.2.2.1, 162, .inr (.inl o_names))), (a_o_text, .inl (E.2.2.2.1, 900, .inl o_text))]
set_option maxHeartbeats 4000000 in
set_option maxRecDepth 100000 in
theorem ct_X12_anExtra (l : Launch) (E : vE) (F : Nat) (a_o a_o_at a_o_names a_o_sort a_o_trayMany a_o_trays a_o_tape a_o_text a_o_opened a_o_farBy a_o_attendsBy a_o_coveredBy a_o_cameBy a_o_cameThen a_o_fallsBy a_o_loops a_o_ran a_o_told1 : Nat) (o_status : Int32) (o_top : Int64) (o_bottom : Int64) (o_taped : Int32) (o_size : Int32) (o_token : Int32) (o_from : Int32) (o_end : Int32) (o_value : Int32) (o_faultKind : Int32) (o_faultPlace : Int32) (o_faults : Int32) (o_seen : Int32) (o_toldParts : Int32) (o_depth : Int32) (o_counted : Int32) (o_becameThen : Int32) (o_firstCorner : Int32) (o_drawn : Int32) (o_ranSteps : Int32) (o_isTold : Int32) (o_marks : Int32) (o_at : Nat → Int32) (o_names : Nat → Int64) (o_text : Nat → Int32) (u : Int32 × Int32 × Int32 × Int32 × Int32 × Int32 × Int32 × (Nat → Int32) × (Nat → Int64)) (hf : X12_anExtra F o_size o_token o_from o_end o_value o_faultPlace o_faults o_at o_names o_text = some u) :
    CtI l yX12_anExtra cX12_anExtra 2 (some .boolean) 8 E [.ref a_o] (wd_X12_anExtra E a_o a_o_at a_o_names a_o_sort a_o_trayMany a_o_trays a_o_tape a_o_text a_o_opened a_o_farBy a_o_attendsBy a_o_coveredBy a_o_cameBy a_o_cameThen a_o_fallsBy a_o_loops a_o_ran a_o_told1 o_status o_top o_bottom o_taped o_size o_token o_from o_end o_value o_faultKind o_faultPlace o_faults o_seen o_toldParts o_depth o_counted o_becameThen o_firstCorner o_drawn o_ranSteps o_isTold o_marks o_at o_names o_text) (wd_X12_anExtra E a_o a_o_at a_o_names a_o_sort a_o_trayMany a_o_trays a_o_tape a_o_text a_o_opened a_o_farBy a_o_attendsBy a_o_coveredBy a_o_cameBy a_o_cameThen a_o_fallsBy a_o_loops a_o_ran a_o_told1 o_status o_top o_bottom o_taped o_size u.2.1 u.2.2.1 u.2.2.2.1 u.2.2.2.2.1 o_faultKind u.2.2.2.2.2.1 u.2.2.2.2.2.2.1 o_seen o_toldParts o_depth o_counted o_becameThen o_firstCorner o_drawn o_ranSteps o_isTold o_marks u.2.2.2.2.2.2.2.1 u.2.2.2.2.2.2.2.2 o_text) u.1 := by
  refine ctI (by decide) (Nat.le_of_ble_eq_true rfl) ?_
  intro p e s m below meth cd A ls aa QQ hq cx hP hD hS hl
  obtain ⟨⟨hx, hb, hml, hown, hts⟩, hr, hlocks, hK, hA, hX⟩ := id cx
  have hl : lv_has ls 2 [(0, .ref a_o)] := hl
  unfold X12_anExtra at hf
  refine lv_sipush (v := 1980) hx hb dX12_anExtra_0 (by decide) ?_
  refine lv_aload_n hx hb dX12_anExtra_3 rfl (lv_at hl 0 rfl) ?_
  refine va_get (D := E.1) (ci := 12) (v := .ref a_o_at) (C := RX12) (T := TX12) (N := 39) hx hb hts inX12 hown hK hP 0 rfl rfl 0 (by decide) (hts _ fl_X12_7) (fun _ h9 => h9) rfl dX12_anExtra_4 ?_
  refine lv_sipush (v := 1982) hx hb dX12_anExtra_7 (by decide) ?_
  obtain ⟨hi, hf⟩ := ck hf
  refine r_iald 1 cx hP rfl hi dX12_anExtra_10 ?_
  obtain ⟨u11, hu11, hf⟩ := bd hf
  refine keepSI (ct_X12_extraRow l E (jat o_at 1982) u11 hu11) [] cal_X12_extraRow sta_X12_extraRow lk_X12_211 cx hP hD hS hl dX12_anExtra_11 rfl rfl (Nat.le_of_ble_eq_true rfl) ⟨Nat.le_of_ble_eq_true rfl, Nat.le_of_ble_eq_true rfl⟩ rfl (by decide) (fun H locs hP hS => ?_)
  refine lv_iadd hx hb dX12_anExtra_14 ?_
  refine lv_istore_n (lv' := [(1, .int (1980 + u11)), (0, .ref a_o)]) hx hb dX12_anExtra_15 rfl hl (by decide) rfl (fun ls hl => ?_)
  refine lv_aload_n hx hb dX12_anExtra_16 rfl (lv_at hl 1 rfl) ?_
  refine lv_iconst (v := 2) hx hb dX12_anExtra_17 (by decide) ?_
  refine lv_bipush (v := 7) hx hb dX12_anExtra_18 (by decide) ?_
  refine lv_bipush (v := 8) hx hb dX12_anExtra_20 (by decide) ?_
  obtain ⟨u22, hu22, hf⟩ := bd hf
  refine callVI (wn := (wd_X12_anExtra E a_o a_o_at a_o_names a_o_sort a_o_trayMany a_o_trays a_o_tape a_o_text a_o_opened a_o_farBy a_o_attendsBy a_o_coveredBy a_o_cameBy a_o_cameThen a_o_fallsBy a_o_loops a_o_ran a_o_told1 o_status o_top o_bottom o_taped o_size u22.2.1 u22.2.2.1 u22.2.2.2.1 u22.2.2.2.2.1 o_faultKind u22.2.2.2.2.2.1 u22.2.2.2.2.2.2.1 o_seen o_toldParts o_depth o_counted o_becameThen o_firstCorner o_drawn o_ranSteps o_isTold o_marks o_at u22.2.2.2.2.2.2.2 o_text)) (n1 := 4) (ct_X12_newOne l E F a_o a_o_at a_o_names a_o_sort a_o_trayMany a_o_trays a_o_tape a_o_text a_o_opened a_o_farBy a_o_attendsBy a_o_coveredBy a_o_cameBy a_o_cameThen a_o_fallsBy a_o_loops a_o_ran a_o_told1 o_status o_top o_bottom o_taped o_size o_token o_from o_end o_value o_faultKind o_faultPlace o_faults o_seen o_toldParts o_depth o_counted o_becameThen o_firstCorner o_drawn o_ranSteps o_isTold o_marks o_at o_names o_text (2 : Int32) (7 : Int32) (8 : Int32) u22 hu22) [0, 1, 2, 3] cal_X12_newOne cav_X12_newOne lk_X12_195 cx hP hD hS hl dX12_anExtra_22 rfl rfl rfl rfl (Nat.le_of_ble_eq_true rfl) ⟨Nat.le_of_ble_eq_true rfl, Nat.le_of_ble_eq_true rfl⟩ rfl (by decide +kernel) rfl [some 0, some 1, some 2, some 3] rfl (by decide +kernel) rfl (fun H locs hP hD hS => ?_)
  refine lv_if_eq (tgt := 47) hx hb dX12_anExtra_25 (by decide) (fun hc => ?_) (fun hc => ?_)
  · have hf := it_t hc hf
    refine lv_iconst (v := 0) hx hb dX12_anExtra_47 (by decide) ?_
    obtain rfl := Option.some.inj hf
    subst hq
    exact retZ cx rfl hP hD hS dX12_anExtra_48
  · have hf := it_f hc hf
    refine lv_aload_n hx hb dX12_anExtra_28 rfl (lv_at hl 1 rfl) ?_
    refine va_ldcS hx hb hown hX.2.2.2.2.1 dX12_anExtra_29 ?_
    refine lv_bipush (v := 10) hx hb dX12_anExtra_31 (by decide) ?_
    obtain ⟨u33, hu33, hf⟩ := bd hf
    refine callVI (wn := (wd_X12_anExtra E a_o a_o_at a_o_names a_o_sort a_o_trayMany a_o_trays a_o_tape a_o_text a_o_opened a_o_farBy a_o_attendsBy a_o_coveredBy a_o_cameBy a_o_cameThen a_o_fallsBy a_o_loops a_o_ran a_o_told1 o_status o_top o_bottom o_taped o_size u33.2.1 u33.2.2.1 u33.2.2.2.1 u33.2.2.2.2.1 o_faultKind u33.2.2.2.2.2.1 u33.2.2.2.2.2.2 o_seen o_toldParts o_depth o_counted o_becameThen o_firstCorner o_drawn o_ranSteps o_isTold o_marks o_at u22.2.2.2.2.2.2.2 o_text)) (n1 := 4) (ct_X12_wantWord l E F a_o a_o_at a_o_names a_o_sort a_o_trayMany a_o_trays a_o_tape a_o_text a_o_opened a_o_farBy a_o_attendsBy a_o_coveredBy a_o_cameBy a_o_cameThen a_o_fallsBy a_o_loops a_o_ran a_o_told1 o_status o_top o_bottom o_taped o_size u22.2.1 u22.2.2.1 u22.2.2.2.1 u22.2.2.2.2.1 o_faultKind u22.2.2.2.2.2.1 u22.2.2.2.2.2.2.1 o_seen o_toldParts o_depth o_counted o_becameThen o_firstCorner o_drawn o_ranSteps o_isTold o_marks o_text (10 : Int32) u33 hu33) [0, 3] cal_X12_wantWord cav_X12_wantWord lk_X12_204 cx hP hD hS hl dX12_anExtra_33 rfl rfl rfl rfl (Nat.le_of_ble_eq_true rfl) ⟨Nat.le_of_ble_eq_true rfl, Nat.le_of_ble_eq_true rfl⟩ rfl (by decide +kernel) rfl [some 0, none, none, some 1] rfl (by decide +kernel) rfl (fun H locs hP hD hS => ?_)
    refine lv_if_eq (tgt := 47) hx hb dX12_anExtra_36 (by decide) (fun hc => ?_) (fun hc => ?_)
    · have hf := it_t hc hf
      refine lv_iconst (v := 0) hx hb dX12_anExtra_47 (by decide) ?_
      obtain rfl := Option.some.inj hf
      subst hq
      exact retZ cx rfl hP hD hS dX12_anExtra_48
    · have hf := it_f hc hf
      refine lv_aload_n hx hb dX12_anExtra_39 rfl (lv_at hl 1 rfl) ?_
      refine lv_iload_n hx hb dX12_anExtra_40 rfl (lv_at hl 0 rfl) ?_
      obtain ⟨u41, hu41, hf⟩ := bd hf
      refine callVI (wn := (wd_X12_anExtra E a_o a_o_at a_o_names a_o_sort a_o_trayMany a_o_trays a_o_tape a_o_text a_o_opened a_o_farBy a_o_attendsBy a_o_coveredBy a_o_cameBy a_o_cameThen a_o_fallsBy a_o_loops a_o_ran a_o_told1 o_status o_top o_bottom o_taped o_size u41.2.1 u41.2.2.1 u41.2.2.2.1 u41.2.2.2.2.1 o_faultKind u41.2.2.2.2.2.1 u41.2.2.2.2.2.2.1 o_seen o_toldParts o_depth o_counted o_becameThen o_firstCorner o_drawn o_ranSteps o_isTold o_marks u41.2.2.2.2.2.2.2 u22.2.2.2.2.2.2.2 o_text)) (n1 := 4) (ct_X12_newCornerTo l E F a_o a_o_at a_o_names a_o_sort a_o_trayMany a_o_trays a_o_tape a_o_text a_o_opened a_o_farBy a_o_attendsBy a_o_coveredBy a_o_cameBy a_o_cameThen a_o_fallsBy a_o_loops a_o_ran a_o_told1 o_status o_top o_bottom o_taped o_size u33.2.1 u33.2.2.1 u33.2.2.2.1 u33.2.2.2.2.1 o_faultKind u33.2.2.2.2.2.1 u33.2.2.2.2.2.2 o_seen o_toldParts o_depth o_counted o_becameThen o_firstCorner o_drawn o_ranSteps o_isTold o_marks o_at u22.2.2.2.2.2.2.2 o_text (1980 + u11) u41 hu41) [0, 1, 2, 3] cal_X12_newCornerTo cav_X12_newCornerTo lk_X12_201 cx hP hD hS hl dX12_anExtra_41 rfl rfl rfl rfl (Nat.le_of_ble_eq_true rfl) ⟨Nat.le_of_ble_eq_true rfl, Nat.le_of_ble_eq_true rfl⟩ rfl (by decide +kernel) rfl [some 0, some 1, some 2, some 3] rfl (by decide +kernel) rfl (fun H locs hP hD hS => ?_)
      refine lv_if_ne (tgt := 49) hx hb dX12_anExtra_44 (by decide) (fun hc => ?_) (fun hc => ?_)
      · have hf := it_f hc hf
        refine lv_aload_n hx hb dX12_anExtra_49 rfl (lv_at hl 1 rfl) ?_
        refine va_get (D := E.1) (ci := 12) (v := .ref a_o_at) (C := RX12) (T := TX12) (N := 39) hx hb hts inX12 hown hK hP 0 rfl rfl 0 (by decide) (hts _ fl_X12_7) (fun _ h9 => h9) rfl dX12_anExtra_50 ?_
        refine lv_sipush (v := 1982) hx hb dX12_anExtra_53 (by decide) ?_
        refine lv_dup2_11 hx hb dX12_anExtra_56 rfl rfl ?_
        obtain ⟨hi, hf⟩ := ck hf
        refine r_iald 1 cx hP rfl hi dX12_anExtra_57 ?_
        refine lv_iconst (v := 1) hx hb dX12_anExtra_58 (by decide) ?_
        refine lv_iadd hx hb dX12_anExtra_59 ?_
        obtain ⟨hi, hf⟩ := ck hf
        refine r_iast 1 cx hP hD hS rfl hi dX12_anExtra_60 (fun H locs hP hD hS => ?_)
        have hP : va_P E.1 vwCl (wd_X12_anExtra E a_o a_o_at a_o_names a_o_sort a_o_trayMany a_o_trays a_o_tape a_o_text a_o_opened a_o_farBy a_o_attendsBy a_o_coveredBy a_o_cameBy a_o_cameThen a_o_fallsBy a_o_loops a_o_ran a_o_told1 o_status o_top o_bottom o_taped o_size u41.2.1 u41.2.2.1 u41.2.2.2.1 u41.2.2.2.2.1 o_faultKind u41.2.2.2.2.2.1 u41.2.2.2.2.2.2.1 o_seen o_toldParts o_depth o_counted o_becameThen o_firstCorner o_drawn o_ranSteps o_isTold o_marks (jput u41.2.2.2.2.2.2.2 1982 ((jat u41.2.2.2.2.2.2.2 1982) + 1)) u22.2.2.2.2.2.2.2 o_text) H := hP
        have hD : va_D A (wd_X12_anExtra E a_o a_o_at a_o_names a_o_sort a_o_trayMany a_o_trays a_o_tape a_o_text a_o_opened a_o_farBy a_o_attendsBy a_o_coveredBy a_o_cameBy a_o_cameThen a_o_fallsBy a_o_loops a_o_ran a_o_told1 o_status o_top o_bottom o_taped o_size u41.2.1 u41.2.2.1 u41.2.2.2.1 u41.2.2.2.2.1 o_faultKind u41.2.2.2.2.2.1 u41.2.2.2.2.2.2.1 o_seen o_toldParts o_depth o_counted o_becameThen o_firstCorner o_drawn o_ranSteps o_isTold o_marks (jput u41.2.2.2.2.2.2.2 1982 ((jat u41.2.2.2.2.2.2.2 1982) + 1)) u22.2.2.2.2.2.2.2 o_text) := hD
        refine lv_iconst (v := 1) hx hb dX12_anExtra_61 (by decide) ?_
        obtain rfl := Option.some.inj hf
        subst hq
        exact retZ cx rfl hP hD hS dX12_anExtra_62
      · have hf := it_t hc hf
        refine lv_iconst (v := 0) hx hb dX12_anExtra_47 (by decide) ?_
        obtain rfl := Option.some.inj hf
        subst hq
        exact retZ cx rfl hP hD hS dX12_anExtra_48
def X12_happeningRow (v0 : Int32) : Option (Int32) :=
  some (83 + (4 * v0))
abbrev wd_X12_happeningRow (E : vE) : va_W := []
set_option maxHeartbeats 4000000 in
set_option maxRecDepth 100000 in
theorem ct_X12_happeningRow (l : Launch) (E : vE) (v0 : Int32) (u : Int32) (hf : X12_happeningRow v0 = some u) :
    CtI l yX12_happeningRow cX12_happeningRow 1 (some .int) 0 E [.int v0] (wd_X12_happeningRow E) (wd_X12_happeningRow E) u := by
  refine ctI (by decide) (Nat.le_of_ble_eq_true rfl) ?_
  intro p e s m below meth cd A ls aa QQ hq cx hP hD hS hl
  obtain ⟨⟨hx, hb, hml, hown, hts⟩, hr, hlocks, hK, hA, hX⟩ := id cx
  have hl : lv_has ls 1 [(0, .int v0)] := hl
  unfold X12_happeningRow at hf
  refine lv_bipush (v := 83) hx hb dX12_happeningRow_0 (by decide) ?_
  refine lv_iconst (v := 4) hx hb dX12_happeningRow_2 (by decide) ?_
  refine lv_iload_n hx hb dX12_happeningRow_3 rfl (lv_at hl 0 rfl) ?_
  refine lv_imul hx hb dX12_happeningRow_4 ?_
  refine lv_iadd hx hb dX12_happeningRow_5 ?_
  obtain rfl := Option.some.inj hf
  subst hq
  exact retI cx hP hD hS dX12_happeningRow_6
def X12_aHappening (F : Nat) (o_size : Int32) (o_token : Int32) (o_from : Int32) (o_end : Int32) (o_value : Int32) (o_faultPlace : Int32) (o_faults : Int32) (o_at : Nat → Int32) (o_names : Nat → Int64) (o_text : Nat → Int32) : Option (Int32 × Int32 × Int32 × Int32 × Int32 × Int32 × Int32 × (Nat → Int32) × (Nat → Int64)) :=
  if ix 1983 3097 then
  (X12_happeningRow (jat o_at 1983)).bind fun u11 =>
  (X12_newOne F o_size o_token o_from o_end o_value o_faultPlace o_faults o_at o_names o_text (3 : Int32) (8 : Int32) (15 : Int32)).bind fun u22 =>
  if u22.1 = 0 then
  some (0, u22.2.1, u22.2.2.1, u22.2.2.2.1, u22.2.2.2.2.1, u22.2.2.2.2.2.1, u22.2.2.2.2.2.2.1, o_at, u22.2.2.2.2.2.2.2)
  else
  (X12_wantWord F o_size u22.2.1 u22.2.2.1 u22.2.2.2.1 u22.2.2.2.2.1 u22.2.2.2.2.2.1 u22.2.2.2.2.2.2.1 o_text (10 : Int32)).bind fun u33 =>
  if u33.1 = 0 then
  some (0, u33.2.1, u33.2.2.1, u33.2.2.2.1, u33.2.2.2.2.1, u33.2.2.2.2.2.1, u33.2.2.2.2.2.2, o_at, u22.2.2.2.2.2.2.2)
  else
  (X12_newCornerTo F o_size u33.2.1 u33.2.2.1 u33.2.2.2.1 u33.2.2.2.2.1 u33.2.2.2.2.2.1 u33.2.2.2.2.2.2 o_at u22.2.2.2.2.2.2.2 o_text (1980 + u11)).bind fun u41 =>
  if u41.1 = 0 then
  some (0, u41.2.1, u41.2.2.1, u41.2.2.2.1, u41.2.2.2.2.1, u41.2.2.2.2.2.1, u41.2.2.2.2.2.2.1, u41.2.2.2.2.2.2.2, u22.2.2.2.2.2.2.2)
  else
  (X12_wantWord F o_size u41.2.1 u41.2.2.1 u41.2.2.2.1 u41.2.2.2.2.1 u41.2.2.2.2.2.1 u41.2.2.2.2.2.2.1 o_text (11 : Int32)).bind fun u54 =>
  if u54.1 = 0 then
  some (0, u54.2.1, u54.2.2.1, u54.2.2.2.1, u54.2.2.2.2.1, u54.2.2.2.2.2.1, u54.2.2.2.2.2.2, u41.2.2.2.2.2.2.2, u22.2.2.2.2.2.2.2)
  else
  (X12_number F o_size u54.2.1 u54.2.2.1 u54.2.2.2.1 u54.2.2.2.2.1 u54.2.2.2.2.2.1 u54.2.2.2.2.2.2 u41.2.2.2.2.2.2.2 o_text ((1980 + u11) + 1) (0 : Int32) (999 : Int32)).bind fun u68 =>
  if u68.1 = 0 then
  some (0, u68.2.1, u68.2.2.1, u68.2.2.2.1, u68.2.2.2.2.1, u68.2.2.2.2.2.1, u68.2.2.2.2.2.2.1, u68.2.2.2.2.2.2.2, u22.2.2.2.2.2.2.2)
  else
  (X12_wantWord F o_size u68.2.1 u68.2.2.1 u68.2.2.2.1 u68.2.2.2.2.1 u68.2.2.2.2.2.1 u68.2.2.2.2.2.2.1 o_text (12 : Int32)).bind fun u79 =>
  if u79.1 = 0 then
  some (0, u79.2.1, u79.2.2.1, u79.2.2.2.1, u79.2.2.2.2.1, u79.2.2.2.2.2.1, u79.2.2.2.2.2.2, u68.2.2.2.2.2.2.2, u22.2.2.2.2.2.2.2)
  else
  (X12_number F o_size u79.2.1 u79.2.2.1 u79.2.2.2.1 u79.2.2.2.2.1 u79.2.2.2.2.2.1 u79.2.2.2.2.2.2 u68.2.2.2.2.2.2.2 o_text ((1980 + u11) + 2) (1 : Int32) (4 : Int32)).bind fun u91 =>
  if u91.1 = 0 then
  some (0, u91.2.1, u91.2.2.1, u91.2.2.2.1, u91.2.2.2.2.1, u91.2.2.2.2.2.1, u91.2.2.2.2.2.2.1, u91.2.2.2.2.2.2.2, u22.2.2.2.2.2.2.2)
  else
  if ix 1983 3097 then
  if ix 1983 3097 then
  some (1, u91.2.1, u91.2.2.1, u91.2.2.2.1, u91.2.2.2.2.1, u91.2.2.2.2.2.1, u91.2.2.2.2.2.2.1, (jput u91.2.2.2.2.2.2.2 1983 ((jat u91.2.2.2.2.2.2.2 1983) + 1)), u22.2.2.2.2.2.2.2)
  else none
  else none
  else none
abbrev wd_X12_aHappening (E : vE) (a_o a_o_at a_o_names a_o_sort a_o_trayMany a_o_trays a_o_tape a_o_text a_o_opened a_o_farBy a_o_attendsBy a_o_coveredBy a_o_cameBy a_o_cameThen a_o_fallsBy a_o_loops a_o_ran a_o_told1 : Nat) (o_status : Int32) (o_top : Int64) (o_bottom : Int64) (o_taped : Int32) (o_size : Int32) (o_token : Int32) (o_from : Int32) (o_end : Int32) (o_value : Int32) (o_faultKind : Int32) (o_faultPlace : Int32) (o_faults : Int32) (o_seen : Int32) (o_toldParts : Int32) (o_depth : Int32) (o_counted : Int32) (o_becameThen : Int32) (o_firstCorner : Int32) (o_drawn : Int32) (o_ranSteps : Int32) (o_isTold : Int32) (o_marks : Int32) (o_at : Nat → Int32) (o_names : Nat → Int64) (o_text : Nat → Int32) : va_W := [(a_o, .inr (12, [.ref a_o_at, .ref a_o_names, .int o_status, .long o_top, .long o_bottom, .ref a_o_sort, .ref a_o_trayMany, .ref a_o_trays, .ref a_o_tape, .ref a_o_text, .int o_taped, .int o_size, .int o_token, .int o_from, .int o_end, .int o_value, .int o_faultKind, .int o_faultPlace, .int o_faults, .int o_seen, .int o_toldParts, .ref a_o_opened, .int o_depth, .int o_counted, .ref a_o_farBy, .int o_becameThen, .ref a_o_attendsBy, .ref a_o_coveredBy, .ref a_o_cameBy, .ref a_o_cameThen, .int o_firstCorner, .ref a_o_fallsBy, .int o_drawn, .int o_ranSteps, .ref a_o_loops, .ref a_o_ran, .ref a_o_told1, .int o_isTold, .int o_marks])), (a_o_at, .inl (E.2.1, 3097, .inl o_at)), (a_o_names, .inl (E.2.2.1, 162, .inr (.inl o_names))), (a_o_text, .inl (E.2.2.2.1, 900, .inl o_text))]
set_option maxHeartbeats 4000000 in
set_option maxRecDepth 100000 in
theorem ct_X12_aHappening (l : Launch) (E : vE) (F : Nat) (a_o a_o_at a_o_names a_o_sort a_o_trayMany a_o_trays a_o_tape a_o_text a_o_opened a_o_farBy a_o_attendsBy a_o_coveredBy a_o_cameBy a_o_cameThen a_o_fallsBy a_o_loops a_o_ran a_o_told1 : Nat) (o_status : Int32) (o_top : Int64) (o_bottom : Int64) (o_taped : Int32) (o_size : Int32) (o_token : Int32) (o_from : Int32) (o_end : Int32) (o_value : Int32) (o_faultKind : Int32) (o_faultPlace : Int32) (o_faults : Int32) (o_seen : Int32) (o_toldParts : Int32) (o_depth : Int32) (o_counted : Int32) (o_becameThen : Int32) (o_firstCorner : Int32) (o_drawn : Int32) (o_ranSteps : Int32) (o_isTold : Int32) (o_marks : Int32) (o_at : Nat → Int32) (o_names : Nat → Int64) (o_text : Nat → Int32) (u : Int32 × Int32 × Int32 × Int32 × Int32 × Int32 × Int32 × (Nat → Int32) × (Nat → Int64)) (hf : X12_aHappening F o_size o_token o_from o_end o_value o_faultPlace o_faults o_at o_names o_text = some u) :
    CtI l yX12_aHappening cX12_aHappening 2 (some .boolean) 8 E [.ref a_o] (wd_X12_aHappening E a_o a_o_at a_o_names a_o_sort a_o_trayMany a_o_trays a_o_tape a_o_text a_o_opened a_o_farBy a_o_attendsBy a_o_coveredBy a_o_cameBy a_o_cameThen a_o_fallsBy a_o_loops a_o_ran a_o_told1 o_status o_top o_bottom o_taped o_size o_token o_from o_end o_value o_faultKind o_faultPlace o_faults o_seen o_toldParts o_depth o_counted o_becameThen o_firstCorner o_drawn o_ranSteps o_isTold o_marks o_at o_names o_text) (wd_X12_aHappening E a_o a_o_at a_o_names a_o_sort a_o_trayMany a_o_trays a_o_tape a_o_text a_o_opened a_o_farBy a_o_attendsBy a_o_coveredBy a_o_cameBy a_o_cameThen a_o_fallsBy a_o_loops a_o_ran a_o_told1 o_status o_top o_bottom o_taped o_size u.2.1 u.2.2.1 u.2.2.2.1 u.2.2.2.2.1 o_faultKind u.2.2.2.2.2.1 u.2.2.2.2.2.2.1 o_seen o_toldParts o_depth o_counted o_becameThen o_firstCorner o_drawn o_ranSteps o_isTold o_marks u.2.2.2.2.2.2.2.1 u.2.2.2.2.2.2.2.2 o_text) u.1 := by
  refine ctI (by decide) (Nat.le_of_ble_eq_true rfl) ?_
  intro p e s m below meth cd A ls aa QQ hq cx hP hD hS hl
  obtain ⟨⟨hx, hb, hml, hown, hts⟩, hr, hlocks, hK, hA, hX⟩ := id cx
  have hl : lv_has ls 2 [(0, .ref a_o)] := hl
  unfold X12_aHappening at hf
  refine lv_sipush (v := 1980) hx hb dX12_aHappening_0 (by decide) ?_
  refine lv_aload_n hx hb dX12_aHappening_3 rfl (lv_at hl 0 rfl) ?_
  refine va_get (D := E.1) (ci := 12) (v := .ref a_o_at) (C := RX12) (T := TX12) (N := 39) hx hb hts inX12 hown hK hP 0 rfl rfl 0 (by decide) (hts _ fl_X12_7) (fun _ h9 => h9) rfl dX12_aHappening_4 ?_
  refine lv_sipush (v := 1983) hx hb dX12_aHappening_7 (by decide) ?_
  obtain ⟨hi, hf⟩ := ck hf
  refine r_iald 1 cx hP rfl hi dX12_aHappening_10 ?_
  obtain ⟨u11, hu11, hf⟩ := bd hf
  refine keepSI (ct_X12_happeningRow l E (jat o_at 1983) u11 hu11) [] cal_X12_happeningRow sta_X12_happeningRow lk_X12_214 cx hP hD hS hl dX12_aHappening_11 rfl rfl (Nat.le_of_ble_eq_true rfl) ⟨Nat.le_of_ble_eq_true rfl, Nat.le_of_ble_eq_true rfl⟩ rfl (by decide) (fun H locs hP hS => ?_)
  refine lv_iadd hx hb dX12_aHappening_14 ?_
  refine lv_istore_n (lv' := [(1, .int (1980 + u11)), (0, .ref a_o)]) hx hb dX12_aHappening_15 rfl hl (by decide) rfl (fun ls hl => ?_)
  refine lv_aload_n hx hb dX12_aHappening_16 rfl (lv_at hl 1 rfl) ?_
  refine lv_iconst (v := 3) hx hb dX12_aHappening_17 (by decide) ?_
  refine lv_bipush (v := 8) hx hb dX12_aHappening_18 (by decide) ?_
  refine lv_bipush (v := 15) hx hb dX12_aHappening_20 (by decide) ?_
  obtain ⟨u22, hu22, hf⟩ := bd hf
  refine callVI (wn := (wd_X12_aHappening E a_o a_o_at a_o_names a_o_sort a_o_trayMany a_o_trays a_o_tape a_o_text a_o_opened a_o_farBy a_o_attendsBy a_o_coveredBy a_o_cameBy a_o_cameThen a_o_fallsBy a_o_loops a_o_ran a_o_told1 o_status o_top o_bottom o_taped o_size u22.2.1 u22.2.2.1 u22.2.2.2.1 u22.2.2.2.2.1 o_faultKind u22.2.2.2.2.2.1 u22.2.2.2.2.2.2.1 o_seen o_toldParts o_depth o_counted o_becameThen o_firstCorner o_drawn o_ranSteps o_isTold o_marks o_at u22.2.2.2.2.2.2.2 o_text)) (n1 := 4) (ct_X12_newOne l E F a_o a_o_at a_o_names a_o_sort a_o_trayMany a_o_trays a_o_tape a_o_text a_o_opened a_o_farBy a_o_attendsBy a_o_coveredBy a_o_cameBy a_o_cameThen a_o_fallsBy a_o_loops a_o_ran a_o_told1 o_status o_top o_bottom o_taped o_size o_token o_from o_end o_value o_faultKind o_faultPlace o_faults o_seen o_toldParts o_depth o_counted o_becameThen o_firstCorner o_drawn o_ranSteps o_isTold o_marks o_at o_names o_text (3 : Int32) (8 : Int32) (15 : Int32) u22 hu22) [0, 1, 2, 3] cal_X12_newOne cav_X12_newOne lk_X12_195 cx hP hD hS hl dX12_aHappening_22 rfl rfl rfl rfl (Nat.le_of_ble_eq_true rfl) ⟨Nat.le_of_ble_eq_true rfl, Nat.le_of_ble_eq_true rfl⟩ rfl (by decide +kernel) rfl [some 0, some 1, some 2, some 3] rfl (by decide +kernel) rfl (fun H locs hP hD hS => ?_)
  refine lv_if_eq (tgt := 47) hx hb dX12_aHappening_25 (by decide) (fun hc => ?_) (fun hc => ?_)
  · have hf := it_t hc hf
    refine lv_iconst (v := 0) hx hb dX12_aHappening_47 (by decide) ?_
    obtain rfl := Option.some.inj hf
    subst hq
    exact retZ cx rfl hP hD hS dX12_aHappening_48
  · have hf := it_f hc hf
    refine lv_aload_n hx hb dX12_aHappening_28 rfl (lv_at hl 1 rfl) ?_
    refine va_ldcS hx hb hown hX.2.2.2.2.1 dX12_aHappening_29 ?_
    refine lv_bipush (v := 10) hx hb dX12_aHappening_31 (by decide) ?_
    obtain ⟨u33, hu33, hf⟩ := bd hf
    refine callVI (wn := (wd_X12_aHappening E a_o a_o_at a_o_names a_o_sort a_o_trayMany a_o_trays a_o_tape a_o_text a_o_opened a_o_farBy a_o_attendsBy a_o_coveredBy a_o_cameBy a_o_cameThen a_o_fallsBy a_o_loops a_o_ran a_o_told1 o_status o_top o_bottom o_taped o_size u33.2.1 u33.2.2.1 u33.2.2.2.1 u33.2.2.2.2.1 o_faultKind u33.2.2.2.2.2.1 u33.2.2.2.2.2.2 o_seen o_toldParts o_depth o_counted o_becameThen o_firstCorner o_drawn o_ranSteps o_isTold o_marks o_at u22.2.2.2.2.2.2.2 o_text)) (n1 := 4) (ct_X12_wantWord l E F a_o a_o_at a_o_names a_o_sort a_o_trayMany a_o_trays a_o_tape a_o_text a_o_opened a_o_farBy a_o_attendsBy a_o_coveredBy a_o_cameBy a_o_cameThen a_o_fallsBy a_o_loops a_o_ran a_o_told1 o_status o_top o_bottom o_taped o_size u22.2.1 u22.2.2.1 u22.2.2.2.1 u22.2.2.2.2.1 o_faultKind u22.2.2.2.2.2.1 u22.2.2.2.2.2.2.1 o_seen o_toldParts o_depth o_counted o_becameThen o_firstCorner o_drawn o_ranSteps o_isTold o_marks o_text (10 : Int32) u33 hu33) [0, 3] cal_X12_wantWord cav_X12_wantWord lk_X12_204 cx hP hD hS hl dX12_aHappening_33 rfl rfl rfl rfl (Nat.le_of_ble_eq_true rfl) ⟨Nat.le_of_ble_eq_true rfl, Nat.le_of_ble_eq_true rfl⟩ rfl (by decide +kernel) rfl [some 0, none, none, some 1] rfl (by decide +kernel) rfl (fun H locs hP hD hS => ?_)
    refine lv_if_eq (tgt := 47) hx hb dX12_aHappening_36 (by decide) (fun hc => ?_) (fun hc => ?_)
    · have hf := it_t hc hf
      refine lv_iconst (v := 0) hx hb dX12_aHappening_47 (by decide) ?_
      obtain rfl := Option.some.inj hf
      subst hq
      exact retZ cx rfl hP hD hS dX12_aHappening_48
    · have hf := it_f hc hf
      refine lv_aload_n hx hb dX12_aHappening_39 rfl (lv_at hl 1 rfl) ?_
      refine lv_iload_n hx hb dX12_aHappening_40 rfl (lv_at hl 0 rfl) ?_
      obtain ⟨u41, hu41, hf⟩ := bd hf
      refine callVI (wn := (wd_X12_aHappening E a_o a_o_at a_o_names a_o_sort a_o_trayMany a_o_trays a_o_tape a_o_text a_o_opened a_o_farBy a_o_attendsBy a_o_coveredBy a_o_cameBy a_o_cameThen a_o_fallsBy a_o_loops a_o_ran a_o_told1 o_status o_top o_bottom o_taped o_size u41.2.1 u41.2.2.1 u41.2.2.2.1 u41.2.2.2.2.1 o_faultKind u41.2.2.2.2.2.1 u41.2.2.2.2.2.2.1 o_seen o_toldParts o_depth o_counted o_becameThen o_firstCorner o_drawn o_ranSteps o_isTold o_marks u41.2.2.2.2.2.2.2 u22.2.2.2.2.2.2.2 o_text)) (n1 := 4) (ct_X12_newCornerTo l E F a_o a_o_at a_o_names a_o_sort a_o_trayMany a_o_trays a_o_tape a_o_text a_o_opened a_o_farBy a_o_attendsBy a_o_coveredBy a_o_cameBy a_o_cameThen a_o_fallsBy a_o_loops a_o_ran a_o_told1 o_status o_top o_bottom o_taped o_size u33.2.1 u33.2.2.1 u33.2.2.2.1 u33.2.2.2.2.1 o_faultKind u33.2.2.2.2.2.1 u33.2.2.2.2.2.2 o_seen o_toldParts o_depth o_counted o_becameThen o_firstCorner o_drawn o_ranSteps o_isTold o_marks o_at u22.2.2.2.2.2.2.2 o_text (1980 + u11) u41 hu41) [0, 1, 2, 3] cal_X12_newCornerTo cav_X12_newCornerTo lk_X12_201 cx hP hD hS hl dX12_aHappening_41 rfl rfl rfl rfl (Nat.le_of_ble_eq_true rfl) ⟨Nat.le_of_ble_eq_true rfl, Nat.le_of_ble_eq_true rfl⟩ rfl (by decide +kernel) rfl [some 0, some 1, some 2, some 3] rfl (by decide +kernel) rfl (fun H locs hP hD hS => ?_)
      refine lv_if_ne (tgt := 49) hx hb dX12_aHappening_44 (by decide) (fun hc => ?_) (fun hc => ?_)
      · have hf := it_f hc hf
        refine lv_aload_n hx hb dX12_aHappening_49 rfl (lv_at hl 1 rfl) ?_
        refine va_ldcS hx hb hown hX.2.2.2.2.1 dX12_aHappening_50 ?_
        refine lv_bipush (v := 11) hx hb dX12_aHappening_52 (by decide) ?_
        obtain ⟨u54, hu54, hf⟩ := bd hf
        refine callVI (wn := (wd_X12_aHappening E a_o a_o_at a_o_names a_o_sort a_o_trayMany a_o_trays a_o_tape a_o_text a_o_opened a_o_farBy a_o_attendsBy a_o_coveredBy a_o_cameBy a_o_cameThen a_o_fallsBy a_o_loops a_o_ran a_o_told1 o_status o_top o_bottom o_taped o_size u54.2.1 u54.2.2.1 u54.2.2.2.1 u54.2.2.2.2.1 o_faultKind u54.2.2.2.2.2.1 u54.2.2.2.2.2.2 o_seen o_toldParts o_depth o_counted o_becameThen o_firstCorner o_drawn o_ranSteps o_isTold o_marks u41.2.2.2.2.2.2.2 u22.2.2.2.2.2.2.2 o_text)) (n1 := 4) (ct_X12_wantWord l E F a_o a_o_at a_o_names a_o_sort a_o_trayMany a_o_trays a_o_tape a_o_text a_o_opened a_o_farBy a_o_attendsBy a_o_coveredBy a_o_cameBy a_o_cameThen a_o_fallsBy a_o_loops a_o_ran a_o_told1 o_status o_top o_bottom o_taped o_size u41.2.1 u41.2.2.1 u41.2.2.2.1 u41.2.2.2.2.1 o_faultKind u41.2.2.2.2.2.1 u41.2.2.2.2.2.2.1 o_seen o_toldParts o_depth o_counted o_becameThen o_firstCorner o_drawn o_ranSteps o_isTold o_marks o_text (11 : Int32) u54 hu54) [0, 3] cal_X12_wantWord cav_X12_wantWord lk_X12_204 cx hP hD hS hl dX12_aHappening_54 rfl rfl rfl rfl (Nat.le_of_ble_eq_true rfl) ⟨Nat.le_of_ble_eq_true rfl, Nat.le_of_ble_eq_true rfl⟩ rfl (by decide +kernel) rfl [some 0, none, none, some 1] rfl (by decide +kernel) rfl (fun H locs hP hD hS => ?_)
        refine lv_if_eq (tgt := 97) hx hb dX12_aHappening_57 (by decide) (fun hc => ?_) (fun hc => ?_)
        · have hf := it_t hc hf
          refine lv_iconst (v := 0) hx hb dX12_aHappening_97 (by decide) ?_
          obtain rfl := Option.some.inj hf
          subst hq
          exact retZ cx rfl hP hD hS dX12_aHappening_98
        · have hf := it_f hc hf
          refine lv_aload_n hx hb dX12_aHappening_60 rfl (lv_at hl 1 rfl) ?_
          refine lv_iload_n hx hb dX12_aHappening_61 rfl (lv_at hl 0 rfl) ?_
          refine lv_iconst (v := 1) hx hb dX12_aHappening_62 (by decide) ?_
          refine lv_iadd hx hb dX12_aHappening_63 ?_
          refine lv_iconst (v := 0) hx hb dX12_aHappening_64 (by decide) ?_
          refine lv_sipush (v := 999) hx hb dX12_aHappening_65 (by decide) ?_
          obtain ⟨u68, hu68, hf⟩ := bd hf
          refine callVI (wn := (wd_X12_aHappening E a_o a_o_at a_o_names a_o_sort a_o_trayMany a_o_trays a_o_tape a_o_text a_o_opened a_o_farBy a_o_attendsBy a_o_coveredBy a_o_cameBy a_o_cameThen a_o_fallsBy a_o_loops a_o_ran a_o_told1 o_status o_top o_bottom o_taped o_size u68.2.1 u68.2.2.1 u68.2.2.2.1 u68.2.2.2.2.1 o_faultKind u68.2.2.2.2.2.1 u68.2.2.2.2.2.2.1 o_seen o_toldParts o_depth o_counted o_becameThen o_firstCorner o_drawn o_ranSteps o_isTold o_marks u68.2.2.2.2.2.2.2 u22.2.2.2.2.2.2.2 o_text)) (n1 := 4) (ct_X12_number l E F a_o a_o_at a_o_names a_o_sort a_o_trayMany a_o_trays a_o_tape a_o_text a_o_opened a_o_farBy a_o_attendsBy a_o_coveredBy a_o_cameBy a_o_cameThen a_o_fallsBy a_o_loops a_o_ran a_o_told1 o_status o_top o_bottom o_taped o_size u54.2.1 u54.2.2.1 u54.2.2.2.1 u54.2.2.2.2.1 o_faultKind u54.2.2.2.2.2.1 u54.2.2.2.2.2.2 o_seen o_toldParts o_depth o_counted o_becameThen o_firstCorner o_drawn o_ranSteps o_isTold o_marks u41.2.2.2.2.2.2.2 o_text ((1980 + u11) + 1) (0 : Int32) (999 : Int32) u68 hu68) [0, 1, 3] cal_X12_number cav_X12_number lk_X12_208 cx hP hD hS hl dX12_aHappening_68 rfl rfl rfl rfl (Nat.le_of_ble_eq_true rfl) ⟨Nat.le_of_ble_eq_true rfl, Nat.le_of_ble_eq_true rfl⟩ rfl (by decide +kernel) rfl [some 0, some 1, none, some 2] rfl (by decide +kernel) rfl (fun H locs hP hD hS => ?_)
          refine lv_if_eq (tgt := 97) hx hb dX12_aHappening_71 (by decide) (fun hc => ?_) (fun hc => ?_)
          · have hf := it_t hc hf
            refine lv_iconst (v := 0) hx hb dX12_aHappening_97 (by decide) ?_
            obtain rfl := Option.some.inj hf
            subst hq
            exact retZ cx rfl hP hD hS dX12_aHappening_98
          · have hf := it_f hc hf
            refine lv_aload_n hx hb dX12_aHappening_74 rfl (lv_at hl 1 rfl) ?_
            refine va_ldcS hx hb hown hX.2.2.2.2.1 dX12_aHappening_75 ?_
            refine lv_bipush (v := 12) hx hb dX12_aHappening_77 (by decide) ?_
            obtain ⟨u79, hu79, hf⟩ := bd hf
            refine callVI (wn := (wd_X12_aHappening E a_o a_o_at a_o_names a_o_sort a_o_trayMany a_o_trays a_o_tape a_o_text a_o_opened a_o_farBy a_o_attendsBy a_o_coveredBy a_o_cameBy a_o_cameThen a_o_fallsBy a_o_loops a_o_ran a_o_told1 o_status o_top o_bottom o_taped o_size u79.2.1 u79.2.2.1 u79.2.2.2.1 u79.2.2.2.2.1 o_faultKind u79.2.2.2.2.2.1 u79.2.2.2.2.2.2 o_seen o_toldParts o_depth o_counted o_becameThen o_firstCorner o_drawn o_ranSteps o_isTold o_marks u68.2.2.2.2.2.2.2 u22.2.2.2.2.2.2.2 o_text)) (n1 := 4) (ct_X12_wantWord l E F a_o a_o_at a_o_names a_o_sort a_o_trayMany a_o_trays a_o_tape a_o_text a_o_opened a_o_farBy a_o_attendsBy a_o_coveredBy a_o_cameBy a_o_cameThen a_o_fallsBy a_o_loops a_o_ran a_o_told1 o_status o_top o_bottom o_taped o_size u68.2.1 u68.2.2.1 u68.2.2.2.1 u68.2.2.2.2.1 o_faultKind u68.2.2.2.2.2.1 u68.2.2.2.2.2.2.1 o_seen o_toldParts o_depth o_counted o_becameThen o_firstCorner o_drawn o_ranSteps o_isTold o_marks o_text (12 : Int32) u79 hu79) [0, 3] cal_X12_wantWord cav_X12_wantWord lk_X12_204 cx hP hD hS hl dX12_aHappening_79 rfl rfl rfl rfl (Nat.le_of_ble_eq_true rfl) ⟨Nat.le_of_ble_eq_true rfl, Nat.le_of_ble_eq_true rfl⟩ rfl (by decide +kernel) rfl [some 0, none, none, some 1] rfl (by decide +kernel) rfl (fun H locs hP hD hS => ?_)
            refine lv_if_eq (tgt := 97) hx hb dX12_aHappening_82 (by decide) (fun hc => ?_) (fun hc => ?_)
            · have hf := it_t hc hf
              refine lv_iconst (v := 0) hx hb dX12_aHappening_97 (by decide) ?_
              obtain rfl := Option.some.inj hf
              subst hq
              exact retZ cx rfl hP hD hS dX12_aHappening_98
            · have hf := it_f hc hf
              refine lv_aload_n hx hb dX12_aHappening_85 rfl (lv_at hl 1 rfl) ?_
              refine lv_iload_n hx hb dX12_aHappening_86 rfl (lv_at hl 0 rfl) ?_
              refine lv_iconst (v := 2) hx hb dX12_aHappening_87 (by decide) ?_
              refine lv_iadd hx hb dX12_aHappening_88 ?_
              refine lv_iconst (v := 1) hx hb dX12_aHappening_89 (by decide) ?_
              refine lv_iconst (v := 4) hx hb dX12_aHappening_90 (by decide) ?_
              obtain ⟨u91, hu91, hf⟩ := bd hf
              refine callVI (wn := (wd_X12_aHappening E a_o a_o_at a_o_names a_o_sort a_o_trayMany a_o_trays a_o_tape a_o_text a_o_opened a_o_farBy a_o_attendsBy a_o_coveredBy a_o_cameBy a_o_cameThen a_o_fallsBy a_o_loops a_o_ran a_o_told1 o_status o_top o_bottom o_taped o_size u91.2.1 u91.2.2.1 u91.2.2.2.1 u91.2.2.2.2.1 o_faultKind u91.2.2.2.2.2.1 u91.2.2.2.2.2.2.1 o_seen o_toldParts o_depth o_counted o_becameThen o_firstCorner o_drawn o_ranSteps o_isTold o_marks u91.2.2.2.2.2.2.2 u22.2.2.2.2.2.2.2 o_text)) (n1 := 4) (ct_X12_number l E F a_o a_o_at a_o_names a_o_sort a_o_trayMany a_o_trays a_o_tape a_o_text a_o_opened a_o_farBy a_o_attendsBy a_o_coveredBy a_o_cameBy a_o_cameThen a_o_fallsBy a_o_loops a_o_ran a_o_told1 o_status o_top o_bottom o_taped o_size u79.2.1 u79.2.2.1 u79.2.2.2.1 u79.2.2.2.2.1 o_faultKind u79.2.2.2.2.2.1 u79.2.2.2.2.2.2 o_seen o_toldParts o_depth o_counted o_becameThen o_firstCorner o_drawn o_ranSteps o_isTold o_marks u68.2.2.2.2.2.2.2 o_text ((1980 + u11) + 2) (1 : Int32) (4 : Int32) u91 hu91) [0, 1, 3] cal_X12_number cav_X12_number lk_X12_208 cx hP hD hS hl dX12_aHappening_91 rfl rfl rfl rfl (Nat.le_of_ble_eq_true rfl) ⟨Nat.le_of_ble_eq_true rfl, Nat.le_of_ble_eq_true rfl⟩ rfl (by decide +kernel) rfl [some 0, some 1, none, some 2] rfl (by decide +kernel) rfl (fun H locs hP hD hS => ?_)
              refine lv_if_ne (tgt := 99) hx hb dX12_aHappening_94 (by decide) (fun hc => ?_) (fun hc => ?_)
              · have hf := it_f hc hf
                refine lv_aload_n hx hb dX12_aHappening_99 rfl (lv_at hl 1 rfl) ?_
                refine va_get (D := E.1) (ci := 12) (v := .ref a_o_at) (C := RX12) (T := TX12) (N := 39) hx hb hts inX12 hown hK hP 0 rfl rfl 0 (by decide) (hts _ fl_X12_7) (fun _ h9 => h9) rfl dX12_aHappening_100 ?_
                refine lv_sipush (v := 1983) hx hb dX12_aHappening_103 (by decide) ?_
                refine lv_dup2_11 hx hb dX12_aHappening_106 rfl rfl ?_
                obtain ⟨hi, hf⟩ := ck hf
                refine r_iald 1 cx hP rfl hi dX12_aHappening_107 ?_
                refine lv_iconst (v := 1) hx hb dX12_aHappening_108 (by decide) ?_
                refine lv_iadd hx hb dX12_aHappening_109 ?_
                obtain ⟨hi, hf⟩ := ck hf
                refine r_iast 1 cx hP hD hS rfl hi dX12_aHappening_110 (fun H locs hP hD hS => ?_)
                have hP : va_P E.1 vwCl (wd_X12_aHappening E a_o a_o_at a_o_names a_o_sort a_o_trayMany a_o_trays a_o_tape a_o_text a_o_opened a_o_farBy a_o_attendsBy a_o_coveredBy a_o_cameBy a_o_cameThen a_o_fallsBy a_o_loops a_o_ran a_o_told1 o_status o_top o_bottom o_taped o_size u91.2.1 u91.2.2.1 u91.2.2.2.1 u91.2.2.2.2.1 o_faultKind u91.2.2.2.2.2.1 u91.2.2.2.2.2.2.1 o_seen o_toldParts o_depth o_counted o_becameThen o_firstCorner o_drawn o_ranSteps o_isTold o_marks (jput u91.2.2.2.2.2.2.2 1983 ((jat u91.2.2.2.2.2.2.2 1983) + 1)) u22.2.2.2.2.2.2.2 o_text) H := hP
                have hD : va_D A (wd_X12_aHappening E a_o a_o_at a_o_names a_o_sort a_o_trayMany a_o_trays a_o_tape a_o_text a_o_opened a_o_farBy a_o_attendsBy a_o_coveredBy a_o_cameBy a_o_cameThen a_o_fallsBy a_o_loops a_o_ran a_o_told1 o_status o_top o_bottom o_taped o_size u91.2.1 u91.2.2.1 u91.2.2.2.1 u91.2.2.2.2.1 o_faultKind u91.2.2.2.2.2.1 u91.2.2.2.2.2.2.1 o_seen o_toldParts o_depth o_counted o_becameThen o_firstCorner o_drawn o_ranSteps o_isTold o_marks (jput u91.2.2.2.2.2.2.2 1983 ((jat u91.2.2.2.2.2.2.2 1983) + 1)) u22.2.2.2.2.2.2.2 o_text) := hD
                refine lv_iconst (v := 1) hx hb dX12_aHappening_111 (by decide) ?_
                obtain rfl := Option.some.inj hf
                subst hq
                exact retZ cx rfl hP hD hS dX12_aHappening_112
              · have hf := it_t hc hf
                refine lv_iconst (v := 0) hx hb dX12_aHappening_97 (by decide) ?_
                obtain rfl := Option.some.inj hf
                subst hq
                exact retZ cx rfl hP hD hS dX12_aHappening_98
      · have hf := it_t hc hf
        refine lv_iconst (v := 0) hx hb dX12_aHappening_47 (by decide) ?_
        obtain rfl := Option.some.inj hf
        subst hq
        exact retZ cx rfl hP hD hS dX12_aHappening_48
def X12_watcherRow (v0 : Int32) : Option (Int32) :=
  some (115 + (3 * v0))
abbrev wd_X12_watcherRow (E : vE) : va_W := []
set_option maxHeartbeats 4000000 in
set_option maxRecDepth 100000 in
theorem ct_X12_watcherRow (l : Launch) (E : vE) (v0 : Int32) (u : Int32) (hf : X12_watcherRow v0 = some u) :
    CtI l yX12_watcherRow cX12_watcherRow 1 (some .int) 0 E [.int v0] (wd_X12_watcherRow E) (wd_X12_watcherRow E) u := by
  refine ctI (by decide) (Nat.le_of_ble_eq_true rfl) ?_
  intro p e s m below meth cd A ls aa QQ hq cx hP hD hS hl
  obtain ⟨⟨hx, hb, hml, hown, hts⟩, hr, hlocks, hK, hA, hX⟩ := id cx
  have hl : lv_has ls 1 [(0, .int v0)] := hl
  unfold X12_watcherRow at hf
  refine lv_bipush (v := 115) hx hb dX12_watcherRow_0 (by decide) ?_
  refine lv_iconst (v := 3) hx hb dX12_watcherRow_2 (by decide) ?_
  refine lv_iload_n hx hb dX12_watcherRow_3 rfl (lv_at hl 0 rfl) ?_
  refine lv_imul hx hb dX12_watcherRow_4 ?_
  refine lv_iadd hx hb dX12_watcherRow_5 ?_
  obtain rfl := Option.some.inj hf
  subst hq
  exact retI cx hP hD hS dX12_watcherRow_6
def X12_aWatcher (F : Nat) (o_size : Int32) (o_token : Int32) (o_from : Int32) (o_end : Int32) (o_value : Int32) (o_faultPlace : Int32) (o_faults : Int32) (o_at : Nat → Int32) (o_names : Nat → Int64) (o_text : Nat → Int32) : Option (Int32 × Int32 × Int32 × Int32 × Int32 × Int32 × Int32 × (Nat → Int32) × (Nat → Int64)) :=
  if ix 1984 3097 then
  (X12_watcherRow (jat o_at 1984)).bind fun u11 =>
  (X12_newOne F o_size o_token o_from o_end o_value o_faultPlace o_faults o_at o_names o_text (4 : Int32) (4 : Int32) (23 : Int32)).bind fun u21 =>
  if u21.1 = 0 then
  some (0, u21.2.1, u21.2.2.1, u21.2.2.2.1, u21.2.2.2.2.1, u21.2.2.2.2.2.1, u21.2.2.2.2.2.2.1, o_at, u21.2.2.2.2.2.2.2)
  else
  (X12_wantWord F o_size u21.2.1 u21.2.2.1 u21.2.2.2.1 u21.2.2.2.2.1 u21.2.2.2.2.2.1 u21.2.2.2.2.2.2.1 o_text (10 : Int32)).bind fun u32 =>
  if u32.1 = 0 then
  some (0, u32.2.1, u32.2.2.1, u32.2.2.2.1, u32.2.2.2.2.1, u32.2.2.2.2.2.1, u32.2.2.2.2.2.2, o_at, u21.2.2.2.2.2.2.2)
  else
  (X12_newCornerTo F o_size u32.2.1 u32.2.2.1 u32.2.2.2.1 u32.2.2.2.2.1 u32.2.2.2.2.2.1 u32.2.2.2.2.2.2 o_at u21.2.2.2.2.2.2.2 o_text (1980 + u11)).bind fun u40 =>
  if u40.1 = 0 then
  some (0, u40.2.1, u40.2.2.1, u40.2.2.2.1, u40.2.2.2.2.1, u40.2.2.2.2.2.1, u40.2.2.2.2.2.2.1, u40.2.2.2.2.2.2.2, u21.2.2.2.2.2.2.2)
  else
  (X12_wantWord F o_size u40.2.1 u40.2.2.1 u40.2.2.2.1 u40.2.2.2.2.1 u40.2.2.2.2.2.1 u40.2.2.2.2.2.2.1 o_text (13 : Int32)).bind fun u51 =>
  if u51.1 = 0 then
  some (0, u51.2.1, u51.2.2.1, u51.2.2.2.1, u51.2.2.2.2.1, u51.2.2.2.2.2.1, u51.2.2.2.2.2.2, u40.2.2.2.2.2.2.2, u21.2.2.2.2.2.2.2)
  else
  (X12_number F o_size u51.2.1 u51.2.2.1 u51.2.2.2.1 u51.2.2.2.2.1 u51.2.2.2.2.2.1 u51.2.2.2.2.2.2 u40.2.2.2.2.2.2.2 o_text ((1980 + u11) + 1) (1 : Int32) (7 : Int32)).bind fun u64 =>
  if u64.1 = 0 then
  some (0, u64.2.1, u64.2.2.1, u64.2.2.2.1, u64.2.2.2.2.1, u64.2.2.2.2.2.1, u64.2.2.2.2.2.2.1, u64.2.2.2.2.2.2.2, u21.2.2.2.2.2.2.2)
  else
  if ix 1984 3097 then
  if ix 1984 3097 then
  some (1, u64.2.1, u64.2.2.1, u64.2.2.2.1, u64.2.2.2.2.1, u64.2.2.2.2.2.1, u64.2.2.2.2.2.2.1, (jput u64.2.2.2.2.2.2.2 1984 ((jat u64.2.2.2.2.2.2.2 1984) + 1)), u21.2.2.2.2.2.2.2)
  else none
  else none
  else none
abbrev wd_X12_aWatcher (E : vE) (a_o a_o_at a_o_names a_o_sort a_o_trayMany a_o_trays a_o_tape a_o_text a_o_opened a_o_farBy a_o_attendsBy a_o_coveredBy a_o_cameBy a_o_cameThen a_o_fallsBy a_o_loops a_o_ran a_o_told1 : Nat) (o_status : Int32) (o_top : Int64) (o_bottom : Int64) (o_taped : Int32) (o_size : Int32) (o_token : Int32) (o_from : Int32) (o_end : Int32) (o_value : Int32) (o_faultKind : Int32) (o_faultPlace : Int32) (o_faults : Int32) (o_seen : Int32) (o_toldParts : Int32) (o_depth : Int32) (o_counted : Int32) (o_becameThen : Int32) (o_firstCorner : Int32) (o_drawn : Int32) (o_ranSteps : Int32) (o_isTold : Int32) (o_marks : Int32) (o_at : Nat → Int32) (o_names : Nat → Int64) (o_text : Nat → Int32) : va_W := [(a_o, .inr (12, [.ref a_o_at, .ref a_o_names, .int o_status, .long o_top, .long o_bottom, .ref a_o_sort, .ref a_o_trayMany, .ref a_o_trays, .ref a_o_tape, .ref a_o_text, .int o_taped, .int o_size, .int o_token, .int o_from, .int o_end, .int o_value, .int o_faultKind, .int o_faultPlace, .int o_faults, .int o_seen, .int o_toldParts, .ref a_o_opened, .int o_depth, .int o_counted, .ref a_o_farBy, .int o_becameThen, .ref a_o_attendsBy, .ref a_o_coveredBy, .ref a_o_cameBy, .ref a_o_cameThen, .int o_firstCorner, .ref a_o_fallsBy, .int o_drawn, .int o_ranSteps, .ref a_o_loops, .ref a_o_ran, .ref a_o_told1, .int o_isTold, .int o_marks])), (a_o_at, .inl (E.2.1, 3097, .inl o_at)), (a_o_names, .inl (E.2.2.1, 162, .inr (.inl o_names))), (a_o_text, .inl (E.2.2.2.1, 900, .inl o_text))]
set_option maxHeartbeats 4000000 in
set_option maxRecDepth 100000 in
theorem ct_X12_aWatcher (l : Launch) (E : vE) (F : Nat) (a_o a_o_at a_o_names a_o_sort a_o_trayMany a_o_trays a_o_tape a_o_text a_o_opened a_o_farBy a_o_attendsBy a_o_coveredBy a_o_cameBy a_o_cameThen a_o_fallsBy a_o_loops a_o_ran a_o_told1 : Nat) (o_status : Int32) (o_top : Int64) (o_bottom : Int64) (o_taped : Int32) (o_size : Int32) (o_token : Int32) (o_from : Int32) (o_end : Int32) (o_value : Int32) (o_faultKind : Int32) (o_faultPlace : Int32) (o_faults : Int32) (o_seen : Int32) (o_toldParts : Int32) (o_depth : Int32) (o_counted : Int32) (o_becameThen : Int32) (o_firstCorner : Int32) (o_drawn : Int32) (o_ranSteps : Int32) (o_isTold : Int32) (o_marks : Int32) (o_at : Nat → Int32) (o_names : Nat → Int64) (o_text : Nat → Int32) (u : Int32 × Int32 × Int32 × Int32 × Int32 × Int32 × Int32 × (Nat → Int32) × (Nat → Int64)) (hf : X12_aWatcher F o_size o_token o_from o_end o_value o_faultPlace o_faults o_at o_names o_text = some u) :
    CtI l yX12_aWatcher cX12_aWatcher 2 (some .boolean) 8 E [.ref a_o] (wd_X12_aWatcher E a_o a_o_at a_o_names a_o_sort a_o_trayMany a_o_trays a_o_tape a_o_text a_o_opened a_o_farBy a_o_attendsBy a_o_coveredBy a_o_cameBy a_o_cameThen a_o_fallsBy a_o_loops a_o_ran a_o_told1 o_status o_top o_bottom o_taped o_size o_token o_from o_end o_value o_faultKind o_faultPlace o_faults o_seen o_toldParts o_depth o_counted o_becameThen o_firstCorner o_drawn o_ranSteps o_isTold o_marks o_at o_names o_text) (wd_X12_aWatcher E a_o a_o_at a_o_names a_o_sort a_o_trayMany a_o_trays a_o_tape a_o_text a_o_opened a_o_farBy a_o_attendsBy a_o_coveredBy a_o_cameBy a_o_cameThen a_o_fallsBy a_o_loops a_o_ran a_o_told1 o_status o_top o_bottom o_taped o_size u.2.1 u.2.2.1 u.2.2.2.1 u.2.2.2.2.1 o_faultKind u.2.2.2.2.2.1 u.2.2.2.2.2.2.1 o_seen o_toldParts o_depth o_counted o_becameThen o_firstCorner o_drawn o_ranSteps o_isTold o_marks u.2.2.2.2.2.2.2.1 u.2.2.2.2.2.2.2.2 o_text) u.1 := by
  refine ctI (by decide) (Nat.le_of_ble_eq_true rfl) ?_
  intro p e s m below meth cd A ls aa QQ hq cx hP hD hS hl
  obtain ⟨⟨hx, hb, hml, hown, hts⟩, hr, hlocks, hK, hA, hX⟩ := id cx
  have hl : lv_has ls 2 [(0, .ref a_o)] := hl
  unfold X12_aWatcher at hf
  refine lv_sipush (v := 1980) hx hb dX12_aWatcher_0 (by decide) ?_
  refine lv_aload_n hx hb dX12_aWatcher_3 rfl (lv_at hl 0 rfl) ?_
  refine va_get (D := E.1) (ci := 12) (v := .ref a_o_at) (C := RX12) (T := TX12) (N := 39) hx hb hts inX12 hown hK hP 0 rfl rfl 0 (by decide) (hts _ fl_X12_7) (fun _ h9 => h9) rfl dX12_aWatcher_4 ?_
  refine lv_sipush (v := 1984) hx hb dX12_aWatcher_7 (by decide) ?_
  obtain ⟨hi, hf⟩ := ck hf
  refine r_iald 1 cx hP rfl hi dX12_aWatcher_10 ?_
  obtain ⟨u11, hu11, hf⟩ := bd hf
  refine keepSI (ct_X12_watcherRow l E (jat o_at 1984) u11 hu11) [] cal_X12_watcherRow sta_X12_watcherRow lk_X12_217 cx hP hD hS hl dX12_aWatcher_11 rfl rfl (Nat.le_of_ble_eq_true rfl) ⟨Nat.le_of_ble_eq_true rfl, Nat.le_of_ble_eq_true rfl⟩ rfl (by decide) (fun H locs hP hS => ?_)
  refine lv_iadd hx hb dX12_aWatcher_14 ?_
  refine lv_istore_n (lv' := [(1, .int (1980 + u11)), (0, .ref a_o)]) hx hb dX12_aWatcher_15 rfl hl (by decide) rfl (fun ls hl => ?_)
  refine lv_aload_n hx hb dX12_aWatcher_16 rfl (lv_at hl 1 rfl) ?_
  refine lv_iconst (v := 4) hx hb dX12_aWatcher_17 (by decide) ?_
  refine lv_iconst (v := 4) hx hb dX12_aWatcher_18 (by decide) ?_
  refine lv_bipush (v := 23) hx hb dX12_aWatcher_19 (by decide) ?_
  obtain ⟨u21, hu21, hf⟩ := bd hf
  refine callVI (wn := (wd_X12_aWatcher E a_o a_o_at a_o_names a_o_sort a_o_trayMany a_o_trays a_o_tape a_o_text a_o_opened a_o_farBy a_o_attendsBy a_o_coveredBy a_o_cameBy a_o_cameThen a_o_fallsBy a_o_loops a_o_ran a_o_told1 o_status o_top o_bottom o_taped o_size u21.2.1 u21.2.2.1 u21.2.2.2.1 u21.2.2.2.2.1 o_faultKind u21.2.2.2.2.2.1 u21.2.2.2.2.2.2.1 o_seen o_toldParts o_depth o_counted o_becameThen o_firstCorner o_drawn o_ranSteps o_isTold o_marks o_at u21.2.2.2.2.2.2.2 o_text)) (n1 := 4) (ct_X12_newOne l E F a_o a_o_at a_o_names a_o_sort a_o_trayMany a_o_trays a_o_tape a_o_text a_o_opened a_o_farBy a_o_attendsBy a_o_coveredBy a_o_cameBy a_o_cameThen a_o_fallsBy a_o_loops a_o_ran a_o_told1 o_status o_top o_bottom o_taped o_size o_token o_from o_end o_value o_faultKind o_faultPlace o_faults o_seen o_toldParts o_depth o_counted o_becameThen o_firstCorner o_drawn o_ranSteps o_isTold o_marks o_at o_names o_text (4 : Int32) (4 : Int32) (23 : Int32) u21 hu21) [0, 1, 2, 3] cal_X12_newOne cav_X12_newOne lk_X12_195 cx hP hD hS hl dX12_aWatcher_21 rfl rfl rfl rfl (Nat.le_of_ble_eq_true rfl) ⟨Nat.le_of_ble_eq_true rfl, Nat.le_of_ble_eq_true rfl⟩ rfl (by decide +kernel) rfl [some 0, some 1, some 2, some 3] rfl (by decide +kernel) rfl (fun H locs hP hD hS => ?_)
  refine lv_if_eq (tgt := 70) hx hb dX12_aWatcher_24 (by decide) (fun hc => ?_) (fun hc => ?_)
  · have hf := it_t hc hf
    refine lv_iconst (v := 0) hx hb dX12_aWatcher_70 (by decide) ?_
    obtain rfl := Option.some.inj hf
    subst hq
    exact retZ cx rfl hP hD hS dX12_aWatcher_71
  · have hf := it_f hc hf
    refine lv_aload_n hx hb dX12_aWatcher_27 rfl (lv_at hl 1 rfl) ?_
    refine va_ldcS hx hb hown hX.2.2.2.2.1 dX12_aWatcher_28 ?_
    refine lv_bipush (v := 10) hx hb dX12_aWatcher_30 (by decide) ?_
    obtain ⟨u32, hu32, hf⟩ := bd hf
    refine callVI (wn := (wd_X12_aWatcher E a_o a_o_at a_o_names a_o_sort a_o_trayMany a_o_trays a_o_tape a_o_text a_o_opened a_o_farBy a_o_attendsBy a_o_coveredBy a_o_cameBy a_o_cameThen a_o_fallsBy a_o_loops a_o_ran a_o_told1 o_status o_top o_bottom o_taped o_size u32.2.1 u32.2.2.1 u32.2.2.2.1 u32.2.2.2.2.1 o_faultKind u32.2.2.2.2.2.1 u32.2.2.2.2.2.2 o_seen o_toldParts o_depth o_counted o_becameThen o_firstCorner o_drawn o_ranSteps o_isTold o_marks o_at u21.2.2.2.2.2.2.2 o_text)) (n1 := 4) (ct_X12_wantWord l E F a_o a_o_at a_o_names a_o_sort a_o_trayMany a_o_trays a_o_tape a_o_text a_o_opened a_o_farBy a_o_attendsBy a_o_coveredBy a_o_cameBy a_o_cameThen a_o_fallsBy a_o_loops a_o_ran a_o_told1 o_status o_top o_bottom o_taped o_size u21.2.1 u21.2.2.1 u21.2.2.2.1 u21.2.2.2.2.1 o_faultKind u21.2.2.2.2.2.1 u21.2.2.2.2.2.2.1 o_seen o_toldParts o_depth o_counted o_becameThen o_firstCorner o_drawn o_ranSteps o_isTold o_marks o_text (10 : Int32) u32 hu32) [0, 3] cal_X12_wantWord cav_X12_wantWord lk_X12_204 cx hP hD hS hl dX12_aWatcher_32 rfl rfl rfl rfl (Nat.le_of_ble_eq_true rfl) ⟨Nat.le_of_ble_eq_true rfl, Nat.le_of_ble_eq_true rfl⟩ rfl (by decide +kernel) rfl [some 0, none, none, some 1] rfl (by decide +kernel) rfl (fun H locs hP hD hS => ?_)
    refine lv_if_eq (tgt := 70) hx hb dX12_aWatcher_35 (by decide) (fun hc => ?_) (fun hc => ?_)
    · have hf := it_t hc hf
      refine lv_iconst (v := 0) hx hb dX12_aWatcher_70 (by decide) ?_
      obtain rfl := Option.some.inj hf
      subst hq
      exact retZ cx rfl hP hD hS dX12_aWatcher_71
    · have hf := it_f hc hf
      refine lv_aload_n hx hb dX12_aWatcher_38 rfl (lv_at hl 1 rfl) ?_
      refine lv_iload_n hx hb dX12_aWatcher_39 rfl (lv_at hl 0 rfl) ?_
      obtain ⟨u40, hu40, hf⟩ := bd hf
      refine callVI (wn := (wd_X12_aWatcher E a_o a_o_at a_o_names a_o_sort a_o_trayMany a_o_trays a_o_tape a_o_text a_o_opened a_o_farBy a_o_attendsBy a_o_coveredBy a_o_cameBy a_o_cameThen a_o_fallsBy a_o_loops a_o_ran a_o_told1 o_status o_top o_bottom o_taped o_size u40.2.1 u40.2.2.1 u40.2.2.2.1 u40.2.2.2.2.1 o_faultKind u40.2.2.2.2.2.1 u40.2.2.2.2.2.2.1 o_seen o_toldParts o_depth o_counted o_becameThen o_firstCorner o_drawn o_ranSteps o_isTold o_marks u40.2.2.2.2.2.2.2 u21.2.2.2.2.2.2.2 o_text)) (n1 := 4) (ct_X12_newCornerTo l E F a_o a_o_at a_o_names a_o_sort a_o_trayMany a_o_trays a_o_tape a_o_text a_o_opened a_o_farBy a_o_attendsBy a_o_coveredBy a_o_cameBy a_o_cameThen a_o_fallsBy a_o_loops a_o_ran a_o_told1 o_status o_top o_bottom o_taped o_size u32.2.1 u32.2.2.1 u32.2.2.2.1 u32.2.2.2.2.1 o_faultKind u32.2.2.2.2.2.1 u32.2.2.2.2.2.2 o_seen o_toldParts o_depth o_counted o_becameThen o_firstCorner o_drawn o_ranSteps o_isTold o_marks o_at u21.2.2.2.2.2.2.2 o_text (1980 + u11) u40 hu40) [0, 1, 2, 3] cal_X12_newCornerTo cav_X12_newCornerTo lk_X12_201 cx hP hD hS hl dX12_aWatcher_40 rfl rfl rfl rfl (Nat.le_of_ble_eq_true rfl) ⟨Nat.le_of_ble_eq_true rfl, Nat.le_of_ble_eq_true rfl⟩ rfl (by decide +kernel) rfl [some 0, some 1, some 2, some 3] rfl (by decide +kernel) rfl (fun H locs hP hD hS => ?_)
      refine lv_if_eq (tgt := 70) hx hb dX12_aWatcher_43 (by decide) (fun hc => ?_) (fun hc => ?_)
      · have hf := it_t hc hf
        refine lv_iconst (v := 0) hx hb dX12_aWatcher_70 (by decide) ?_
        obtain rfl := Option.some.inj hf
        subst hq
        exact retZ cx rfl hP hD hS dX12_aWatcher_71
      · have hf := it_f hc hf
        refine lv_aload_n hx hb dX12_aWatcher_46 rfl (lv_at hl 1 rfl) ?_
        refine va_ldcS hx hb hown hX.2.2.2.2.1 dX12_aWatcher_47 ?_
        refine lv_bipush (v := 13) hx hb dX12_aWatcher_49 (by decide) ?_
        obtain ⟨u51, hu51, hf⟩ := bd hf
        refine callVI (wn := (wd_X12_aWatcher E a_o a_o_at a_o_names a_o_sort a_o_trayMany a_o_trays a_o_tape a_o_text a_o_opened a_o_farBy a_o_attendsBy a_o_coveredBy a_o_cameBy a_o_cameThen a_o_fallsBy a_o_loops a_o_ran a_o_told1 o_status o_top o_bottom o_taped o_size u51.2.1 u51.2.2.1 u51.2.2.2.1 u51.2.2.2.2.1 o_faultKind u51.2.2.2.2.2.1 u51.2.2.2.2.2.2 o_seen o_toldParts o_depth o_counted o_becameThen o_firstCorner o_drawn o_ranSteps o_isTold o_marks u40.2.2.2.2.2.2.2 u21.2.2.2.2.2.2.2 o_text)) (n1 := 4) (ct_X12_wantWord l E F a_o a_o_at a_o_names a_o_sort a_o_trayMany a_o_trays a_o_tape a_o_text a_o_opened a_o_farBy a_o_attendsBy a_o_coveredBy a_o_cameBy a_o_cameThen a_o_fallsBy a_o_loops a_o_ran a_o_told1 o_status o_top o_bottom o_taped o_size u40.2.1 u40.2.2.1 u40.2.2.2.1 u40.2.2.2.2.1 o_faultKind u40.2.2.2.2.2.1 u40.2.2.2.2.2.2.1 o_seen o_toldParts o_depth o_counted o_becameThen o_firstCorner o_drawn o_ranSteps o_isTold o_marks o_text (13 : Int32) u51 hu51) [0, 3] cal_X12_wantWord cav_X12_wantWord lk_X12_204 cx hP hD hS hl dX12_aWatcher_51 rfl rfl rfl rfl (Nat.le_of_ble_eq_true rfl) ⟨Nat.le_of_ble_eq_true rfl, Nat.le_of_ble_eq_true rfl⟩ rfl (by decide +kernel) rfl [some 0, none, none, some 1] rfl (by decide +kernel) rfl (fun H locs hP hD hS => ?_)
        refine lv_if_eq (tgt := 70) hx hb dX12_aWatcher_54 (by decide) (fun hc => ?_) (fun hc => ?_)
        · have hf := it_t hc hf
          refine lv_iconst (v := 0) hx hb dX12_aWatcher_70 (by decide) ?_
          obtain rfl := Option.some.inj hf
          subst hq
          exact retZ cx rfl hP hD hS dX12_aWatcher_71
        · have hf := it_f hc hf
          refine lv_aload_n hx hb dX12_aWatcher_57 rfl (lv_at hl 1 rfl) ?_
          refine lv_iload_n hx hb dX12_aWatcher_58 rfl (lv_at hl 0 rfl) ?_
          refine lv_iconst (v := 1) hx hb dX12_aWatcher_59 (by decide) ?_
          refine lv_iadd hx hb dX12_aWatcher_60 ?_
          refine lv_iconst (v := 1) hx hb dX12_aWatcher_61 (by decide) ?_
          refine lv_bipush (v := 7) hx hb dX12_aWatcher_62 (by decide) ?_
          obtain ⟨u64, hu64, hf⟩ := bd hf
          refine callVI (wn := (wd_X12_aWatcher E a_o a_o_at a_o_names a_o_sort a_o_trayMany a_o_trays a_o_tape a_o_text a_o_opened a_o_farBy a_o_attendsBy a_o_coveredBy a_o_cameBy a_o_cameThen a_o_fallsBy a_o_loops a_o_ran a_o_told1 o_status o_top o_bottom o_taped o_size u64.2.1 u64.2.2.1 u64.2.2.2.1 u64.2.2.2.2.1 o_faultKind u64.2.2.2.2.2.1 u64.2.2.2.2.2.2.1 o_seen o_toldParts o_depth o_counted o_becameThen o_firstCorner o_drawn o_ranSteps o_isTold o_marks u64.2.2.2.2.2.2.2 u21.2.2.2.2.2.2.2 o_text)) (n1 := 4) (ct_X12_number l E F a_o a_o_at a_o_names a_o_sort a_o_trayMany a_o_trays a_o_tape a_o_text a_o_opened a_o_farBy a_o_attendsBy a_o_coveredBy a_o_cameBy a_o_cameThen a_o_fallsBy a_o_loops a_o_ran a_o_told1 o_status o_top o_bottom o_taped o_size u51.2.1 u51.2.2.1 u51.2.2.2.1 u51.2.2.2.2.1 o_faultKind u51.2.2.2.2.2.1 u51.2.2.2.2.2.2 o_seen o_toldParts o_depth o_counted o_becameThen o_firstCorner o_drawn o_ranSteps o_isTold o_marks u40.2.2.2.2.2.2.2 o_text ((1980 + u11) + 1) (1 : Int32) (7 : Int32) u64 hu64) [0, 1, 3] cal_X12_number cav_X12_number lk_X12_208 cx hP hD hS hl dX12_aWatcher_64 rfl rfl rfl rfl (Nat.le_of_ble_eq_true rfl) ⟨Nat.le_of_ble_eq_true rfl, Nat.le_of_ble_eq_true rfl⟩ rfl (by decide +kernel) rfl [some 0, some 1, none, some 2] rfl (by decide +kernel) rfl (fun H locs hP hD hS => ?_)
          refine lv_if_ne (tgt := 72) hx hb dX12_aWatcher_67 (by decide) (fun hc => ?_) (fun hc => ?_)
          · have hf := it_f hc hf
            refine lv_aload_n hx hb dX12_aWatcher_72 rfl (lv_at hl 1 rfl) ?_
            refine va_get (D := E.1) (ci := 12) (v := .ref a_o_at) (C := RX12) (T := TX12) (N := 39) hx hb hts inX12 hown hK hP 0 rfl rfl 0 (by decide) (hts _ fl_X12_7) (fun _ h9 => h9) rfl dX12_aWatcher_73 ?_
            refine lv_sipush (v := 1984) hx hb dX12_aWatcher_76 (by decide) ?_
            refine lv_dup2_11 hx hb dX12_aWatcher_79 rfl rfl ?_
            obtain ⟨hi, hf⟩ := ck hf
            refine r_iald 1 cx hP rfl hi dX12_aWatcher_80 ?_
            refine lv_iconst (v := 1) hx hb dX12_aWatcher_81 (by decide) ?_
            refine lv_iadd hx hb dX12_aWatcher_82 ?_
            obtain ⟨hi, hf⟩ := ck hf
            refine r_iast 1 cx hP hD hS rfl hi dX12_aWatcher_83 (fun H locs hP hD hS => ?_)
            have hP : va_P E.1 vwCl (wd_X12_aWatcher E a_o a_o_at a_o_names a_o_sort a_o_trayMany a_o_trays a_o_tape a_o_text a_o_opened a_o_farBy a_o_attendsBy a_o_coveredBy a_o_cameBy a_o_cameThen a_o_fallsBy a_o_loops a_o_ran a_o_told1 o_status o_top o_bottom o_taped o_size u64.2.1 u64.2.2.1 u64.2.2.2.1 u64.2.2.2.2.1 o_faultKind u64.2.2.2.2.2.1 u64.2.2.2.2.2.2.1 o_seen o_toldParts o_depth o_counted o_becameThen o_firstCorner o_drawn o_ranSteps o_isTold o_marks (jput u64.2.2.2.2.2.2.2 1984 ((jat u64.2.2.2.2.2.2.2 1984) + 1)) u21.2.2.2.2.2.2.2 o_text) H := hP
            have hD : va_D A (wd_X12_aWatcher E a_o a_o_at a_o_names a_o_sort a_o_trayMany a_o_trays a_o_tape a_o_text a_o_opened a_o_farBy a_o_attendsBy a_o_coveredBy a_o_cameBy a_o_cameThen a_o_fallsBy a_o_loops a_o_ran a_o_told1 o_status o_top o_bottom o_taped o_size u64.2.1 u64.2.2.1 u64.2.2.2.1 u64.2.2.2.2.1 o_faultKind u64.2.2.2.2.2.1 u64.2.2.2.2.2.2.1 o_seen o_toldParts o_depth o_counted o_becameThen o_firstCorner o_drawn o_ranSteps o_isTold o_marks (jput u64.2.2.2.2.2.2.2 1984 ((jat u64.2.2.2.2.2.2.2 1984) + 1)) u21.2.2.2.2.2.2.2 o_text) := hD
            refine lv_iconst (v := 1) hx hb dX12_aWatcher_84 (by decide) ?_
            obtain rfl := Option.some.inj hf
            subst hq
            exact retZ cx rfl hP hD hS dX12_aWatcher_85
          · have hf := it_t hc hf
            refine lv_iconst (v := 0) hx hb dX12_aWatcher_70 (by decide) ?_
            obtain rfl := Option.some.inj hf
            subst hq
            exact retZ cx rfl hP hD hS dX12_aWatcher_71
def X12_aRoster_b30 (F : Nat) (o_size : Int32) (o_faultPlace : Int32) (o_faults : Int32) (o_at : Nat → Int32) (o_names : Nat → Int64) (o_text : Nat → Int32) (v1 : Int32) (st30 : Int32 × Int32 × Int32 × Int32 × Int32) : Option ((Int32 × Int32 × Int32 × Int32 × Int32) ⊕ ((Int32 × Int32 × Int32 × Int32) ⊕ (Int32 × Int32 × Int32 × Int32) ⊕ (Int32 × Int32 × Int32 × Int32 × Int32))) :=
  (X12_isName F o_size st30.2.1 st30.2.2.1 st30.2.2.2.1 o_text).bind fun u33 =>
  if u33 = 0 then
  some (.inr (.inr (.inr ((st30.1, st30.2.1, st30.2.2.1, st30.2.2.2.1, st30.2.2.2.2)))))
  else
  if ix 1983 3097 then
  (X12_findHere F o_size st30.2.2.1 st30.2.2.2.1 o_names o_text (123 : Int32) (jat o_at 1983)).bind fun u50 =>
  if u50 = (-1) then
  some (.inr (.inl ((st30.2.1, st30.2.2.1, st30.2.2.2.1, st30.2.2.2.2))))
  else
  if ((jshr st30.1 u50) &&& 1) = 1 then
  some (.inr (.inr (.inl ((st30.2.1, st30.2.2.1, st30.2.2.2.1, st30.2.2.2.2)))))
  else
  (X12_ahead F o_size st30.2.1 st30.2.2.1 st30.2.2.2.1 st30.2.2.2.2 o_text).bind fun u87 =>
  some (.inl ((st30.1 ||| (jshl 1 u50)), u87.1, u87.2.1, u87.2.2.1, u87.2.2.2))
  else none
def X12_aRoster (F : Nat) (o_size : Int32) (o_token : Int32) (o_from : Int32) (o_end : Int32) (o_value : Int32) (o_faultPlace : Int32) (o_faults : Int32) (o_at : Nat → Int32) (o_names : Nat → Int64) (o_text : Nat → Int32) : Option (Int32 × Int32 × Int32 × Int32 × Int32 × Int32 × Int32 × (Nat → Int32)) :=
  (X12_ahead F o_size o_token o_from o_end o_value o_text).bind fun u5 =>
  if ix 1982 3097 then
  (X12_oldOne F o_size u5.1 u5.2.1 u5.2.2.1 u5.2.2.2 o_faultPlace o_faults o_at o_names o_text (116 : Int32) (jat o_at 1982) (2467 : Int32)).bind fun u20 =>
  if u20.1 = 0 then
  some (0, u20.2.1, u20.2.2.1, u20.2.2.2.1, u20.2.2.2.2.1, u20.2.2.2.2.2.1, u20.2.2.2.2.2.2.1, u20.2.2.2.2.2.2.2)
  else
  (iter (X12_aRoster_b30 F o_size u20.2.2.2.2.2.1 u20.2.2.2.2.2.2.1 u20.2.2.2.2.2.2.2 o_names o_text 2467) F (0, u20.2.1, u20.2.2.1, u20.2.2.2.1, u20.2.2.2.2.1)).bind (Sum.elim (fun (e30 : Int32 × Int32 × Int32 × Int32) =>
    (X12_fails e30.1 e30.2.1 u20.2.2.2.2.2.1 u20.2.2.2.2.2.2.1 (3 : Int32)).bind fun u61 =>
  if isZ u61.1 then some (u61.1, e30.1, e30.2.1, e30.2.2.1, e30.2.2.2, u61.2.1, u61.2.2, u20.2.2.2.2.2.2.2) else none) (Sum.elim (fun (e30 : Int32 × Int32 × Int32 × Int32) =>
    (X12_fails e30.1 e30.2.1 u20.2.2.2.2.2.1 u20.2.2.2.2.2.2.1 (5 : Int32)).bind fun u76 =>
  if isZ u76.1 then some (u76.1, e30.1, e30.2.1, e30.2.2.1, e30.2.2.2, u76.2.1, u76.2.2, u20.2.2.2.2.2.2.2) else none) (fun (e30 : Int32 × Int32 × Int32 × Int32 × Int32) =>
    if ix 2467 3097 then
  (X12_extraRow (jat u20.2.2.2.2.2.2.2 2467)).bind fun u106 =>
  if ix ((1980 + u106) + 2) 3097 then
  some (1, e30.2.1, e30.2.2.1, e30.2.2.2.1, e30.2.2.2.2, u20.2.2.2.2.2.1, u20.2.2.2.2.2.2.1, (jput u20.2.2.2.2.2.2.2 ((1980 + u106) + 2) e30.1))
  else none
  else none)))
  else none
abbrev wd_X12_aRoster (E : vE) (a_o a_o_at a_o_names a_o_sort a_o_trayMany a_o_trays a_o_tape a_o_text a_o_opened a_o_farBy a_o_attendsBy a_o_coveredBy a_o_cameBy a_o_cameThen a_o_fallsBy a_o_loops a_o_ran a_o_told1 : Nat) (o_status : Int32) (o_top : Int64) (o_bottom : Int64) (o_taped : Int32) (o_size : Int32) (o_token : Int32) (o_from : Int32) (o_end : Int32) (o_value : Int32) (o_faultKind : Int32) (o_faultPlace : Int32) (o_faults : Int32) (o_seen : Int32) (o_toldParts : Int32) (o_depth : Int32) (o_counted : Int32) (o_becameThen : Int32) (o_firstCorner : Int32) (o_drawn : Int32) (o_ranSteps : Int32) (o_isTold : Int32) (o_marks : Int32) (o_at : Nat → Int32) (o_names : Nat → Int64) (o_text : Nat → Int32) : va_W := [(a_o, .inr (12, [.ref a_o_at, .ref a_o_names, .int o_status, .long o_top, .long o_bottom, .ref a_o_sort, .ref a_o_trayMany, .ref a_o_trays, .ref a_o_tape, .ref a_o_text, .int o_taped, .int o_size, .int o_token, .int o_from, .int o_end, .int o_value, .int o_faultKind, .int o_faultPlace, .int o_faults, .int o_seen, .int o_toldParts, .ref a_o_opened, .int o_depth, .int o_counted, .ref a_o_farBy, .int o_becameThen, .ref a_o_attendsBy, .ref a_o_coveredBy, .ref a_o_cameBy, .ref a_o_cameThen, .int o_firstCorner, .ref a_o_fallsBy, .int o_drawn, .int o_ranSteps, .ref a_o_loops, .ref a_o_ran, .ref a_o_told1, .int o_isTold, .int o_marks])), (a_o_at, .inl (E.2.1, 3097, .inl o_at)), (a_o_names, .inl (E.2.2.1, 162, .inr (.inl o_names))), (a_o_text, .inl (E.2.2.2.1, 900, .inl o_text))]
set_option maxHeartbeats 4000000 in
set_option maxRecDepth 100000 in
theorem ct_X12_aRoster (l : Launch) (E : vE) (F : Nat) (a_o a_o_at a_o_names a_o_sort a_o_trayMany a_o_trays a_o_tape a_o_text a_o_opened a_o_farBy a_o_attendsBy a_o_coveredBy a_o_cameBy a_o_cameThen a_o_fallsBy a_o_loops a_o_ran a_o_told1 : Nat) (o_status : Int32) (o_top : Int64) (o_bottom : Int64) (o_taped : Int32) (o_size : Int32) (o_token : Int32) (o_from : Int32) (o_end : Int32) (o_value : Int32) (o_faultKind : Int32) (o_faultPlace : Int32) (o_faults : Int32) (o_seen : Int32) (o_toldParts : Int32) (o_depth : Int32) (o_counted : Int32) (o_becameThen : Int32) (o_firstCorner : Int32) (o_drawn : Int32) (o_ranSteps : Int32) (o_isTold : Int32) (o_marks : Int32) (o_at : Nat → Int32) (o_names : Nat → Int64) (o_text : Nat → Int32) (u : Int32 × Int32 × Int32 × Int32 × Int32 × Int32 × Int32 × (Nat → Int32)) (hf : X12_aRoster F o_size o_token o_from o_end o_value o_faultPlace o_faults o_at o_names o_text = some u) :
    CtI l yX12_aRoster cX12_aRoster 4 (some .boolean) 7 E [.ref a_o] (wd_X12_aRoster E a_o a_o_at a_o_names a_o_sort a_o_trayMany a_o_trays a_o_tape a_o_text a_o_opened a_o_farBy a_o_attendsBy a_o_coveredBy a_o_cameBy a_o_cameThen a_o_fallsBy a_o_loops a_o_ran a_o_told1 o_status o_top o_bottom o_taped o_size o_token o_from o_end o_value o_faultKind o_faultPlace o_faults o_seen o_toldParts o_depth o_counted o_becameThen o_firstCorner o_drawn o_ranSteps o_isTold o_marks o_at o_names o_text) (wd_X12_aRoster E a_o a_o_at a_o_names a_o_sort a_o_trayMany a_o_trays a_o_tape a_o_text a_o_opened a_o_farBy a_o_attendsBy a_o_coveredBy a_o_cameBy a_o_cameThen a_o_fallsBy a_o_loops a_o_ran a_o_told1 o_status o_top o_bottom o_taped o_size u.2.1 u.2.2.1 u.2.2.2.1 u.2.2.2.2.1 o_faultKind u.2.2.2.2.2.1 u.2.2.2.2.2.2.1 o_seen o_toldParts o_depth o_counted o_becameThen o_firstCorner o_drawn o_ranSteps o_isTold o_marks u.2.2.2.2.2.2.2 o_names o_text) u.1 := by
  refine ctI (by decide) (Nat.le_of_ble_eq_true rfl) ?_
  intro p e s m below meth cd A ls aa QQ hq cx hP hD hS hl
  obtain ⟨⟨hx, hb, hml, hown, hts⟩, hr, hlocks, hK, hA, hX⟩ := id cx
  have hl : lv_has ls 4 [(0, .ref a_o)] := hl
  unfold X12_aRoster at hf
  refine lv_sipush (v := 2467) hx hb dX12_aRoster_0 (by decide) ?_
  refine lv_istore_n (lv' := [(1, .int 2467), (0, .ref a_o)]) hx hb dX12_aRoster_3 rfl hl (by decide) rfl (fun ls hl => ?_)
  refine lv_aload_n hx hb dX12_aRoster_4 rfl (lv_at hl 1 rfl) ?_
  obtain ⟨u5, hu5, hf⟩ := bd hf
  refine callVV (wn := (wd_X12_aRoster E a_o a_o_at a_o_names a_o_sort a_o_trayMany a_o_trays a_o_tape a_o_text a_o_opened a_o_farBy a_o_attendsBy a_o_coveredBy a_o_cameBy a_o_cameThen a_o_fallsBy a_o_loops a_o_ran a_o_told1 o_status o_top o_bottom o_taped o_size u5.1 u5.2.1 u5.2.2.1 u5.2.2.2 o_faultKind o_faultPlace o_faults o_seen o_toldParts o_depth o_counted o_becameThen o_firstCorner o_drawn o_ranSteps o_isTold o_marks o_at o_names o_text)) (n1 := 4) (ct_X12_ahead l E F a_o a_o_at a_o_names a_o_sort a_o_trayMany a_o_trays a_o_tape a_o_text a_o_opened a_o_farBy a_o_attendsBy a_o_coveredBy a_o_cameBy a_o_cameThen a_o_fallsBy a_o_loops a_o_ran a_o_told1 o_status o_top o_bottom o_taped o_size o_token o_from o_end o_value o_faultKind o_faultPlace o_faults o_seen o_toldParts o_depth o_counted o_becameThen o_firstCorner o_drawn o_ranSteps o_isTold o_marks o_text u5 hu5) [0, 3] cal_X12_ahead cav_X12_ahead lk_X12_161 cx hP hD hS hl dX12_aRoster_5 rfl rfl rfl rfl (Nat.le_of_ble_eq_true rfl) ⟨Nat.le_of_ble_eq_true rfl, Nat.le_of_ble_eq_true rfl⟩ rfl (by decide +kernel) rfl [some 0, none, none, some 1] rfl (by decide +kernel) rfl (fun H locs hP hD hS => ?_)
  refine lv_aload_n hx hb dX12_aRoster_8 rfl (lv_at hl 1 rfl) ?_
  refine lv_bipush (v := 116) hx hb dX12_aRoster_9 (by decide) ?_
  refine lv_aload_n hx hb dX12_aRoster_11 rfl (lv_at hl 1 rfl) ?_
  refine va_get (D := E.1) (ci := 12) (v := .ref a_o_at) (C := RX12) (T := TX12) (N := 39) hx hb hts inX12 hown hK hP 0 rfl rfl 0 (by decide) (hts _ fl_X12_7) (fun _ h9 => h9) rfl dX12_aRoster_12 ?_
  refine lv_sipush (v := 1982) hx hb dX12_aRoster_15 (by decide) ?_
  obtain ⟨hi, hf⟩ := ck hf
  refine r_iald 1 cx hP rfl hi dX12_aRoster_18 ?_
  refine lv_iload_n hx hb dX12_aRoster_19 rfl (lv_at hl 0 rfl) ?_
  obtain ⟨u20, hu20, hf⟩ := bd hf
  refine callVI (wn := (wd_X12_aRoster E a_o a_o_at a_o_names a_o_sort a_o_trayMany a_o_trays a_o_tape a_o_text a_o_opened a_o_farBy a_o_attendsBy a_o_coveredBy a_o_cameBy a_o_cameThen a_o_fallsBy a_o_loops a_o_ran a_o_told1 o_status o_top o_bottom o_taped o_size u20.2.1 u20.2.2.1 u20.2.2.2.1 u20.2.2.2.2.1 o_faultKind u20.2.2.2.2.2.1 u20.2.2.2.2.2.2.1 o_seen o_toldParts o_depth o_counted o_becameThen o_firstCorner o_drawn o_ranSteps o_isTold o_marks u20.2.2.2.2.2.2.2 o_names o_text)) (n1 := 4) (ct_X12_oldOne l E F a_o a_o_at a_o_names a_o_sort a_o_trayMany a_o_trays a_o_tape a_o_text a_o_opened a_o_farBy a_o_attendsBy a_o_coveredBy a_o_cameBy a_o_cameThen a_o_fallsBy a_o_loops a_o_ran a_o_told1 o_status o_top o_bottom o_taped o_size u5.1 u5.2.1 u5.2.2.1 u5.2.2.2 o_faultKind o_faultPlace o_faults o_seen o_toldParts o_depth o_counted o_becameThen o_firstCorner o_drawn o_ranSteps o_isTold o_marks o_at o_names o_text (116 : Int32) (jat o_at 1982) (2467 : Int32) u20 hu20) [0, 1, 2, 3] cal_X12_oldOne cav_X12_oldOne lk_X12_191 cx hP hD hS hl dX12_aRoster_20 rfl rfl rfl rfl (Nat.le_of_ble_eq_true rfl) ⟨Nat.le_of_ble_eq_true rfl, Nat.le_of_ble_eq_true rfl⟩ rfl (by decide +kernel) rfl [some 0, some 1, some 2, some 3] rfl (by decide +kernel) rfl (fun H locs hP hD hS => ?_)
  refine lv_if_ne (tgt := 28) hx hb dX12_aRoster_23 (by decide) (fun hc => ?_) (fun hc => ?_)
  · have hf := it_f hc hf
    refine lv_iconst (v := 0) hx hb dX12_aRoster_28 (by decide) ?_
    refine lv_istore_n (lv' := [(2, .int 0), (1, .int 2467), (0, .ref a_o)]) hx hb dX12_aRoster_29 rfl hl (by decide) rfl (fun ls hl => ?_)
    obtain ⟨e30, hit30, hf⟩ := bd hf
    refine iter_W (b := X12_aRoster_b30 F o_size u20.2.2.2.2.2.1 u20.2.2.2.2.2.2.1 u20.2.2.2.2.2.2.2 o_names o_text 2467) (P := fun st30 => ∀ (H : Heap) (locs : List Loc) (ls : Array Slot), va_P E.1 vwCl (wd_X12_aRoster E a_o a_o_at a_o_names a_o_sort a_o_trayMany a_o_trays a_o_tape a_o_text a_o_opened a_o_farBy a_o_attendsBy a_o_coveredBy a_o_cameBy a_o_cameThen a_o_fallsBy a_o_loops a_o_ran a_o_told1 o_status o_top o_bottom o_taped o_size st30.2.1 st30.2.2.1 st30.2.2.2.1 st30.2.2.2.2 o_faultKind u20.2.2.2.2.2.1 u20.2.2.2.2.2.2.1 o_seen o_toldParts o_depth o_counted o_becameThen o_firstCorner o_drawn o_ranSteps o_isTold o_marks u20.2.2.2.2.2.2.2 o_names o_text) H → va_D A (wd_X12_aRoster E a_o a_o_at a_o_names a_o_sort a_o_trayMany a_o_trays a_o_tape a_o_text a_o_opened a_o_farBy a_o_attendsBy a_o_coveredBy a_o_cameBy a_o_cameThen a_o_fallsBy a_o_loops a_o_ran a_o_told1 o_status o_top o_bottom o_taped o_size st30.2.1 st30.2.2.1 st30.2.2.2.1 st30.2.2.2.2 o_faultKind u20.2.2.2.2.2.1 u20.2.2.2.2.2.2.1 o_seen o_toldParts o_depth o_counted o_becameThen o_firstCorner o_drawn o_ranSteps o_isTold o_marks u20.2.2.2.2.2.2.2 o_names o_text) → va_S A s.heap H locs → lv_has ls 4 [(0, .ref a_o), (1, .int 2467), (2, .int st30.1)] → W p l e (rmd 7) s m aa below meth cd H locs 0 0 QQ (F0 m 30 ls [])) (G := (Sum.elim (fun (e30 : Int32 × Int32 × Int32 × Int32) => ∀ (H : Heap) (locs : List Loc) (ls : Array Slot), va_P E.1 vwCl (wd_X12_aRoster E a_o a_o_at a_o_names a_o_sort a_o_trayMany a_o_trays a_o_tape a_o_text a_o_opened a_o_farBy a_o_attendsBy a_o_coveredBy a_o_cameBy a_o_cameThen a_o_fallsBy a_o_loops a_o_ran a_o_told1 o_status o_top o_bottom o_taped o_size e30.1 e30.2.1 e30.2.2.1 e30.2.2.2 o_faultKind u20.2.2.2.2.2.1 u20.2.2.2.2.2.2.1 o_seen o_toldParts o_depth o_counted o_becameThen o_firstCorner o_drawn o_ranSteps o_isTold o_marks u20.2.2.2.2.2.2.2 o_names o_text) H → va_D A (wd_X12_aRoster E a_o a_o_at a_o_names a_o_sort a_o_trayMany a_o_trays a_o_tape a_o_text a_o_opened a_o_farBy a_o_attendsBy a_o_coveredBy a_o_cameBy a_o_cameThen a_o_fallsBy a_o_loops a_o_ran a_o_told1 o_status o_top o_bottom o_taped o_size e30.1 e30.2.1 e30.2.2.1 e30.2.2.2 o_faultKind u20.2.2.2.2.2.1 u20.2.2.2.2.2.2.1 o_seen o_toldParts o_depth o_counted o_becameThen o_firstCorner o_drawn o_ranSteps o_isTold o_marks u20.2.2.2.2.2.2.2 o_names o_text) → va_S A s.heap H locs → lv_has ls 4 [(0, .ref a_o)] → W p l e (rmd 7) s m aa below meth cd H locs 0 0 QQ (F0 m 59 ls [])) (Sum.elim (fun (e30 : Int32 × Int32 × Int32 × Int32) => ∀ (H : Heap) (locs : List Loc) (ls : Array Slot), va_P E.1 vwCl (wd_X12_aRoster E a_o a_o_at a_o_names a_o_sort a_o_trayMany a_o_trays a_o_tape a_o_text a_o_opened a_o_farBy a_o_attendsBy a_o_coveredBy a_o_cameBy a_o_cameThen a_o_fallsBy a_o_loops a_o_ran a_o_told1 o_status o_top o_bottom o_taped o_size e30.1 e30.2.1 e30.2.2.1 e30.2.2.2 o_faultKind u20.2.2.2.2.2.1 u20.2.2.2.2.2.2.1 o_seen o_toldParts o_depth o_counted o_becameThen o_firstCorner o_drawn o_ranSteps o_isTold o_marks u20.2.2.2.2.2.2.2 o_names o_text) H → va_D A (wd_X12_aRoster E a_o a_o_at a_o_names a_o_sort a_o_trayMany a_o_trays a_o_tape a_o_text a_o_opened a_o_farBy a_o_attendsBy a_o_coveredBy a_o_cameBy a_o_cameThen a_o_fallsBy a_o_loops a_o_ran a_o_told1 o_status o_top o_bottom o_taped o_size e30.1 e30.2.1 e30.2.2.1 e30.2.2.2 o_faultKind u20.2.2.2.2.2.1 u20.2.2.2.2.2.2.1 o_seen o_toldParts o_depth o_counted o_becameThen o_firstCorner o_drawn o_ranSteps o_isTold o_marks u20.2.2.2.2.2.2.2 o_names o_text) → va_S A s.heap H locs → lv_has ls 4 [(0, .ref a_o)] → W p l e (rmd 7) s m aa below meth cd H locs 0 0 QQ (F0 m 74 ls [])) (fun (e30 : Int32 × Int32 × Int32 × Int32 × Int32) => ∀ (H : Heap) (locs : List Loc) (ls : Array Slot), va_P E.1 vwCl (wd_X12_aRoster E a_o a_o_at a_o_names a_o_sort a_o_trayMany a_o_trays a_o_tape a_o_text a_o_opened a_o_farBy a_o_attendsBy a_o_coveredBy a_o_cameBy a_o_cameThen a_o_fallsBy a_o_loops a_o_ran a_o_told1 o_status o_top o_bottom o_taped o_size e30.2.1 e30.2.2.1 e30.2.2.2.1 e30.2.2.2.2 o_faultKind u20.2.2.2.2.2.1 u20.2.2.2.2.2.2.1 o_seen o_toldParts o_depth o_counted o_becameThen o_firstCorner o_drawn o_ranSteps o_isTold o_marks u20.2.2.2.2.2.2.2 o_names o_text) H → va_D A (wd_X12_aRoster E a_o a_o_at a_o_names a_o_sort a_o_trayMany a_o_trays a_o_tape a_o_text a_o_opened a_o_farBy a_o_attendsBy a_o_coveredBy a_o_cameBy a_o_cameThen a_o_fallsBy a_o_loops a_o_ran a_o_told1 o_status o_top o_bottom o_taped o_size e30.2.1 e30.2.2.1 e30.2.2.2.1 e30.2.2.2.2 o_faultKind u20.2.2.2.2.2.1 u20.2.2.2.2.2.2.1 o_seen o_toldParts o_depth o_counted o_becameThen o_firstCorner o_drawn o_ranSteps o_isTold o_marks u20.2.2.2.2.2.2.2 o_names o_text) → va_S A s.heap H locs → lv_has ls 4 [(0, .ref a_o), (1, .int 2467), (2, .int e30.1)] → W p l e (rmd 7) s m aa below meth cd H locs 0 0 QQ (F0 m 93 ls []))))) ?_ F (0, u20.2.1, u20.2.2.1, u20.2.2.2.1, u20.2.2.2.2.1) e30 hit30 ?_ _ _ _ hP hD hS (lv_sub hl [2, 1, 0] rfl)
    · intro st30 r30 hf hk30 he30 H locs ls hP hD hS hl
      unfold X12_aRoster_b30 at hf
      refine lv_aload_n hx hb dX12_aRoster_30 rfl (lv_at hl 0 rfl) ?_
      refine va_ldcS hx hb hown hX.2.2.2.2.1 dX12_aRoster_31 ?_
      obtain ⟨u33, hu33, hf⟩ := bd hf
      refine keepVI (ct_X12_isName l E F a_o a_o_at a_o_names a_o_sort a_o_trayMany a_o_trays a_o_tape a_o_text a_o_opened a_o_farBy a_o_attendsBy a_o_coveredBy a_o_cameBy a_o_cameThen a_o_fallsBy a_o_loops a_o_ran a_o_told1 o_status o_top o_bottom o_taped o_size st30.2.1 st30.2.2.1 st30.2.2.2.1 st30.2.2.2.2 o_faultKind u20.2.2.2.2.2.1 u20.2.2.2.2.2.2.1 o_seen o_toldParts o_depth o_counted o_becameThen o_firstCorner o_drawn o_ranSteps o_isTold o_marks o_text u33 hu33) [0, 3] cal_X12_isName cav_X12_isName lk_X12_183 cx hP hD hS hl dX12_aRoster_33 rfl rfl rfl rfl (Nat.le_of_ble_eq_true rfl) ⟨Nat.le_of_ble_eq_true rfl, Nat.le_of_ble_eq_true rfl⟩ rfl (by decide) (fun H locs hP hS => ?_)
      refine lv_if_eq (tgt := 93) hx hb dX12_aRoster_36 (by decide) (fun hc => ?_) (fun hc => ?_)
      · have hf := it_t hc hf
        exact he30 _ (Option.some.inj hf).symm _ _ _ hP hD hS (lv_sub hl [0, 1, 2] rfl)
      · have hf := it_f hc hf
        refine lv_aload_n hx hb dX12_aRoster_39 rfl (lv_at hl 0 rfl) ?_
        refine lv_bipush (v := 123) hx hb dX12_aRoster_40 (by decide) ?_
        refine lv_aload_n hx hb dX12_aRoster_42 rfl (lv_at hl 0 rfl) ?_
        refine va_get (D := E.1) (ci := 12) (v := .ref a_o_at) (C := RX12) (T := TX12) (N := 39) hx hb hts inX12 hown hK hP 0 rfl rfl 0 (by decide) (hts _ fl_X12_7) (fun _ h9 => h9) rfl dX12_aRoster_43 ?_
        refine lv_sipush (v := 1983) hx hb dX12_aRoster_46 (by decide) ?_
        obtain ⟨hi, hf⟩ := ck hf
        refine r_iald 1 cx hP rfl hi dX12_aRoster_49 ?_
        obtain ⟨u50, hu50, hf⟩ := bd hf
        refine keepVI (ct_X12_findHere l E F a_o a_o_at a_o_names a_o_sort a_o_trayMany a_o_trays a_o_tape a_o_text a_o_opened a_o_farBy a_o_attendsBy a_o_coveredBy a_o_cameBy a_o_cameThen a_o_fallsBy a_o_loops a_o_ran a_o_told1 o_status o_top o_bottom o_taped o_size st30.2.1 st30.2.2.1 st30.2.2.2.1 st30.2.2.2.2 o_faultKind u20.2.2.2.2.2.1 u20.2.2.2.2.2.2.1 o_seen o_toldParts o_depth o_counted o_becameThen o_firstCorner o_drawn o_ranSteps o_isTold o_marks o_names o_text (123 : Int32) (jat u20.2.2.2.2.2.2.2 1983) u50 hu50) [0, 2, 3] cal_X12_findHere cav_X12_findHere lk_X12_178 cx hP hD hS hl dX12_aRoster_50 rfl rfl rfl rfl (Nat.le_of_ble_eq_true rfl) ⟨Nat.le_of_ble_eq_true rfl, Nat.le_of_ble_eq_true rfl⟩ rfl (by decide) (fun H locs hP hS => ?_)
        refine lv_istore_n (lv' := [(3, .int u50), (0, .ref a_o), (1, .int 2467), (2, .int st30.1)]) hx hb dX12_aRoster_53 rfl hl (by decide) rfl (fun ls hl => ?_)
        refine lv_iload_n hx hb dX12_aRoster_54 rfl (lv_at hl 0 rfl) ?_
        refine lv_iconst (v := (-1)) hx hb dX12_aRoster_55 (by decide) ?_
        refine lv_icmp_ne (tgt := 65) hx hb dX12_aRoster_56 (by decide) (fun hc => ?_) (fun hc => ?_)
        · have hf := it_f hc hf
          refine lv_iload_n hx hb dX12_aRoster_65 rfl (lv_at hl 3 rfl) ?_
          refine lv_iload_n hx hb dX12_aRoster_66 rfl (lv_at hl 0 rfl) ?_
          refine r_ishr hx hb dX12_aRoster_67 ?_
          refine lv_iconst (v := 1) hx hb dX12_aRoster_68 (by decide) ?_
          refine lv_iand hx hb dX12_aRoster_69 ?_
          refine lv_iconst (v := 1) hx hb dX12_aRoster_70 (by decide) ?_
          refine lv_icmp_ne (tgt := 80) hx hb dX12_aRoster_71 (by decide) (fun hc => ?_) (fun hc => ?_)
          · have hf := it_f hc hf
            refine lv_iload_n hx hb dX12_aRoster_80 rfl (lv_at hl 3 rfl) ?_
            refine lv_iconst (v := 1) hx hb dX12_aRoster_81 (by decide) ?_
            refine lv_iload_n hx hb dX12_aRoster_82 rfl (lv_at hl 0 rfl) ?_
            refine r_ishl hx hb dX12_aRoster_83 ?_
            refine lv_ior hx hb dX12_aRoster_84 ?_
            refine lv_istore_n (lv' := [(2, .int (st30.1 ||| (jshl 1 u50))), (3, .int u50), (0, .ref a_o), (1, .int 2467)]) hx hb dX12_aRoster_85 rfl hl (by decide) rfl (fun ls hl => ?_)
            refine lv_aload_n hx hb dX12_aRoster_86 rfl (lv_at hl 2 rfl) ?_
            obtain ⟨u87, hu87, hf⟩ := bd hf
            refine callVV (wn := (wd_X12_aRoster E a_o a_o_at a_o_names a_o_sort a_o_trayMany a_o_trays a_o_tape a_o_text a_o_opened a_o_farBy a_o_attendsBy a_o_coveredBy a_o_cameBy a_o_cameThen a_o_fallsBy a_o_loops a_o_ran a_o_told1 o_status o_top o_bottom o_taped o_size u87.1 u87.2.1 u87.2.2.1 u87.2.2.2 o_faultKind u20.2.2.2.2.2.1 u20.2.2.2.2.2.2.1 o_seen o_toldParts o_depth o_counted o_becameThen o_firstCorner o_drawn o_ranSteps o_isTold o_marks u20.2.2.2.2.2.2.2 o_names o_text)) (n1 := 4) (ct_X12_ahead l E F a_o a_o_at a_o_names a_o_sort a_o_trayMany a_o_trays a_o_tape a_o_text a_o_opened a_o_farBy a_o_attendsBy a_o_coveredBy a_o_cameBy a_o_cameThen a_o_fallsBy a_o_loops a_o_ran a_o_told1 o_status o_top o_bottom o_taped o_size st30.2.1 st30.2.2.1 st30.2.2.2.1 st30.2.2.2.2 o_faultKind u20.2.2.2.2.2.1 u20.2.2.2.2.2.2.1 o_seen o_toldParts o_depth o_counted o_becameThen o_firstCorner o_drawn o_ranSteps o_isTold o_marks o_text u87 hu87) [0, 3] cal_X12_ahead cav_X12_ahead lk_X12_161 cx hP hD hS hl dX12_aRoster_87 rfl rfl rfl rfl (Nat.le_of_ble_eq_true rfl) ⟨Nat.le_of_ble_eq_true rfl, Nat.le_of_ble_eq_true rfl⟩ rfl (by decide +kernel) rfl [some 0, none, none, some 1] rfl (by decide +kernel) rfl (fun H locs hP hD hS => ?_)
            refine lv_goto (tgt := 30) hx hb dX12_aRoster_90 (by decide) ?_
            exact hk30 _ (Option.some.inj hf).symm _ _ _ hP hD hS (lv_sub hl [2, 3, 0] rfl)
          · have hf := it_t hc hf
            exact he30 _ (Option.some.inj hf).symm _ _ _ hP hD hS (lv_sub hl [1] rfl)
        · have hf := it_t hc hf
          exact he30 _ (Option.some.inj hf).symm _ _ _ hP hD hS (lv_sub hl [1] rfl)
    · rcases e30 with e30 | e30
      · have hf := se_l hf
        refine fun H locs ls hP hD hS hl => ?_
        refine lv_aload_n hx hb dX12_aRoster_59 rfl (lv_at hl 0 rfl) ?_
        refine lv_iconst (v := 3) hx hb dX12_aRoster_60 (by decide) ?_
        obtain ⟨u61, hu61, hf⟩ := bd hf
        refine callVI (wn := (wd_X12_aRoster E a_o a_o_at a_o_names a_o_sort a_o_trayMany a_o_trays a_o_tape a_o_text a_o_opened a_o_farBy a_o_attendsBy a_o_coveredBy a_o_cameBy a_o_cameThen a_o_fallsBy a_o_loops a_o_ran a_o_told1 o_status o_top o_bottom o_taped o_size e30.1 e30.2.1 e30.2.2.1 e30.2.2.2 o_faultKind u61.2.1 u61.2.2 o_seen o_toldParts o_depth o_counted o_becameThen o_firstCorner o_drawn o_ranSteps o_isTold o_marks u20.2.2.2.2.2.2.2 o_names o_text)) (n1 := 4) (ct_X12_fails l E a_o a_o_at a_o_names a_o_sort a_o_trayMany a_o_trays a_o_tape a_o_text a_o_opened a_o_farBy a_o_attendsBy a_o_coveredBy a_o_cameBy a_o_cameThen a_o_fallsBy a_o_loops a_o_ran a_o_told1 o_status o_top o_bottom o_taped o_size e30.1 e30.2.1 e30.2.2.1 e30.2.2.2 o_faultKind u20.2.2.2.2.2.1 u20.2.2.2.2.2.2.1 o_seen o_toldParts o_depth o_counted o_becameThen o_firstCorner o_drawn o_ranSteps o_isTold o_marks (3 : Int32) u61 hu61) [0] cal_X12_fails cav_X12_fails lk_X12_167 cx hP hD hS hl dX12_aRoster_61 rfl rfl rfl rfl (Nat.le_of_ble_eq_true rfl) ⟨Nat.le_of_ble_eq_true rfl, Nat.le_of_ble_eq_true rfl⟩ rfl (by decide +kernel) rfl [some 0, none, none, none] rfl (by decide +kernel) rfl (fun H locs hP hD hS => ?_)
        obtain ⟨hz, hf⟩ := ck hf
        obtain rfl := Option.some.inj hf
        subst hq
        exact retZ cx hz hP hD hS dX12_aRoster_64
      · have hf := se_r hf
        rcases e30 with e30 | e30
        · have hf := se_l hf
          refine fun H locs ls hP hD hS hl => ?_
          refine lv_aload_n hx hb dX12_aRoster_74 rfl (lv_at hl 0 rfl) ?_
          refine lv_iconst (v := 5) hx hb dX12_aRoster_75 (by decide) ?_
          obtain ⟨u76, hu76, hf⟩ := bd hf
          refine callVI (wn := (wd_X12_aRoster E a_o a_o_at a_o_names a_o_sort a_o_trayMany a_o_trays a_o_tape a_o_text a_o_opened a_o_farBy a_o_attendsBy a_o_coveredBy a_o_cameBy a_o_cameThen a_o_fallsBy a_o_loops a_o_ran a_o_told1 o_status o_top o_bottom o_taped o_size e30.1 e30.2.1 e30.2.2.1 e30.2.2.2 o_faultKind u76.2.1 u76.2.2 o_seen o_toldParts o_depth o_counted o_becameThen o_firstCorner o_drawn o_ranSteps o_isTold o_marks u20.2.2.2.2.2.2.2 o_names o_text)) (n1 := 4) (ct_X12_fails l E a_o a_o_at a_o_names a_o_sort a_o_trayMany a_o_trays a_o_tape a_o_text a_o_opened a_o_farBy a_o_attendsBy a_o_coveredBy a_o_cameBy a_o_cameThen a_o_fallsBy a_o_loops a_o_ran a_o_told1 o_status o_top o_bottom o_taped o_size e30.1 e30.2.1 e30.2.2.1 e30.2.2.2 o_faultKind u20.2.2.2.2.2.1 u20.2.2.2.2.2.2.1 o_seen o_toldParts o_depth o_counted o_becameThen o_firstCorner o_drawn o_ranSteps o_isTold o_marks (5 : Int32) u76 hu76) [0] cal_X12_fails cav_X12_fails lk_X12_167 cx hP hD hS hl dX12_aRoster_76 rfl rfl rfl rfl (Nat.le_of_ble_eq_true rfl) ⟨Nat.le_of_ble_eq_true rfl, Nat.le_of_ble_eq_true rfl⟩ rfl (by decide +kernel) rfl [some 0, none, none, none] rfl (by decide +kernel) rfl (fun H locs hP hD hS => ?_)
          obtain ⟨hz, hf⟩ := ck hf
          obtain rfl := Option.some.inj hf
          subst hq
          exact retZ cx hz hP hD hS dX12_aRoster_79
        · have hf := se_r hf
          refine fun H locs ls hP hD hS hl => ?_
          refine lv_aload_n hx hb dX12_aRoster_93 rfl (lv_at hl 0 rfl) ?_
          refine va_get (D := E.1) (ci := 12) (v := .ref a_o_at) (C := RX12) (T := TX12) (N := 39) hx hb hts inX12 hown hK hP 0 rfl rfl 0 (by decide) (hts _ fl_X12_7) (fun _ h9 => h9) rfl dX12_aRoster_94 ?_
          refine lv_sipush (v := 1980) hx hb dX12_aRoster_97 (by decide) ?_
          refine lv_aload_n hx hb dX12_aRoster_100 rfl (lv_at hl 0 rfl) ?_
          refine va_get (D := E.1) (ci := 12) (v := .ref a_o_at) (C := RX12) (T := TX12) (N := 39) hx hb hts inX12 hown hK hP 0 rfl rfl 0 (by decide) (hts _ fl_X12_7) (fun _ h9 => h9) rfl dX12_aRoster_101 ?_
          refine lv_iload_n hx hb dX12_aRoster_104 rfl (lv_at hl 1 rfl) ?_
          obtain ⟨hi, hf⟩ := ck hf
          refine r_iald 1 cx hP rfl hi dX12_aRoster_105 ?_
          obtain ⟨u106, hu106, hf⟩ := bd hf
          refine keepSI (ct_X12_extraRow l E (jat u20.2.2.2.2.2.2.2 2467) u106 hu106) [] cal_X12_extraRow sta_X12_extraRow lk_X12_211 cx hP hD hS hl dX12_aRoster_106 rfl rfl (Nat.le_of_ble_eq_true rfl) ⟨Nat.le_of_ble_eq_true rfl, Nat.le_of_ble_eq_true rfl⟩ rfl (by decide) (fun H locs hP hS => ?_)
          refine lv_iadd hx hb dX12_aRoster_109 ?_
          refine lv_iconst (v := 2) hx hb dX12_aRoster_110 (by decide) ?_
          refine lv_iadd hx hb dX12_aRoster_111 ?_
          refine lv_iload_n hx hb dX12_aRoster_112 rfl (lv_at hl 2 rfl) ?_
          obtain ⟨hi, hf⟩ := ck hf
          refine r_iast 1 cx hP hD hS rfl hi dX12_aRoster_113 (fun H locs hP hD hS => ?_)
          have hP : va_P E.1 vwCl (wd_X12_aRoster E a_o a_o_at a_o_names a_o_sort a_o_trayMany a_o_trays a_o_tape a_o_text a_o_opened a_o_farBy a_o_attendsBy a_o_coveredBy a_o_cameBy a_o_cameThen a_o_fallsBy a_o_loops a_o_ran a_o_told1 o_status o_top o_bottom o_taped o_size e30.2.1 e30.2.2.1 e30.2.2.2.1 e30.2.2.2.2 o_faultKind u20.2.2.2.2.2.1 u20.2.2.2.2.2.2.1 o_seen o_toldParts o_depth o_counted o_becameThen o_firstCorner o_drawn o_ranSteps o_isTold o_marks (jput u20.2.2.2.2.2.2.2 ((1980 + u106) + 2) e30.1) o_names o_text) H := hP
          have hD : va_D A (wd_X12_aRoster E a_o a_o_at a_o_names a_o_sort a_o_trayMany a_o_trays a_o_tape a_o_text a_o_opened a_o_farBy a_o_attendsBy a_o_coveredBy a_o_cameBy a_o_cameThen a_o_fallsBy a_o_loops a_o_ran a_o_told1 o_status o_top o_bottom o_taped o_size e30.2.1 e30.2.2.1 e30.2.2.2.1 e30.2.2.2.2 o_faultKind u20.2.2.2.2.2.1 u20.2.2.2.2.2.2.1 o_seen o_toldParts o_depth o_counted o_becameThen o_firstCorner o_drawn o_ranSteps o_isTold o_marks (jput u20.2.2.2.2.2.2.2 ((1980 + u106) + 2) e30.1) o_names o_text) := hD
          refine lv_iconst (v := 1) hx hb dX12_aRoster_114 (by decide) ?_
          obtain rfl := Option.some.inj hf
          subst hq
          exact retZ cx rfl hP hD hS dX12_aRoster_115
  · have hf := it_t hc hf
    refine lv_iconst (v := 0) hx hb dX12_aRoster_26 (by decide) ?_
    obtain rfl := Option.some.inj hf
    subst hq
    exact retZ cx rfl hP hD hS dX12_aRoster_27
def X12_cityPart_j220 (F : Nat) (o_size : Int32) (o_token : Int32) (o_from : Int32) (o_end : Int32) (o_value : Int32) (o_faultPlace : Int32) (o_faults : Int32) (o_toldParts : Int32) (o_at : Nat → Int32) (o_names : Nat → Int64) (o_text : Nat → Int32) : Option (Int32 × Int32 × Int32 × Int32 × Int32 × Int32 × Int32 × Int32 × (Nat → Int32) × (Nat → Int64)) :=
  some (0, o_token, o_from, o_end, o_value, o_faultPlace, o_faults, o_toldParts, o_at, o_names)
def X12_cityPart_j203 (F : Nat) (o_size : Int32) (o_token : Int32) (o_from : Int32) (o_end : Int32) (o_value : Int32) (o_faultPlace : Int32) (o_faults : Int32) (o_toldParts : Int32) (o_at : Nat → Int32) (o_names : Nat → Int64) (o_text : Nat → Int32) (v2 : Int32) : Option (Int32 × Int32 × Int32 × Int32 × Int32 × Int32 × Int32 × Int32 × (Nat → Int32) × (Nat → Int64)) :=
  if v2 = 0 then
  X12_cityPart_j220 F o_size o_token o_from o_end o_value o_faultPlace o_faults o_toldParts o_at o_names o_text
  else
  (X12_wantSign F o_size o_token o_from o_end o_value o_faultPlace o_faults o_text (59 : Int32)).bind fun u210 =>
  if u210.1 = 0 then
  X12_cityPart_j220 F o_size u210.2.1 u210.2.2.1 u210.2.2.2.1 u210.2.2.2.2.1 u210.2.2.2.2.2.1 u210.2.2.2.2.2.2 o_toldParts o_at o_names o_text
  else
  some (1, u210.2.1, u210.2.2.1, u210.2.2.2.1, u210.2.2.2.2.1, u210.2.2.2.2.2.1, u210.2.2.2.2.2.2, o_toldParts, o_at, o_names)
def X12_cityPart_j67 (F : Nat) (o_size : Int32) (o_token : Int32) (o_from : Int32) (o_end : Int32) (o_value : Int32) (o_faultPlace : Int32) (o_faults : Int32) (o_toldParts : Int32) (o_at : Nat → Int32) (o_names : Nat → Int64) (o_text : Nat → Int32) (v1 : Int32) : Option (Int32 × Int32 × Int32 × Int32 × Int32 × Int32 × Int32 × Int32 × (Nat → Int32) × (Nat → Int64)) :=
  if v1 = 0 then
  (X12_number F o_size o_token o_from o_end o_value o_faultPlace o_faults o_at o_text (1985 : Int32) (0 : Int32) (99 : Int32)).bind fun u123 =>
  X12_cityPart_j203 F o_size u123.2.1 u123.2.2.1 u123.2.2.2.1 u123.2.2.2.2.1 u123.2.2.2.2.2.1 u123.2.2.2.2.2.2.1 o_toldParts u123.2.2.2.2.2.2.2 o_names o_text u123.1
  else if v1 = 1 then
  (X12_number F o_size o_token o_from o_end o_value o_faultPlace o_faults o_at o_text (1986 : Int32) (1 : Int32) (24 : Int32)).bind fun u137 =>
  X12_cityPart_j203 F o_size u137.2.1 u137.2.2.1 u137.2.2.2.1 u137.2.2.2.2.1 u137.2.2.2.2.2.1 u137.2.2.2.2.2.2.1 o_toldParts u137.2.2.2.2.2.2.2 o_names o_text u137.1
  else if v1 = 2 then
  (X12_number F o_size o_token o_from o_end o_value o_faultPlace o_faults o_at o_text (1987 : Int32) (0 : Int32) (16 : Int32)).bind fun u151 =>
  X12_cityPart_j203 F o_size u151.2.1 u151.2.2.1 u151.2.2.2.1 u151.2.2.2.2.1 u151.2.2.2.2.2.1 u151.2.2.2.2.2.2.1 o_toldParts u151.2.2.2.2.2.2.2 o_names o_text u151.1
  else if v1 = 3 then
  (X12_aCorner F o_size o_token o_from o_end o_value o_faultPlace o_faults o_at o_names o_text).bind fun u159 =>
  X12_cityPart_j203 F o_size u159.2.1 u159.2.2.1 u159.2.2.2.1 u159.2.2.2.2.1 u159.2.2.2.2.2.1 u159.2.2.2.2.2.2.1 o_toldParts u159.2.2.2.2.2.2.2.1 u159.2.2.2.2.2.2.2.2 o_text u159.1
  else if v1 = 4 then
  (X12_aRoad F o_size o_token o_from o_end o_value o_faultPlace o_faults o_at o_names o_text).bind fun u167 =>
  X12_cityPart_j203 F o_size u167.2.1 u167.2.2.1 u167.2.2.2.1 u167.2.2.2.2.1 u167.2.2.2.2.2.1 u167.2.2.2.2.2.2.1 o_toldParts u167.2.2.2.2.2.2.2 o_names o_text u167.1
  else if v1 = 5 then
  (X12_anExtra F o_size o_token o_from o_end o_value o_faultPlace o_faults o_at o_names o_text).bind fun u175 =>
  X12_cityPart_j203 F o_size u175.2.1 u175.2.2.1 u175.2.2.2.1 u175.2.2.2.2.1 u175.2.2.2.2.2.1 u175.2.2.2.2.2.2.1 o_toldParts u175.2.2.2.2.2.2.2.1 u175.2.2.2.2.2.2.2.2 o_text u175.1
  else if v1 = 6 then
  (X12_aHappening F o_size o_token o_from o_end o_value o_faultPlace o_faults o_at o_names o_text).bind fun u183 =>
  X12_cityPart_j203 F o_size u183.2.1 u183.2.2.1 u183.2.2.2.1 u183.2.2.2.2.1 u183.2.2.2.2.2.1 u183.2.2.2.2.2.2.1 o_toldParts u183.2.2.2.2.2.2.2.1 u183.2.2.2.2.2.2.2.2 o_text u183.1
  else if v1 = 7 then
  (X12_aWatcher F o_size o_token o_from o_end o_value o_faultPlace o_faults o_at o_names o_text).bind fun u191 =>
  X12_cityPart_j203 F o_size u191.2.1 u191.2.2.1 u191.2.2.2.1 u191.2.2.2.2.1 u191.2.2.2.2.2.1 u191.2.2.2.2.2.2.1 o_toldParts u191.2.2.2.2.2.2.2.1 u191.2.2.2.2.2.2.2.2 o_text u191.1
  else (X12_aRoster F o_size o_token o_from o_end o_value o_faultPlace o_faults o_at o_names o_text).bind fun u199 =>
  X12_cityPart_j203 F o_size u199.2.1 u199.2.2.1 u199.2.2.2.1 u199.2.2.2.2.1 u199.2.2.2.2.2.1 u199.2.2.2.2.2.2.1 o_toldParts u199.2.2.2.2.2.2.2 o_names o_text u199.1
def X12_cityPart_j46 (F : Nat) (o_size : Int32) (o_token : Int32) (o_from : Int32) (o_end : Int32) (o_value : Int32) (o_faultPlace : Int32) (o_faults : Int32) (o_toldParts : Int32) (o_at : Nat → Int32) (o_names : Nat → Int64) (o_text : Nat → Int32) (v1 : Int32) : Option (Int32 × Int32 × Int32 × Int32 × Int32 × Int32 × Int32 × Int32 × (Nat → Int32) × (Nat → Int64)) :=
  if (2 : Int32) < v1 then
  X12_cityPart_j67 F o_size o_token o_from o_end o_value o_faultPlace o_faults (o_toldParts ||| (jshl 1 v1)) o_at o_names o_text v1
  else
  (X12_ahead F o_size o_token o_from o_end o_value o_text).bind fun u64 =>
  X12_cityPart_j67 F o_size u64.1 u64.2.1 u64.2.2.1 u64.2.2.2 o_faultPlace o_faults (o_toldParts ||| (jshl 1 v1)) o_at o_names o_text v1
def X12_cityPart_j17 (F : Nat) (o_size : Int32) (o_token : Int32) (o_from : Int32) (o_end : Int32) (o_value : Int32) (o_faultPlace : Int32) (o_faults : Int32) (o_toldParts : Int32) (o_at : Nat → Int32) (o_names : Nat → Int64) (o_text : Nat → Int32) : Option (Int32 × Int32 × Int32 × Int32 × Int32 × Int32 × Int32 × Int32 × (Nat → Int32) × (Nat → Int64)) :=
  (X12_fails o_token o_from o_faultPlace o_faults (2 : Int32)).bind fun u19 =>
  if isZ u19.1 then some (u19.1, o_token, o_from, o_end, o_value, u19.2.1, u19.2.2, o_toldParts, o_at, o_names) else none
def X12_cityPart (F : Nat) (o_size : Int32) (o_token : Int32) (o_from : Int32) (o_end : Int32) (o_value : Int32) (o_faultPlace : Int32) (o_faults : Int32) (o_toldParts : Int32) (o_at : Nat → Int32) (o_names : Nat → Int64) (o_text : Nat → Int32) : Option (Int32 × Int32 × Int32 × Int32 × Int32 × Int32 × Int32 × Int32 × (Nat → Int32) × (Nat → Int64)) :=
  (X12_inWords F o_size o_token o_from o_end o_text).bind fun u3 =>
  if u3 < 0 then
  X12_cityPart_j17 F o_size o_token o_from o_end o_value o_faultPlace o_faults o_toldParts o_at o_names o_text
  else
  if u3 ≤ 8 then
  if (2 : Int32) < u3 then
  X12_cityPart_j46 F o_size o_token o_from o_end o_value o_faultPlace o_faults o_toldParts o_at o_names o_text u3
  else
  if ((jshr o_toldParts u3) &&& 1) = 1 then
  (X12_fails o_token o_from o_faultPlace o_faults (5 : Int32)).bind fun u42 =>
  if isZ u42.1 then some (u42.1, o_token, o_from, o_end, o_value, u42.2.1, u42.2.2, o_toldParts, o_at, o_names) else none
  else
  X12_cityPart_j46 F o_size o_token o_from o_end o_value o_faultPlace o_faults o_toldParts o_at o_names o_text u3
  else
  X12_cityPart_j17 F o_size o_token o_from o_end o_value o_faultPlace o_faults o_toldParts o_at o_names o_text
abbrev wd_X12_cityPart (E : vE) (a_o a_o_at a_o_names a_o_sort a_o_trayMany a_o_trays a_o_tape a_o_text a_o_opened a_o_farBy a_o_attendsBy a_o_coveredBy a_o_cameBy a_o_cameThen a_o_fallsBy a_o_loops a_o_ran a_o_told1 : Nat) (o_status : Int32) (o_top : Int64) (o_bottom : Int64) (o_taped : Int32) (o_size : Int32) (o_token : Int32) (o_from : Int32) (o_end : Int32) (o_value : Int32) (o_faultKind : Int32) (o_faultPlace : Int32) (o_faults : Int32) (o_seen : Int32) (o_toldParts : Int32) (o_depth : Int32) (o_counted : Int32) (o_becameThen : Int32) (o_firstCorner : Int32) (o_drawn : Int32) (o_ranSteps : Int32) (o_isTold : Int32) (o_marks : Int32) (o_at : Nat → Int32) (o_names : Nat → Int64) (o_text : Nat → Int32) : va_W := [(a_o, .inr (12, [.ref a_o_at, .ref a_o_names, .int o_status, .long o_top, .long o_bottom, .ref a_o_sort, .ref a_o_trayMany, .ref a_o_trays, .ref a_o_tape, .ref a_o_text, .int o_taped, .int o_size, .int o_token, .int o_from, .int o_end, .int o_value, .int o_faultKind, .int o_faultPlace, .int o_faults, .int o_seen, .int o_toldParts, .ref a_o_opened, .int o_depth, .int o_counted, .ref a_o_farBy, .int o_becameThen, .ref a_o_attendsBy, .ref a_o_coveredBy, .ref a_o_cameBy, .ref a_o_cameThen, .int o_firstCorner, .ref a_o_fallsBy, .int o_drawn, .int o_ranSteps, .ref a_o_loops, .ref a_o_ran, .ref a_o_told1, .int o_isTold, .int o_marks])), (a_o_at, .inl (E.2.1, 3097, .inl o_at)), (a_o_names, .inl (E.2.2.1, 162, .inr (.inl o_names))), (a_o_text, .inl (E.2.2.2.1, 900, .inl o_text))]
set_option maxHeartbeats 4000000 in
set_option maxRecDepth 100000 in
theorem ct_X12_cityPart (l : Launch) (E : vE) (F : Nat) (a_o a_o_at a_o_names a_o_sort a_o_trayMany a_o_trays a_o_tape a_o_text a_o_opened a_o_farBy a_o_attendsBy a_o_coveredBy a_o_cameBy a_o_cameThen a_o_fallsBy a_o_loops a_o_ran a_o_told1 : Nat) (o_status : Int32) (o_top : Int64) (o_bottom : Int64) (o_taped : Int32) (o_size : Int32) (o_token : Int32) (o_from : Int32) (o_end : Int32) (o_value : Int32) (o_faultKind : Int32) (o_faultPlace : Int32) (o_faults : Int32) (o_seen : Int32) (o_toldParts : Int32) (o_depth : Int32) (o_counted : Int32) (o_becameThen : Int32) (o_firstCorner : Int32) (o_drawn : Int32) (o_ranSteps : Int32) (o_isTold : Int32) (o_marks : Int32) (o_at : Nat → Int32) (o_names : Nat → Int64) (o_text : Nat → Int32) (u : Int32 × Int32 × Int32 × Int32 × Int32 × Int32 × Int32 × Int32 × (Nat → Int32) × (Nat → Int64)) (hf : X12_cityPart F o_size o_token o_from o_end o_value o_faultPlace o_faults o_toldParts o_at o_names o_text = some u) :
    CtI l yX12_cityPart cX12_cityPart 3 (some .boolean) 9 E [.ref a_o] (wd_X12_cityPart E a_o a_o_at a_o_names a_o_sort a_o_trayMany a_o_trays a_o_tape a_o_text a_o_opened a_o_farBy a_o_attendsBy a_o_coveredBy a_o_cameBy a_o_cameThen a_o_fallsBy a_o_loops a_o_ran a_o_told1 o_status o_top o_bottom o_taped o_size o_token o_from o_end o_value o_faultKind o_faultPlace o_faults o_seen o_toldParts o_depth o_counted o_becameThen o_firstCorner o_drawn o_ranSteps o_isTold o_marks o_at o_names o_text) (wd_X12_cityPart E a_o a_o_at a_o_names a_o_sort a_o_trayMany a_o_trays a_o_tape a_o_text a_o_opened a_o_farBy a_o_attendsBy a_o_coveredBy a_o_cameBy a_o_cameThen a_o_fallsBy a_o_loops a_o_ran a_o_told1 o_status o_top o_bottom o_taped o_size u.2.1 u.2.2.1 u.2.2.2.1 u.2.2.2.2.1 o_faultKind u.2.2.2.2.2.1 u.2.2.2.2.2.2.1 o_seen u.2.2.2.2.2.2.2.1 o_depth o_counted o_becameThen o_firstCorner o_drawn o_ranSteps o_isTold o_marks u.2.2.2.2.2.2.2.2.1 u.2.2.2.2.2.2.2.2.2 o_text) u.1 := by
  refine ctI (by decide) (Nat.le_of_ble_eq_true rfl) ?_
  intro p e s m below meth cd A ls aa QQ hq cx hP hD hS hl
  obtain ⟨⟨hx, hb, hml, hown, hts⟩, hr, hlocks, hK, hA, hX⟩ := id cx
  have hl : lv_has ls 3 [(0, .ref a_o)] := hl
  have hj220 : ∀ (o_token_j220 : Int32) (o_from_j220 : Int32) (o_end_j220 : Int32) (o_value_j220 : Int32) (o_faultPlace_j220 : Int32) (o_faults_j220 : Int32) (o_toldParts_j220 : Int32) (o_at_j220 : Nat → Int32) (o_names_j220 : Nat → Int64) (H : Heap) (locs : List Loc) (ls : Array Slot), X12_cityPart_j220 F o_size o_token_j220 o_from_j220 o_end_j220 o_value_j220 o_faultPlace_j220 o_faults_j220 o_toldParts_j220 o_at_j220 o_names_j220 o_text = some u → va_P E.1 vwCl (wd_X12_cityPart E a_o a_o_at a_o_names a_o_sort a_o_trayMany a_o_trays a_o_tape a_o_text a_o_opened a_o_farBy a_o_attendsBy a_o_coveredBy a_o_cameBy a_o_cameThen a_o_fallsBy a_o_loops a_o_ran a_o_told1 o_status o_top o_bottom o_taped o_size o_token_j220 o_from_j220 o_end_j220 o_value_j220 o_faultKind o_faultPlace_j220 o_faults_j220 o_seen o_toldParts_j220 o_depth o_counted o_becameThen o_firstCorner o_drawn o_ranSteps o_isTold o_marks o_at_j220 o_names_j220 o_text) H → va_D A (wd_X12_cityPart E a_o a_o_at a_o_names a_o_sort a_o_trayMany a_o_trays a_o_tape a_o_text a_o_opened a_o_farBy a_o_attendsBy a_o_coveredBy a_o_cameBy a_o_cameThen a_o_fallsBy a_o_loops a_o_ran a_o_told1 o_status o_top o_bottom o_taped o_size o_token_j220 o_from_j220 o_end_j220 o_value_j220 o_faultKind o_faultPlace_j220 o_faults_j220 o_seen o_toldParts_j220 o_depth o_counted o_becameThen o_firstCorner o_drawn o_ranSteps o_isTold o_marks o_at_j220 o_names_j220 o_text) → va_S A s.heap H locs → lv_has ls 3 [] → W p l e (rmd 9) s m aa below meth cd H locs 0 0 QQ (F0 m 220 ls []) := by
    intro o_token_j220 o_from_j220 o_end_j220 o_value_j220 o_faultPlace_j220 o_faults_j220 o_toldParts_j220 o_at_j220 o_names_j220 H locs ls hf hP hD hS hl
    unfold X12_cityPart_j220 at hf
    refine lv_iconst (v := 0) hx hb dX12_cityPart_220 (by decide) ?_
    obtain rfl := Option.some.inj hf
    subst hq
    exact retZ cx rfl hP hD hS dX12_cityPart_221
  have hj203 : ∀ (v2_j203 : Int32) (o_token_j203 : Int32) (o_from_j203 : Int32) (o_end_j203 : Int32) (o_value_j203 : Int32) (o_faultPlace_j203 : Int32) (o_faults_j203 : Int32) (o_toldParts_j203 : Int32) (o_at_j203 : Nat → Int32) (o_names_j203 : Nat → Int64) (H : Heap) (locs : List Loc) (ls : Array Slot), X12_cityPart_j203 F o_size o_token_j203 o_from_j203 o_end_j203 o_value_j203 o_faultPlace_j203 o_faults_j203 o_toldParts_j203 o_at_j203 o_names_j203 o_text v2_j203 = some u → va_P E.1 vwCl (wd_X12_cityPart E a_o a_o_at a_o_names a_o_sort a_o_trayMany a_o_trays a_o_tape a_o_text a_o_opened a_o_farBy a_o_attendsBy a_o_coveredBy a_o_cameBy a_o_cameThen a_o_fallsBy a_o_loops a_o_ran a_o_told1 o_status o_top o_bottom o_taped o_size o_token_j203 o_from_j203 o_end_j203 o_value_j203 o_faultKind o_faultPlace_j203 o_faults_j203 o_seen o_toldParts_j203 o_depth o_counted o_becameThen o_firstCorner o_drawn o_ranSteps o_isTold o_marks o_at_j203 o_names_j203 o_text) H → va_D A (wd_X12_cityPart E a_o a_o_at a_o_names a_o_sort a_o_trayMany a_o_trays a_o_tape a_o_text a_o_opened a_o_farBy a_o_attendsBy a_o_coveredBy a_o_cameBy a_o_cameThen a_o_fallsBy a_o_loops a_o_ran a_o_told1 o_status o_top o_bottom o_taped o_size o_token_j203 o_from_j203 o_end_j203 o_value_j203 o_faultKind o_faultPlace_j203 o_faults_j203 o_seen o_toldParts_j203 o_depth o_counted o_becameThen o_firstCorner o_drawn o_ranSteps o_isTold o_marks o_at_j203 o_names_j203 o_text) → va_S A s.heap H locs → lv_has ls 3 [(0, .ref a_o), (2, .int v2_j203)] → W p l e (rmd 9) s m aa below meth cd H locs 0 0 QQ (F0 m 203 ls []) := by
    intro v2_j203 o_token_j203 o_from_j203 o_end_j203 o_value_j203 o_faultPlace_j203 o_faults_j203 o_toldParts_j203 o_at_j203 o_names_j203 H locs ls hf hP hD hS hl
    unfold X12_cityPart_j203 at hf
    refine lv_iload_n hx hb dX12_cityPart_203 rfl (lv_at hl 1 rfl) ?_
    refine lv_if_eq (tgt := 220) hx hb dX12_cityPart_204 (by decide) (fun hc => ?_) (fun hc => ?_)
    · have hf := it_t hc hf
      exact hj220 _ _ _ _ _ _ _ _ _ _ _ _ hf hP hD hS (lv_sub hl [] rfl)
    · have hf := it_f hc hf
      refine lv_aload_n hx hb dX12_cityPart_207 rfl (lv_at hl 0 rfl) ?_
      refine lv_bipush (v := 59) hx hb dX12_cityPart_208 (by decide) ?_
      obtain ⟨u210, hu210, hf⟩ := bd hf
      refine callVI (wn := (wd_X12_cityPart E a_o a_o_at a_o_names a_o_sort a_o_trayMany a_o_trays a_o_tape a_o_text a_o_opened a_o_farBy a_o_attendsBy a_o_coveredBy a_o_cameBy a_o_cameThen a_o_fallsBy a_o_loops a_o_ran a_o_told1 o_status o_top o_bottom o_taped o_size u210.2.1 u210.2.2.1 u210.2.2.2.1 u210.2.2.2.2.1 o_faultKind u210.2.2.2.2.2.1 u210.2.2.2.2.2.2 o_seen o_toldParts_j203 o_depth o_counted o_becameThen o_firstCorner o_drawn o_ranSteps o_isTold o_marks o_at_j203 o_names_j203 o_text)) (n1 := 4) (ct_X12_wantSign l E F a_o a_o_at a_o_names a_o_sort a_o_trayMany a_o_trays a_o_tape a_o_text a_o_opened a_o_farBy a_o_attendsBy a_o_coveredBy a_o_cameBy a_o_cameThen a_o_fallsBy a_o_loops a_o_ran a_o_told1 o_status o_top o_bottom o_taped o_size o_token_j203 o_from_j203 o_end_j203 o_value_j203 o_faultKind o_faultPlace_j203 o_faults_j203 o_seen o_toldParts_j203 o_depth o_counted o_becameThen o_firstCorner o_drawn o_ranSteps o_isTold o_marks o_text (59 : Int32) u210 hu210) [0, 3] cal_X12_wantSign cav_X12_wantSign lk_X12_241 cx hP hD hS hl dX12_cityPart_210 rfl rfl rfl rfl (Nat.le_of_ble_eq_true rfl) ⟨Nat.le_of_ble_eq_true rfl, Nat.le_of_ble_eq_true rfl⟩ rfl (by decide +kernel) rfl [some 0, none, none, some 1] rfl (by decide +kernel) rfl (fun H locs hP hD hS => ?_)
      refine lv_if_eq (tgt := 220) hx hb dX12_cityPart_213 (by decide) (fun hc => ?_) (fun hc => ?_)
      · have hf := it_t hc hf
        exact hj220 _ _ _ _ _ _ _ _ _ _ _ _ hf hP hD hS (lv_sub hl [] rfl)
      · have hf := it_f hc hf
        refine lv_iconst (v := 1) hx hb dX12_cityPart_216 (by decide) ?_
        refine lv_goto (tgt := 221) hx hb dX12_cityPart_217 (by decide) ?_
        obtain rfl := Option.some.inj hf
        subst hq
        exact retZ cx rfl hP hD hS dX12_cityPart_221
  have hj67 : ∀ (v1_j67 : Int32) (o_token_j67 : Int32) (o_from_j67 : Int32) (o_end_j67 : Int32) (o_value_j67 : Int32) (o_faultPlace_j67 : Int32) (o_faults_j67 : Int32) (o_toldParts_j67 : Int32) (o_at_j67 : Nat → Int32) (o_names_j67 : Nat → Int64) (H : Heap) (locs : List Loc) (ls : Array Slot), X12_cityPart_j67 F o_size o_token_j67 o_from_j67 o_end_j67 o_value_j67 o_faultPlace_j67 o_faults_j67 o_toldParts_j67 o_at_j67 o_names_j67 o_text v1_j67 = some u → va_P E.1 vwCl (wd_X12_cityPart E a_o a_o_at a_o_names a_o_sort a_o_trayMany a_o_trays a_o_tape a_o_text a_o_opened a_o_farBy a_o_attendsBy a_o_coveredBy a_o_cameBy a_o_cameThen a_o_fallsBy a_o_loops a_o_ran a_o_told1 o_status o_top o_bottom o_taped o_size o_token_j67 o_from_j67 o_end_j67 o_value_j67 o_faultKind o_faultPlace_j67 o_faults_j67 o_seen o_toldParts_j67 o_depth o_counted o_becameThen o_firstCorner o_drawn o_ranSteps o_isTold o_marks o_at_j67 o_names_j67 o_text) H → va_D A (wd_X12_cityPart E a_o a_o_at a_o_names a_o_sort a_o_trayMany a_o_trays a_o_tape a_o_text a_o_opened a_o_farBy a_o_attendsBy a_o_coveredBy a_o_cameBy a_o_cameThen a_o_fallsBy a_o_loops a_o_ran a_o_told1 o_status o_top o_bottom o_taped o_size o_token_j67 o_from_j67 o_end_j67 o_value_j67 o_faultKind o_faultPlace_j67 o_faults_j67 o_seen o_toldParts_j67 o_depth o_counted o_becameThen o_firstCorner o_drawn o_ranSteps o_isTold o_marks o_at_j67 o_names_j67 o_text) → va_S A s.heap H locs → lv_has ls 3 [(0, .ref a_o), (1, .int v1_j67)] → W p l e (rmd 9) s m aa below meth cd H locs 0 0 QQ (F0 m 67 ls []) := by
    intro v1_j67 o_token_j67 o_from_j67 o_end_j67 o_value_j67 o_faultPlace_j67 o_faults_j67 o_toldParts_j67 o_at_j67 o_names_j67 H locs ls hf hP hD hS hl
    unfold X12_cityPart_j67 at hf
    refine lv_iload_n hx hb dX12_cityPart_67 rfl (lv_at hl 1 rfl) ?_
    by_cases hc1 : v1_j67 = 0
    · have hf := it_t hc1 hf
      refine swT (tgt := 116) 0 cx dX12_cityPart_68 (by rw [hc1]; decide) (by decide) rfl (by decide) ?_
      refine lv_aload_n hx hb dX12_cityPart_116 rfl (lv_at hl 0 rfl) ?_
      refine lv_sipush (v := 1985) hx hb dX12_cityPart_117 (by decide) ?_
      refine lv_iconst (v := 0) hx hb dX12_cityPart_120 (by decide) ?_
      refine lv_bipush (v := 99) hx hb dX12_cityPart_121 (by decide) ?_
      obtain ⟨u123, hu123, hf⟩ := bd hf
      refine callVI (wn := (wd_X12_cityPart E a_o a_o_at a_o_names a_o_sort a_o_trayMany a_o_trays a_o_tape a_o_text a_o_opened a_o_farBy a_o_attendsBy a_o_coveredBy a_o_cameBy a_o_cameThen a_o_fallsBy a_o_loops a_o_ran a_o_told1 o_status o_top o_bottom o_taped o_size u123.2.1 u123.2.2.1 u123.2.2.2.1 u123.2.2.2.2.1 o_faultKind u123.2.2.2.2.2.1 u123.2.2.2.2.2.2.1 o_seen o_toldParts_j67 o_depth o_counted o_becameThen o_firstCorner o_drawn o_ranSteps o_isTold o_marks u123.2.2.2.2.2.2.2 o_names_j67 o_text)) (n1 := 4) (ct_X12_number l E F a_o a_o_at a_o_names a_o_sort a_o_trayMany a_o_trays a_o_tape a_o_text a_o_opened a_o_farBy a_o_attendsBy a_o_coveredBy a_o_cameBy a_o_cameThen a_o_fallsBy a_o_loops a_o_ran a_o_told1 o_status o_top o_bottom o_taped o_size o_token_j67 o_from_j67 o_end_j67 o_value_j67 o_faultKind o_faultPlace_j67 o_faults_j67 o_seen o_toldParts_j67 o_depth o_counted o_becameThen o_firstCorner o_drawn o_ranSteps o_isTold o_marks o_at_j67 o_text (1985 : Int32) (0 : Int32) (99 : Int32) u123 hu123) [0, 1, 3] cal_X12_number cav_X12_number lk_X12_208 cx hP hD hS hl dX12_cityPart_123 rfl rfl rfl rfl (Nat.le_of_ble_eq_true rfl) ⟨Nat.le_of_ble_eq_true rfl, Nat.le_of_ble_eq_true rfl⟩ rfl (by decide +kernel) rfl [some 0, some 1, none, some 2] rfl (by decide +kernel) rfl (fun H locs hP hD hS => ?_)
      refine lv_istore_n (lv' := [(2, .int u123.1), (0, .ref a_o), (1, .int v1_j67)]) hx hb dX12_cityPart_126 rfl hl (by decide) rfl (fun ls hl => ?_)
      refine lv_goto (tgt := 203) hx hb dX12_cityPart_127 (by decide) ?_
      exact hj203 _ _ _ _ _ _ _ _ _ _ _ _ _ hf hP hD hS (lv_sub hl [1, 0] rfl)
    · have hf := it_f hc1 hf
      by_cases hc2 : v1_j67 = 1
      · have hf := it_t hc2 hf
        refine swT (tgt := 130) 1 cx dX12_cityPart_68 (by rw [hc2]; decide) (by decide) rfl (by decide) ?_
        refine lv_aload_n hx hb dX12_cityPart_130 rfl (lv_at hl 0 rfl) ?_
        refine lv_sipush (v := 1986) hx hb dX12_cityPart_131 (by decide) ?_
        refine lv_iconst (v := 1) hx hb dX12_cityPart_134 (by decide) ?_
        refine lv_bipush (v := 24) hx hb dX12_cityPart_135 (by decide) ?_
        obtain ⟨u137, hu137, hf⟩ := bd hf
        refine callVI (wn := (wd_X12_cityPart E a_o a_o_at a_o_names a_o_sort a_o_trayMany a_o_trays a_o_tape a_o_text a_o_opened a_o_farBy a_o_attendsBy a_o_coveredBy a_o_cameBy a_o_cameThen a_o_fallsBy a_o_loops a_o_ran a_o_told1 o_status o_top o_bottom o_taped o_size u137.2.1 u137.2.2.1 u137.2.2.2.1 u137.2.2.2.2.1 o_faultKind u137.2.2.2.2.2.1 u137.2.2.2.2.2.2.1 o_seen o_toldParts_j67 o_depth o_counted o_becameThen o_firstCorner o_drawn o_ranSteps o_isTold o_marks u137.2.2.2.2.2.2.2 o_names_j67 o_text)) (n1 := 4) (ct_X12_number l E F a_o a_o_at a_o_names a_o_sort a_o_trayMany a_o_trays a_o_tape a_o_text a_o_opened a_o_farBy a_o_attendsBy a_o_coveredBy a_o_cameBy a_o_cameThen a_o_fallsBy a_o_loops a_o_ran a_o_told1 o_status o_top o_bottom o_taped o_size o_token_j67 o_from_j67 o_end_j67 o_value_j67 o_faultKind o_faultPlace_j67 o_faults_j67 o_seen o_toldParts_j67 o_depth o_counted o_becameThen o_firstCorner o_drawn o_ranSteps o_isTold o_marks o_at_j67 o_text (1986 : Int32) (1 : Int32) (24 : Int32) u137 hu137) [0, 1, 3] cal_X12_number cav_X12_number lk_X12_208 cx hP hD hS hl dX12_cityPart_137 rfl rfl rfl rfl (Nat.le_of_ble_eq_true rfl) ⟨Nat.le_of_ble_eq_true rfl, Nat.le_of_ble_eq_true rfl⟩ rfl (by decide +kernel) rfl [some 0, some 1, none, some 2] rfl (by decide +kernel) rfl (fun H locs hP hD hS => ?_)
        refine lv_istore_n (lv' := [(2, .int u137.1), (0, .ref a_o), (1, .int v1_j67)]) hx hb dX12_cityPart_140 rfl hl (by decide) rfl (fun ls hl => ?_)
        refine lv_goto (tgt := 203) hx hb dX12_cityPart_141 (by decide) ?_
        exact hj203 _ _ _ _ _ _ _ _ _ _ _ _ _ hf hP hD hS (lv_sub hl [1, 0] rfl)
      · have hf := it_f hc2 hf
        by_cases hc3 : v1_j67 = 2
        · have hf := it_t hc3 hf
          refine swT (tgt := 144) 2 cx dX12_cityPart_68 (by rw [hc3]; decide) (by decide) rfl (by decide) ?_
          refine lv_aload_n hx hb dX12_cityPart_144 rfl (lv_at hl 0 rfl) ?_
          refine lv_sipush (v := 1987) hx hb dX12_cityPart_145 (by decide) ?_
          refine lv_iconst (v := 0) hx hb dX12_cityPart_148 (by decide) ?_
          refine lv_bipush (v := 16) hx hb dX12_cityPart_149 (by decide) ?_
          obtain ⟨u151, hu151, hf⟩ := bd hf
          refine callVI (wn := (wd_X12_cityPart E a_o a_o_at a_o_names a_o_sort a_o_trayMany a_o_trays a_o_tape a_o_text a_o_opened a_o_farBy a_o_attendsBy a_o_coveredBy a_o_cameBy a_o_cameThen a_o_fallsBy a_o_loops a_o_ran a_o_told1 o_status o_top o_bottom o_taped o_size u151.2.1 u151.2.2.1 u151.2.2.2.1 u151.2.2.2.2.1 o_faultKind u151.2.2.2.2.2.1 u151.2.2.2.2.2.2.1 o_seen o_toldParts_j67 o_depth o_counted o_becameThen o_firstCorner o_drawn o_ranSteps o_isTold o_marks u151.2.2.2.2.2.2.2 o_names_j67 o_text)) (n1 := 4) (ct_X12_number l E F a_o a_o_at a_o_names a_o_sort a_o_trayMany a_o_trays a_o_tape a_o_text a_o_opened a_o_farBy a_o_attendsBy a_o_coveredBy a_o_cameBy a_o_cameThen a_o_fallsBy a_o_loops a_o_ran a_o_told1 o_status o_top o_bottom o_taped o_size o_token_j67 o_from_j67 o_end_j67 o_value_j67 o_faultKind o_faultPlace_j67 o_faults_j67 o_seen o_toldParts_j67 o_depth o_counted o_becameThen o_firstCorner o_drawn o_ranSteps o_isTold o_marks o_at_j67 o_text (1987 : Int32) (0 : Int32) (16 : Int32) u151 hu151) [0, 1, 3] cal_X12_number cav_X12_number lk_X12_208 cx hP hD hS hl dX12_cityPart_151 rfl rfl rfl rfl (Nat.le_of_ble_eq_true rfl) ⟨Nat.le_of_ble_eq_true rfl, Nat.le_of_ble_eq_true rfl⟩ rfl (by decide +kernel) rfl [some 0, some 1, none, some 2] rfl (by decide +kernel) rfl (fun H locs hP hD hS => ?_)
          refine lv_istore_n (lv' := [(2, .int u151.1), (0, .ref a_o), (1, .int v1_j67)]) hx hb dX12_cityPart_154 rfl hl (by decide) rfl (fun ls hl => ?_)
          refine lv_goto (tgt := 203) hx hb dX12_cityPart_155 (by decide) ?_
          exact hj203 _ _ _ _ _ _ _ _ _ _ _ _ _ hf hP hD hS (lv_sub hl [1, 0] rfl)
        · have hf := it_f hc3 hf
          by_cases hc4 : v1_j67 = 3
          · have hf := it_t hc4 hf
            refine swT (tgt := 158) 3 cx dX12_cityPart_68 (by rw [hc4]; decide) (by decide) rfl (by decide) ?_
            refine lv_aload_n hx hb dX12_cityPart_158 rfl (lv_at hl 0 rfl) ?_
            obtain ⟨u159, hu159, hf⟩ := bd hf
            refine callVI (wn := (wd_X12_cityPart E a_o a_o_at a_o_names a_o_sort a_o_trayMany a_o_trays a_o_tape a_o_text a_o_opened a_o_farBy a_o_attendsBy a_o_coveredBy a_o_cameBy a_o_cameThen a_o_fallsBy a_o_loops a_o_ran a_o_told1 o_status o_top o_bottom o_taped o_size u159.2.1 u159.2.2.1 u159.2.2.2.1 u159.2.2.2.2.1 o_faultKind u159.2.2.2.2.2.1 u159.2.2.2.2.2.2.1 o_seen o_toldParts_j67 o_depth o_counted o_becameThen o_firstCorner o_drawn o_ranSteps o_isTold o_marks u159.2.2.2.2.2.2.2.1 u159.2.2.2.2.2.2.2.2 o_text)) (n1 := 4) (ct_X12_aCorner l E F a_o a_o_at a_o_names a_o_sort a_o_trayMany a_o_trays a_o_tape a_o_text a_o_opened a_o_farBy a_o_attendsBy a_o_coveredBy a_o_cameBy a_o_cameThen a_o_fallsBy a_o_loops a_o_ran a_o_told1 o_status o_top o_bottom o_taped o_size o_token_j67 o_from_j67 o_end_j67 o_value_j67 o_faultKind o_faultPlace_j67 o_faults_j67 o_seen o_toldParts_j67 o_depth o_counted o_becameThen o_firstCorner o_drawn o_ranSteps o_isTold o_marks o_at_j67 o_names_j67 o_text u159 hu159) [0, 1, 2, 3] cal_X12_aCorner cav_X12_aCorner lk_X12_223 cx hP hD hS hl dX12_cityPart_159 rfl rfl rfl rfl (Nat.le_of_ble_eq_true rfl) ⟨Nat.le_of_ble_eq_true rfl, Nat.le_of_ble_eq_true rfl⟩ rfl (by decide +kernel) rfl [some 0, some 1, some 2, some 3] rfl (by decide +kernel) rfl (fun H locs hP hD hS => ?_)
            refine lv_istore_n (lv' := [(2, .int u159.1), (0, .ref a_o), (1, .int v1_j67)]) hx hb dX12_cityPart_162 rfl hl (by decide) rfl (fun ls hl => ?_)
            refine lv_goto (tgt := 203) hx hb dX12_cityPart_163 (by decide) ?_
            exact hj203 _ _ _ _ _ _ _ _ _ _ _ _ _ hf hP hD hS (lv_sub hl [1, 0] rfl)
          · have hf := it_f hc4 hf
            by_cases hc5 : v1_j67 = 4
            · have hf := it_t hc5 hf
              refine swT (tgt := 166) 4 cx dX12_cityPart_68 (by rw [hc5]; decide) (by decide) rfl (by decide) ?_
              refine lv_aload_n hx hb dX12_cityPart_166 rfl (lv_at hl 0 rfl) ?_
              obtain ⟨u167, hu167, hf⟩ := bd hf
              refine callVI (wn := (wd_X12_cityPart E a_o a_o_at a_o_names a_o_sort a_o_trayMany a_o_trays a_o_tape a_o_text a_o_opened a_o_farBy a_o_attendsBy a_o_coveredBy a_o_cameBy a_o_cameThen a_o_fallsBy a_o_loops a_o_ran a_o_told1 o_status o_top o_bottom o_taped o_size u167.2.1 u167.2.2.1 u167.2.2.2.1 u167.2.2.2.2.1 o_faultKind u167.2.2.2.2.2.1 u167.2.2.2.2.2.2.1 o_seen o_toldParts_j67 o_depth o_counted o_becameThen o_firstCorner o_drawn o_ranSteps o_isTold o_marks u167.2.2.2.2.2.2.2 o_names_j67 o_text)) (n1 := 4) (ct_X12_aRoad l E F a_o a_o_at a_o_names a_o_sort a_o_trayMany a_o_trays a_o_tape a_o_text a_o_opened a_o_farBy a_o_attendsBy a_o_coveredBy a_o_cameBy a_o_cameThen a_o_fallsBy a_o_loops a_o_ran a_o_told1 o_status o_top o_bottom o_taped o_size o_token_j67 o_from_j67 o_end_j67 o_value_j67 o_faultKind o_faultPlace_j67 o_faults_j67 o_seen o_toldParts_j67 o_depth o_counted o_becameThen o_firstCorner o_drawn o_ranSteps o_isTold o_marks o_at_j67 o_names_j67 o_text u167 hu167) [0, 1, 2, 3] cal_X12_aRoad cav_X12_aRoad lk_X12_226 cx hP hD hS hl dX12_cityPart_167 rfl rfl rfl rfl (Nat.le_of_ble_eq_true rfl) ⟨Nat.le_of_ble_eq_true rfl, Nat.le_of_ble_eq_true rfl⟩ rfl (by decide +kernel) rfl [some 0, some 1, some 2, some 3] rfl (by decide +kernel) rfl (fun H locs hP hD hS => ?_)
              refine lv_istore_n (lv' := [(2, .int u167.1), (0, .ref a_o), (1, .int v1_j67)]) hx hb dX12_cityPart_170 rfl hl (by decide) rfl (fun ls hl => ?_)
              refine lv_goto (tgt := 203) hx hb dX12_cityPart_171 (by decide) ?_
              exact hj203 _ _ _ _ _ _ _ _ _ _ _ _ _ hf hP hD hS (lv_sub hl [1, 0] rfl)
            · have hf := it_f hc5 hf
              by_cases hc6 : v1_j67 = 5
              · have hf := it_t hc6 hf
                refine swT (tgt := 174) 5 cx dX12_cityPart_68 (by rw [hc6]; decide) (by decide) rfl (by decide) ?_
                refine lv_aload_n hx hb dX12_cityPart_174 rfl (lv_at hl 0 rfl) ?_
                obtain ⟨u175, hu175, hf⟩ := bd hf
                refine callVI (wn := (wd_X12_cityPart E a_o a_o_at a_o_names a_o_sort a_o_trayMany a_o_trays a_o_tape a_o_text a_o_opened a_o_farBy a_o_attendsBy a_o_coveredBy a_o_cameBy a_o_cameThen a_o_fallsBy a_o_loops a_o_ran a_o_told1 o_status o_top o_bottom o_taped o_size u175.2.1 u175.2.2.1 u175.2.2.2.1 u175.2.2.2.2.1 o_faultKind u175.2.2.2.2.2.1 u175.2.2.2.2.2.2.1 o_seen o_toldParts_j67 o_depth o_counted o_becameThen o_firstCorner o_drawn o_ranSteps o_isTold o_marks u175.2.2.2.2.2.2.2.1 u175.2.2.2.2.2.2.2.2 o_text)) (n1 := 4) (ct_X12_anExtra l E F a_o a_o_at a_o_names a_o_sort a_o_trayMany a_o_trays a_o_tape a_o_text a_o_opened a_o_farBy a_o_attendsBy a_o_coveredBy a_o_cameBy a_o_cameThen a_o_fallsBy a_o_loops a_o_ran a_o_told1 o_status o_top o_bottom o_taped o_size o_token_j67 o_from_j67 o_end_j67 o_value_j67 o_faultKind o_faultPlace_j67 o_faults_j67 o_seen o_toldParts_j67 o_depth o_counted o_becameThen o_firstCorner o_drawn o_ranSteps o_isTold o_marks o_at_j67 o_names_j67 o_text u175 hu175) [0, 1, 2, 3] cal_X12_anExtra cav_X12_anExtra lk_X12_229 cx hP hD hS hl dX12_cityPart_175 rfl rfl rfl rfl (Nat.le_of_ble_eq_true rfl) ⟨Nat.le_of_ble_eq_true rfl, Nat.le_of_ble_eq_true rfl⟩ rfl (by decide +kernel) rfl [some 0, some 1, some 2, some 3] rfl (by decide +kernel) rfl (fun H locs hP hD hS => ?_)
                refine lv_istore_n (lv' := [(2, .int u175.1), (0, .ref a_o), (1, .int v1_j67)]) hx hb dX12_cityPart_178 rfl hl (by decide) rfl (fun ls hl => ?_)
                refine lv_goto (tgt := 203) hx hb dX12_cityPart_179 (by decide) ?_
                exact hj203 _ _ _ _ _ _ _ _ _ _ _ _ _ hf hP hD hS (lv_sub hl [1, 0] rfl)
              · have hf := it_f hc6 hf
                by_cases hc7 : v1_j67 = 6
                · have hf := it_t hc7 hf
                  refine swT (tgt := 182) 6 cx dX12_cityPart_68 (by rw [hc7]; decide) (by decide) rfl (by decide) ?_
                  refine lv_aload_n hx hb dX12_cityPart_182 rfl (lv_at hl 0 rfl) ?_
                  obtain ⟨u183, hu183, hf⟩ := bd hf
                  refine callVI (wn := (wd_X12_cityPart E a_o a_o_at a_o_names a_o_sort a_o_trayMany a_o_trays a_o_tape a_o_text a_o_opened a_o_farBy a_o_attendsBy a_o_coveredBy a_o_cameBy a_o_cameThen a_o_fallsBy a_o_loops a_o_ran a_o_told1 o_status o_top o_bottom o_taped o_size u183.2.1 u183.2.2.1 u183.2.2.2.1 u183.2.2.2.2.1 o_faultKind u183.2.2.2.2.2.1 u183.2.2.2.2.2.2.1 o_seen o_toldParts_j67 o_depth o_counted o_becameThen o_firstCorner o_drawn o_ranSteps o_isTold o_marks u183.2.2.2.2.2.2.2.1 u183.2.2.2.2.2.2.2.2 o_text)) (n1 := 4) (ct_X12_aHappening l E F a_o a_o_at a_o_names a_o_sort a_o_trayMany a_o_trays a_o_tape a_o_text a_o_opened a_o_farBy a_o_attendsBy a_o_coveredBy a_o_cameBy a_o_cameThen a_o_fallsBy a_o_loops a_o_ran a_o_told1 o_status o_top o_bottom o_taped o_size o_token_j67 o_from_j67 o_end_j67 o_value_j67 o_faultKind o_faultPlace_j67 o_faults_j67 o_seen o_toldParts_j67 o_depth o_counted o_becameThen o_firstCorner o_drawn o_ranSteps o_isTold o_marks o_at_j67 o_names_j67 o_text u183 hu183) [0, 1, 2, 3] cal_X12_aHappening cav_X12_aHappening lk_X12_232 cx hP hD hS hl dX12_cityPart_183 rfl rfl rfl rfl (Nat.le_of_ble_eq_true rfl) ⟨Nat.le_of_ble_eq_true rfl, Nat.le_of_ble_eq_true rfl⟩ rfl (by decide +kernel) rfl [some 0, some 1, some 2, some 3] rfl (by decide +kernel) rfl (fun H locs hP hD hS => ?_)
                  refine lv_istore_n (lv' := [(2, .int u183.1), (0, .ref a_o), (1, .int v1_j67)]) hx hb dX12_cityPart_186 rfl hl (by decide) rfl (fun ls hl => ?_)
                  refine lv_goto (tgt := 203) hx hb dX12_cityPart_187 (by decide) ?_
                  exact hj203 _ _ _ _ _ _ _ _ _ _ _ _ _ hf hP hD hS (lv_sub hl [1, 0] rfl)
                · have hf := it_f hc7 hf
                  by_cases hc8 : v1_j67 = 7
                  · have hf := it_t hc8 hf
                    refine swT (tgt := 190) 7 cx dX12_cityPart_68 (by rw [hc8]; decide) (by decide) rfl (by decide) ?_
                    refine lv_aload_n hx hb dX12_cityPart_190 rfl (lv_at hl 0 rfl) ?_
                    obtain ⟨u191, hu191, hf⟩ := bd hf
                    refine callVI (wn := (wd_X12_cityPart E a_o a_o_at a_o_names a_o_sort a_o_trayMany a_o_trays a_o_tape a_o_text a_o_opened a_o_farBy a_o_attendsBy a_o_coveredBy a_o_cameBy a_o_cameThen a_o_fallsBy a_o_loops a_o_ran a_o_told1 o_status o_top o_bottom o_taped o_size u191.2.1 u191.2.2.1 u191.2.2.2.1 u191.2.2.2.2.1 o_faultKind u191.2.2.2.2.2.1 u191.2.2.2.2.2.2.1 o_seen o_toldParts_j67 o_depth o_counted o_becameThen o_firstCorner o_drawn o_ranSteps o_isTold o_marks u191.2.2.2.2.2.2.2.1 u191.2.2.2.2.2.2.2.2 o_text)) (n1 := 4) (ct_X12_aWatcher l E F a_o a_o_at a_o_names a_o_sort a_o_trayMany a_o_trays a_o_tape a_o_text a_o_opened a_o_farBy a_o_attendsBy a_o_coveredBy a_o_cameBy a_o_cameThen a_o_fallsBy a_o_loops a_o_ran a_o_told1 o_status o_top o_bottom o_taped o_size o_token_j67 o_from_j67 o_end_j67 o_value_j67 o_faultKind o_faultPlace_j67 o_faults_j67 o_seen o_toldParts_j67 o_depth o_counted o_becameThen o_firstCorner o_drawn o_ranSteps o_isTold o_marks o_at_j67 o_names_j67 o_text u191 hu191) [0, 1, 2, 3] cal_X12_aWatcher cav_X12_aWatcher lk_X12_235 cx hP hD hS hl dX12_cityPart_191 rfl rfl rfl rfl (Nat.le_of_ble_eq_true rfl) ⟨Nat.le_of_ble_eq_true rfl, Nat.le_of_ble_eq_true rfl⟩ rfl (by decide +kernel) rfl [some 0, some 1, some 2, some 3] rfl (by decide +kernel) rfl (fun H locs hP hD hS => ?_)
                    refine lv_istore_n (lv' := [(2, .int u191.1), (0, .ref a_o), (1, .int v1_j67)]) hx hb dX12_cityPart_194 rfl hl (by decide) rfl (fun ls hl => ?_)
                    refine lv_goto (tgt := 203) hx hb dX12_cityPart_195 (by decide) ?_
                    exact hj203 _ _ _ _ _ _ _ _ _ _ _ _ _ hf hP hD hS (lv_sub hl [1, 0] rfl)
                  · have hf := it_f hc8 hf
                    refine swD (tgt := 198) [0, 1, 2, 3, 4, 5, 6, 7] cx dX12_cityPart_68 ?_ (by decide) (by decide) ?_
                    · intro z hz
                      simp only [List.mem_cons, List.not_mem_nil, or_false] at hz
                      rcases hz with rfl | rfl | rfl | rfl | rfl | rfl | rfl | rfl
                      · exact ne_int hc1 (by decide)
                      · exact ne_int hc2 (by decide)
                      · exact ne_int hc3 (by decide)
                      · exact ne_int hc4 (by decide)
                      · exact ne_int hc5 (by decide)
                      · exact ne_int hc6 (by decide)
                      · exact ne_int hc7 (by decide)
                      · exact ne_int hc8 (by decide)
                    · refine lv_aload_n hx hb dX12_cityPart_198 rfl (lv_at hl 0 rfl) ?_
                      obtain ⟨u199, hu199, hf⟩ := bd hf
                      refine callVI (wn := (wd_X12_cityPart E a_o a_o_at a_o_names a_o_sort a_o_trayMany a_o_trays a_o_tape a_o_text a_o_opened a_o_farBy a_o_attendsBy a_o_coveredBy a_o_cameBy a_o_cameThen a_o_fallsBy a_o_loops a_o_ran a_o_told1 o_status o_top o_bottom o_taped o_size u199.2.1 u199.2.2.1 u199.2.2.2.1 u199.2.2.2.2.1 o_faultKind u199.2.2.2.2.2.1 u199.2.2.2.2.2.2.1 o_seen o_toldParts_j67 o_depth o_counted o_becameThen o_firstCorner o_drawn o_ranSteps o_isTold o_marks u199.2.2.2.2.2.2.2 o_names_j67 o_text)) (n1 := 4) (ct_X12_aRoster l E F a_o a_o_at a_o_names a_o_sort a_o_trayMany a_o_trays a_o_tape a_o_text a_o_opened a_o_farBy a_o_attendsBy a_o_coveredBy a_o_cameBy a_o_cameThen a_o_fallsBy a_o_loops a_o_ran a_o_told1 o_status o_top o_bottom o_taped o_size o_token_j67 o_from_j67 o_end_j67 o_value_j67 o_faultKind o_faultPlace_j67 o_faults_j67 o_seen o_toldParts_j67 o_depth o_counted o_becameThen o_firstCorner o_drawn o_ranSteps o_isTold o_marks o_at_j67 o_names_j67 o_text u199 hu199) [0, 1, 2, 3] cal_X12_aRoster cav_X12_aRoster lk_X12_238 cx hP hD hS hl dX12_cityPart_199 rfl rfl rfl rfl (Nat.le_of_ble_eq_true rfl) ⟨Nat.le_of_ble_eq_true rfl, Nat.le_of_ble_eq_true rfl⟩ rfl (by decide +kernel) rfl [some 0, some 1, some 2, some 3] rfl (by decide +kernel) rfl (fun H locs hP hD hS => ?_)
                      refine lv_istore_n (lv' := [(2, .int u199.1), (0, .ref a_o), (1, .int v1_j67)]) hx hb dX12_cityPart_202 rfl hl (by decide) rfl (fun ls hl => ?_)
                      exact hj203 _ _ _ _ _ _ _ _ _ _ _ _ _ hf hP hD hS (lv_sub hl [1, 0] rfl)
  have hj46 : ∀ (v1_j46 : Int32) (o_token_j46 : Int32) (o_from_j46 : Int32) (o_end_j46 : Int32) (o_value_j46 : Int32) (o_faultPlace_j46 : Int32) (o_faults_j46 : Int32) (o_toldParts_j46 : Int32) (o_at_j46 : Nat → Int32) (o_names_j46 : Nat → Int64) (H : Heap) (locs : List Loc) (ls : Array Slot), X12_cityPart_j46 F o_size o_token_j46 o_from_j46 o_end_j46 o_value_j46 o_faultPlace_j46 o_faults_j46 o_toldParts_j46 o_at_j46 o_names_j46 o_text v1_j46 = some u → va_P E.1 vwCl (wd_X12_cityPart E a_o a_o_at a_o_names a_o_sort a_o_trayMany a_o_trays a_o_tape a_o_text a_o_opened a_o_farBy a_o_attendsBy a_o_coveredBy a_o_cameBy a_o_cameThen a_o_fallsBy a_o_loops a_o_ran a_o_told1 o_status o_top o_bottom o_taped o_size o_token_j46 o_from_j46 o_end_j46 o_value_j46 o_faultKind o_faultPlace_j46 o_faults_j46 o_seen o_toldParts_j46 o_depth o_counted o_becameThen o_firstCorner o_drawn o_ranSteps o_isTold o_marks o_at_j46 o_names_j46 o_text) H → va_D A (wd_X12_cityPart E a_o a_o_at a_o_names a_o_sort a_o_trayMany a_o_trays a_o_tape a_o_text a_o_opened a_o_farBy a_o_attendsBy a_o_coveredBy a_o_cameBy a_o_cameThen a_o_fallsBy a_o_loops a_o_ran a_o_told1 o_status o_top o_bottom o_taped o_size o_token_j46 o_from_j46 o_end_j46 o_value_j46 o_faultKind o_faultPlace_j46 o_faults_j46 o_seen o_toldParts_j46 o_depth o_counted o_becameThen o_firstCorner o_drawn o_ranSteps o_isTold o_marks o_at_j46 o_names_j46 o_text) → va_S A s.heap H locs → lv_has ls 3 [(0, .ref a_o), (1, .int v1_j46)] → W p l e (rmd 9) s m aa below meth cd H locs 0 0 QQ (F0 m 46 ls []) := by
    intro v1_j46 o_token_j46 o_from_j46 o_end_j46 o_value_j46 o_faultPlace_j46 o_faults_j46 o_toldParts_j46 o_at_j46 o_names_j46 H locs ls hf hP hD hS hl
    unfold X12_cityPart_j46 at hf
    refine lv_aload_n hx hb dX12_cityPart_46 rfl (lv_at hl 0 rfl) ?_
    refine lv_dup hx hb dX12_cityPart_47 rfl ?_
    refine va_get (D := E.1) (ci := 12) (v := .int o_toldParts_j46) (C := RX12) (T := TX12) (N := 39) hx hb hts inX12 hown hK hP 0 rfl rfl 20 (by decide) (hts _ fl_X12_220) (fun _ h9 => h9) rfl dX12_cityPart_48 ?_
    refine lv_iconst (v := 1) hx hb dX12_cityPart_51 (by decide) ?_
    refine lv_iload_n hx hb dX12_cityPart_52 rfl (lv_at hl 1 rfl) ?_
    refine r_ishl hx hb dX12_cityPart_53 ?_
    refine lv_ior hx hb dX12_cityPart_54 ?_
    refine va_put (D := E.1) (ci := 12) (v := .int (o_toldParts_j46 ||| (jshl 1 v1_j46))) (ty := .int) (C := RX12) (T := TX12) (N := 39) hx hb hts inX12 tyX12 tyX12_ok nmX12 hown hK hP hD hS 0 rfl rfl 20 (by decide) (hts _ fl_X12_220) (fun _ h9 => h9) rfl (by decide +kernel) rfl rfl (Nat.le_of_ble_eq_true rfl) dX12_cityPart_55 (fun H locs hP hD hS => ?_)
    have hP : va_P E.1 vwCl (wd_X12_cityPart E a_o a_o_at a_o_names a_o_sort a_o_trayMany a_o_trays a_o_tape a_o_text a_o_opened a_o_farBy a_o_attendsBy a_o_coveredBy a_o_cameBy a_o_cameThen a_o_fallsBy a_o_loops a_o_ran a_o_told1 o_status o_top o_bottom o_taped o_size o_token_j46 o_from_j46 o_end_j46 o_value_j46 o_faultKind o_faultPlace_j46 o_faults_j46 o_seen (o_toldParts_j46 ||| (jshl 1 v1_j46)) o_depth o_counted o_becameThen o_firstCorner o_drawn o_ranSteps o_isTold o_marks o_at_j46 o_names_j46 o_text) H := hP
    have hD : va_D A (wd_X12_cityPart E a_o a_o_at a_o_names a_o_sort a_o_trayMany a_o_trays a_o_tape a_o_text a_o_opened a_o_farBy a_o_attendsBy a_o_coveredBy a_o_cameBy a_o_cameThen a_o_fallsBy a_o_loops a_o_ran a_o_told1 o_status o_top o_bottom o_taped o_size o_token_j46 o_from_j46 o_end_j46 o_value_j46 o_faultKind o_faultPlace_j46 o_faults_j46 o_seen (o_toldParts_j46 ||| (jshl 1 v1_j46)) o_depth o_counted o_becameThen o_firstCorner o_drawn o_ranSteps o_isTold o_marks o_at_j46 o_names_j46 o_text) := hD
    refine lv_iload_n hx hb dX12_cityPart_58 rfl (lv_at hl 1 rfl) ?_
    refine lv_iconst (v := 2) hx hb dX12_cityPart_59 (by decide) ?_
    refine lv_icmp_gt (tgt := 67) hx hb dX12_cityPart_60 (by decide) (fun hc => ?_) (fun hc => ?_)
    · have hf := it_t hc hf
      exact hj67 _ _ _ _ _ _ _ _ _ _ _ _ _ hf hP hD hS (lv_sub hl [0, 1] rfl)
    · have hf := it_f hc hf
      refine lv_aload_n hx hb dX12_cityPart_63 rfl (lv_at hl 0 rfl) ?_
      obtain ⟨u64, hu64, hf⟩ := bd hf
      refine callVV (wn := (wd_X12_cityPart E a_o a_o_at a_o_names a_o_sort a_o_trayMany a_o_trays a_o_tape a_o_text a_o_opened a_o_farBy a_o_attendsBy a_o_coveredBy a_o_cameBy a_o_cameThen a_o_fallsBy a_o_loops a_o_ran a_o_told1 o_status o_top o_bottom o_taped o_size u64.1 u64.2.1 u64.2.2.1 u64.2.2.2 o_faultKind o_faultPlace_j46 o_faults_j46 o_seen (o_toldParts_j46 ||| (jshl 1 v1_j46)) o_depth o_counted o_becameThen o_firstCorner o_drawn o_ranSteps o_isTold o_marks o_at_j46 o_names_j46 o_text)) (n1 := 4) (ct_X12_ahead l E F a_o a_o_at a_o_names a_o_sort a_o_trayMany a_o_trays a_o_tape a_o_text a_o_opened a_o_farBy a_o_attendsBy a_o_coveredBy a_o_cameBy a_o_cameThen a_o_fallsBy a_o_loops a_o_ran a_o_told1 o_status o_top o_bottom o_taped o_size o_token_j46 o_from_j46 o_end_j46 o_value_j46 o_faultKind o_faultPlace_j46 o_faults_j46 o_seen (o_toldParts_j46 ||| (jshl 1 v1_j46)) o_depth o_counted o_becameThen o_firstCorner o_drawn o_ranSteps o_isTold o_marks o_text u64 hu64) [0, 3] cal_X12_ahead cav_X12_ahead lk_X12_161 cx hP hD hS hl dX12_cityPart_64 rfl rfl rfl rfl (Nat.le_of_ble_eq_true rfl) ⟨Nat.le_of_ble_eq_true rfl, Nat.le_of_ble_eq_true rfl⟩ rfl (by decide +kernel) rfl [some 0, none, none, some 1] rfl (by decide +kernel) rfl (fun H locs hP hD hS => ?_)
      exact hj67 _ _ _ _ _ _ _ _ _ _ _ _ _ hf hP hD hS (lv_sub hl [0, 1] rfl)
  have hj17 : ∀ (o_token_j17 : Int32) (o_from_j17 : Int32) (o_end_j17 : Int32) (o_value_j17 : Int32) (o_faultPlace_j17 : Int32) (o_faults_j17 : Int32) (o_toldParts_j17 : Int32) (o_at_j17 : Nat → Int32) (o_names_j17 : Nat → Int64) (H : Heap) (locs : List Loc) (ls : Array Slot), X12_cityPart_j17 F o_size o_token_j17 o_from_j17 o_end_j17 o_value_j17 o_faultPlace_j17 o_faults_j17 o_toldParts_j17 o_at_j17 o_names_j17 o_text = some u → va_P E.1 vwCl (wd_X12_cityPart E a_o a_o_at a_o_names a_o_sort a_o_trayMany a_o_trays a_o_tape a_o_text a_o_opened a_o_farBy a_o_attendsBy a_o_coveredBy a_o_cameBy a_o_cameThen a_o_fallsBy a_o_loops a_o_ran a_o_told1 o_status o_top o_bottom o_taped o_size o_token_j17 o_from_j17 o_end_j17 o_value_j17 o_faultKind o_faultPlace_j17 o_faults_j17 o_seen o_toldParts_j17 o_depth o_counted o_becameThen o_firstCorner o_drawn o_ranSteps o_isTold o_marks o_at_j17 o_names_j17 o_text) H → va_D A (wd_X12_cityPart E a_o a_o_at a_o_names a_o_sort a_o_trayMany a_o_trays a_o_tape a_o_text a_o_opened a_o_farBy a_o_attendsBy a_o_coveredBy a_o_cameBy a_o_cameThen a_o_fallsBy a_o_loops a_o_ran a_o_told1 o_status o_top o_bottom o_taped o_size o_token_j17 o_from_j17 o_end_j17 o_value_j17 o_faultKind o_faultPlace_j17 o_faults_j17 o_seen o_toldParts_j17 o_depth o_counted o_becameThen o_firstCorner o_drawn o_ranSteps o_isTold o_marks o_at_j17 o_names_j17 o_text) → va_S A s.heap H locs → lv_has ls 3 [(0, .ref a_o)] → W p l e (rmd 9) s m aa below meth cd H locs 0 0 QQ (F0 m 17 ls []) := by
    intro o_token_j17 o_from_j17 o_end_j17 o_value_j17 o_faultPlace_j17 o_faults_j17 o_toldParts_j17 o_at_j17 o_names_j17 H locs ls hf hP hD hS hl
    unfold X12_cityPart_j17 at hf
    refine lv_aload_n hx hb dX12_cityPart_17 rfl (lv_at hl 0 rfl) ?_
    refine lv_iconst (v := 2) hx hb dX12_cityPart_18 (by decide) ?_
    obtain ⟨u19, hu19, hf⟩ := bd hf
    refine callVI (wn := (wd_X12_cityPart E a_o a_o_at a_o_names a_o_sort a_o_trayMany a_o_trays a_o_tape a_o_text a_o_opened a_o_farBy a_o_attendsBy a_o_coveredBy a_o_cameBy a_o_cameThen a_o_fallsBy a_o_loops a_o_ran a_o_told1 o_status o_top o_bottom o_taped o_size o_token_j17 o_from_j17 o_end_j17 o_value_j17 o_faultKind u19.2.1 u19.2.2 o_seen o_toldParts_j17 o_depth o_counted o_becameThen o_firstCorner o_drawn o_ranSteps o_isTold o_marks o_at_j17 o_names_j17 o_text)) (n1 := 4) (ct_X12_fails l E a_o a_o_at a_o_names a_o_sort a_o_trayMany a_o_trays a_o_tape a_o_text a_o_opened a_o_farBy a_o_attendsBy a_o_coveredBy a_o_cameBy a_o_cameThen a_o_fallsBy a_o_loops a_o_ran a_o_told1 o_status o_top o_bottom o_taped o_size o_token_j17 o_from_j17 o_end_j17 o_value_j17 o_faultKind o_faultPlace_j17 o_faults_j17 o_seen o_toldParts_j17 o_depth o_counted o_becameThen o_firstCorner o_drawn o_ranSteps o_isTold o_marks (2 : Int32) u19 hu19) [0] cal_X12_fails cav_X12_fails lk_X12_167 cx hP hD hS hl dX12_cityPart_19 rfl rfl rfl rfl (Nat.le_of_ble_eq_true rfl) ⟨Nat.le_of_ble_eq_true rfl, Nat.le_of_ble_eq_true rfl⟩ rfl (by decide +kernel) rfl [some 0, none, none, none] rfl (by decide +kernel) rfl (fun H locs hP hD hS => ?_)
    obtain ⟨hz, hf⟩ := ck hf
    obtain rfl := Option.some.inj hf
    subst hq
    exact retZ cx hz hP hD hS dX12_cityPart_22
  unfold X12_cityPart at hf
  refine lv_aload_n hx hb dX12_cityPart_0 rfl (lv_at hl 0 rfl) ?_
  refine va_ldcS hx hb hown hX.2.2.2.2.1 dX12_cityPart_1 ?_
  obtain ⟨u3, hu3, hf⟩ := bd hf
  refine keepVI (ct_X12_inWords l E F a_o a_o_at a_o_names a_o_sort a_o_trayMany a_o_trays a_o_tape a_o_text a_o_opened a_o_farBy a_o_attendsBy a_o_coveredBy a_o_cameBy a_o_cameThen a_o_fallsBy a_o_loops a_o_ran a_o_told1 o_status o_top o_bottom o_taped o_size o_token o_from o_end o_value o_faultKind o_faultPlace o_faults o_seen o_toldParts o_depth o_counted o_becameThen o_firstCorner o_drawn o_ranSteps o_isTold o_marks o_text u3 hu3) [0, 3] cal_X12_inWords cav_X12_inWords lk_X12_170 cx hP hD hS hl dX12_cityPart_3 rfl rfl rfl rfl (Nat.le_of_ble_eq_true rfl) ⟨Nat.le_of_ble_eq_true rfl, Nat.le_of_ble_eq_true rfl⟩ rfl (by decide) (fun H locs hP hS => ?_)
  refine lv_istore_n (lv' := [(1, .int u3), (0, .ref a_o)]) hx hb dX12_cityPart_6 rfl hl (by decide) rfl (fun ls hl => ?_)
  refine lv_iload_n hx hb dX12_cityPart_7 rfl (lv_at hl 0 rfl) ?_
  refine lv_if_lt (tgt := 17) hx hb dX12_cityPart_8 (by decide) (fun hc => ?_) (fun hc => ?_)
  · have hf := it_t hc hf
    exact hj17 _ _ _ _ _ _ _ _ _ _ _ _ hf hP hD hS (lv_sub hl [1] rfl)
  · have hf := it_f hc hf
    refine lv_iload_n hx hb dX12_cityPart_11 rfl (lv_at hl 0 rfl) ?_
    refine lv_bipush (v := 8) hx hb dX12_cityPart_12 (by decide) ?_
    refine lv_icmp_le (tgt := 23) hx hb dX12_cityPart_14 (by decide) (fun hc => ?_) (fun hc => ?_)
    · have hf := it_t hc hf
      refine lv_iload_n hx hb dX12_cityPart_23 rfl (lv_at hl 0 rfl) ?_
      refine lv_iconst (v := 2) hx hb dX12_cityPart_24 (by decide) ?_
      refine lv_icmp_gt (tgt := 46) hx hb dX12_cityPart_25 (by decide) (fun hc => ?_) (fun hc => ?_)
      · have hf := it_t hc hf
        exact hj46 _ _ _ _ _ _ _ _ _ _ _ _ _ hf hP hD hS (lv_sub hl [1, 0] rfl)
      · have hf := it_f hc hf
        refine lv_aload_n hx hb dX12_cityPart_28 rfl (lv_at hl 1 rfl) ?_
        refine va_get (D := E.1) (ci := 12) (v := .int o_toldParts) (C := RX12) (T := TX12) (N := 39) hx hb hts inX12 hown hK hP 0 rfl rfl 20 (by decide) (hts _ fl_X12_220) (fun _ h9 => h9) rfl dX12_cityPart_29 ?_
        refine lv_iload_n hx hb dX12_cityPart_32 rfl (lv_at hl 0 rfl) ?_
        refine r_ishr hx hb dX12_cityPart_33 ?_
        refine lv_iconst (v := 1) hx hb dX12_cityPart_34 (by decide) ?_
        refine lv_iand hx hb dX12_cityPart_35 ?_
        refine lv_iconst (v := 1) hx hb dX12_cityPart_36 (by decide) ?_
        refine lv_icmp_ne (tgt := 46) hx hb dX12_cityPart_37 (by decide) (fun hc => ?_) (fun hc => ?_)
        · have hf := it_f hc hf
          exact hj46 _ _ _ _ _ _ _ _ _ _ _ _ _ hf hP hD hS (lv_sub hl [1, 0] rfl)
        · have hf := it_t hc hf
          refine lv_aload_n hx hb dX12_cityPart_40 rfl (lv_at hl 1 rfl) ?_
          refine lv_iconst (v := 5) hx hb dX12_cityPart_41 (by decide) ?_
          obtain ⟨u42, hu42, hf⟩ := bd hf
          refine callVI (wn := (wd_X12_cityPart E a_o a_o_at a_o_names a_o_sort a_o_trayMany a_o_trays a_o_tape a_o_text a_o_opened a_o_farBy a_o_attendsBy a_o_coveredBy a_o_cameBy a_o_cameThen a_o_fallsBy a_o_loops a_o_ran a_o_told1 o_status o_top o_bottom o_taped o_size o_token o_from o_end o_value o_faultKind u42.2.1 u42.2.2 o_seen o_toldParts o_depth o_counted o_becameThen o_firstCorner o_drawn o_ranSteps o_isTold o_marks o_at o_names o_text)) (n1 := 4) (ct_X12_fails l E a_o a_o_at a_o_names a_o_sort a_o_trayMany a_o_trays a_o_tape a_o_text a_o_opened a_o_farBy a_o_attendsBy a_o_coveredBy a_o_cameBy a_o_cameThen a_o_fallsBy a_o_loops a_o_ran a_o_told1 o_status o_top o_bottom o_taped o_size o_token o_from o_end o_value o_faultKind o_faultPlace o_faults o_seen o_toldParts o_depth o_counted o_becameThen o_firstCorner o_drawn o_ranSteps o_isTold o_marks (5 : Int32) u42 hu42) [0] cal_X12_fails cav_X12_fails lk_X12_167 cx hP hD hS hl dX12_cityPart_42 rfl rfl rfl rfl (Nat.le_of_ble_eq_true rfl) ⟨Nat.le_of_ble_eq_true rfl, Nat.le_of_ble_eq_true rfl⟩ rfl (by decide +kernel) rfl [some 0, none, none, none] rfl (by decide +kernel) rfl (fun H locs hP hD hS => ?_)
          obtain ⟨hz, hf⟩ := ck hf
          obtain rfl := Option.some.inj hf
          subst hq
          exact retZ cx hz hP hD hS dX12_cityPart_45
    · have hf := it_f hc hf
      exact hj17 _ _ _ _ _ _ _ _ _ _ _ _ hf hP hD hS (lv_sub hl [1] rfl)
def X12_city_j117 (F : Nat) (o_status : Int32) (o_taped : Int32) (o_size : Int32) (o_token : Int32) (o_from : Int32) (o_end : Int32) (o_value : Int32) (o_faultKind : Int32) (o_faultPlace : Int32) (o_faults : Int32) (o_seen : Int32) (o_toldParts : Int32) (o_at : Nat → Int32) (o_names : Nat → Int64) (o_tape : Nat → Int32) (o_text : Nat → Int32) : Option (vS) :=
  if ix 0 3097 then
  (X12_taken o_status o_faultKind o_faults (jat o_at 0)).bind fun u124 =>
  some (mkS [u124.1, u124.2.1, o_taped, o_size, o_token, o_from, o_end, o_value, u124.2.2, o_faultPlace, o_faults, o_seen, o_toldParts] [] [o_at, o_text] [o_names])
  else none
def X12_city_b59 (F : Nat) (o_status : Int32) (o_taped : Int32) (o_size : Int32) (o_token : Int32) (o_from : Int32) (o_end : Int32) (o_value : Int32) (o_faultKind : Int32) (o_faultPlace : Int32) (o_faults : Int32) (o_seen : Int32) (o_toldParts : Int32) (o_names : Nat → Int64) (o_tape : Nat → Int32) (o_text : Nat → Int32) (st59 : Int32 × (Nat → Int32)) : Option ((Int32 × (Nat → Int32)) ⊕ (((Nat → Int32)))) :=
  if (495 : Int32) ≤ st59.1 then
  some (.inr st59.2)
  else
  if ix (1980 + st59.1) 3097 then
  if ix st59.1 3097 then
  some (.inl ((st59.1 + 1), (jput st59.2 st59.1 (jat st59.2 (1980 + st59.1)))))
  else none
  else none
def X12_city_b90 (F : Nat) (o_status : Int32) (o_taped : Int32) (o_size : Int32) (o_token : Int32) (o_from : Int32) (o_end : Int32) (o_value : Int32) (o_faultKind : Int32) (o_faultPlace : Int32) (o_faults : Int32) (o_seen : Int32) (o_toldParts : Int32) (o_at : Nat → Int32) (o_tape : Nat → Int32) (o_text : Nat → Int32) (st90 : Int32 × (Nat → Int64)) : Option ((Int32 × (Nat → Int64)) ⊕ (((Nat → Int64)))) :=
  if (27 : Int32) ≤ st90.1 then
  some (.inr st90.2)
  else
  if ix (108 + st90.1) 162 then
  if ix st90.1 162 then
  some (.inl ((st90.1 + 1), (jputL st90.2 st90.1 (jat st90.2 (108 + st90.1)))))
  else none
  else none
def X12_city_j50 (F : Nat) (o_status : Int32) (o_taped : Int32) (o_size : Int32) (o_token : Int32) (o_from : Int32) (o_end : Int32) (o_value : Int32) (o_faultKind : Int32) (o_faultPlace : Int32) (o_faults : Int32) (o_seen : Int32) (o_toldParts : Int32) (o_at : Nat → Int32) (o_names : Nat → Int64) (o_tape : Nat → Int32) (o_text : Nat → Int32) : Option (vS) :=
  if o_faults = 0 then
  (iter (X12_city_b59 F o_status o_taped o_size o_token o_from o_end o_value o_faultKind o_faultPlace o_faults o_seen o_toldParts o_names o_tape o_text) F (0, o_at)).bind (fun (e59 : (Nat → Int32)) =>
    (iter (X12_city_b90 F o_status o_taped o_size o_token o_from o_end o_value o_faultKind o_faultPlace o_faults o_seen o_toldParts e59 o_tape o_text) F (0, o_names)).bind (fun (e90 : (Nat → Int64)) =>
    X12_city_j117 F o_status o_taped o_size o_token o_from o_end o_value o_faultKind o_faultPlace o_faults o_seen o_toldParts e59 e90 o_tape o_text))
  else
  X12_city_j117 F o_status o_taped o_size o_token o_from o_end o_value o_faultKind o_faultPlace o_faults o_seen o_toldParts o_at o_names o_tape o_text
def X12_city_b31 (F : Nat) (o_status : Int32) (o_taped : Int32) (o_size : Int32) (o_faultKind : Int32) (o_seen : Int32) (o_tape : Nat → Int32) (o_text : Nat → Int32) (st31 : Int32 × Int32 × Int32 × Int32 × Int32 × Int32 × Int32 × Int32 × (Nat → Int32) × (Nat → Int64)) : Option ((Int32 × Int32 × Int32 × Int32 × Int32 × Int32 × Int32 × Int32 × (Nat → Int32) × (Nat → Int64)) ⊕ ((Int32 × Int32 × Int32 × Int32 × Int32 × Int32 × Int32 × (Nat → Int32) × (Nat → Int64)))) :=
  if st31.1 = 0 then
  some (.inr (st31.2.1, st31.2.2.1, st31.2.2.2.1, st31.2.2.2.2.1, st31.2.2.2.2.2.1, st31.2.2.2.2.2.2.1, st31.2.2.2.2.2.2.2.1, st31.2.2.2.2.2.2.2.2.1, st31.2.2.2.2.2.2.2.2.2))
  else
  if st31.2.1 = 0 then
  some (.inr (st31.2.1, st31.2.2.1, st31.2.2.2.1, st31.2.2.2.2.1, st31.2.2.2.2.2.1, st31.2.2.2.2.2.2.1, st31.2.2.2.2.2.2.2.1, st31.2.2.2.2.2.2.2.2.1, st31.2.2.2.2.2.2.2.2.2))
  else
  (X12_cityPart F o_size st31.2.1 st31.2.2.1 st31.2.2.2.1 st31.2.2.2.2.1 st31.2.2.2.2.2.1 st31.2.2.2.2.2.2.1 st31.2.2.2.2.2.2.2.1 st31.2.2.2.2.2.2.2.2.1 st31.2.2.2.2.2.2.2.2.2 o_text).bind fun u43 =>
  some (.inl (u43.1, u43.2.1, u43.2.2.1, u43.2.2.2.1, u43.2.2.2.2.1, u43.2.2.2.2.2.1, u43.2.2.2.2.2.2.1, u43.2.2.2.2.2.2.2.1, u43.2.2.2.2.2.2.2.2.1, u43.2.2.2.2.2.2.2.2.2))
def X12_city (F : Nat) (o_status : Int32) (o_taped : Int32) (o_size : Int32) (o_token : Int32) (o_from : Int32) (o_end : Int32) (o_value : Int32) (o_faultKind : Int32) (o_faultPlace : Int32) (o_faults : Int32) (o_seen : Int32) (o_toldParts : Int32) (o_at : Nat → Int32) (o_names : Nat → Int64) (o_tape : Nat → Int32) (o_text : Nat → Int32) (v1 : Int32) : Option (vS) :=
  (X12_begins F o_taped o_size o_token o_from o_end o_value o_faultPlace o_faults o_seen o_tape o_text v1 (900 : Int32)).bind fun u5 =>
  if (u5.1 0) = 0 then
  (X12_refuse o_status (1 : Int32)).bind fun u13 =>
  some (mkS [u13.1, u13.2, (u5.1 1), (u5.1 2), (u5.1 3), (u5.1 4), (u5.1 5), (u5.1 6), o_faultKind, (u5.1 7), (u5.1 8), (u5.1 9), o_toldParts] [] [o_at, (u5.2.2.1 0)] [o_names])
  else
  (X12_plain F o_at (1980 : Int32)).bind fun u21 =>
  (iter (X12_city_b31 F o_status (u5.1 1) (u5.1 2) o_faultKind (u5.1 9) o_tape (u5.2.2.1 0)) F (1, (u5.1 3), (u5.1 4), (u5.1 5), (u5.1 6), (u5.1 7), (u5.1 8), 0, u21, o_names)).bind (fun (e31 : Int32 × Int32 × Int32 × Int32 × Int32 × Int32 × Int32 × (Nat → Int32) × (Nat → Int64)) =>
    X12_city_j50 F o_status (u5.1 1) (u5.1 2) e31.1 e31.2.1 e31.2.2.1 e31.2.2.2.1 o_faultKind e31.2.2.2.2.1 e31.2.2.2.2.2.1 (u5.1 9) e31.2.2.2.2.2.2.1 e31.2.2.2.2.2.2.2.1 e31.2.2.2.2.2.2.2.2 o_tape (u5.2.2.1 0))
abbrev wd_X12_city (E : vE) (a_o a_o_at a_o_names a_o_sort a_o_trayMany a_o_trays a_o_tape a_o_text a_o_opened a_o_farBy a_o_attendsBy a_o_coveredBy a_o_cameBy a_o_cameThen a_o_fallsBy a_o_loops a_o_ran a_o_told1 : Nat) (o_status : Int32) (o_top : Int64) (o_bottom : Int64) (o_taped : Int32) (o_size : Int32) (o_token : Int32) (o_from : Int32) (o_end : Int32) (o_value : Int32) (o_faultKind : Int32) (o_faultPlace : Int32) (o_faults : Int32) (o_seen : Int32) (o_toldParts : Int32) (o_depth : Int32) (o_counted : Int32) (o_becameThen : Int32) (o_firstCorner : Int32) (o_drawn : Int32) (o_ranSteps : Int32) (o_isTold : Int32) (o_marks : Int32) (o_at : Nat → Int32) (o_names : Nat → Int64) (o_tape : Nat → Int32) (o_text : Nat → Int32) : va_W := [(a_o, .inr (12, [.ref a_o_at, .ref a_o_names, .int o_status, .long o_top, .long o_bottom, .ref a_o_sort, .ref a_o_trayMany, .ref a_o_trays, .ref a_o_tape, .ref a_o_text, .int o_taped, .int o_size, .int o_token, .int o_from, .int o_end, .int o_value, .int o_faultKind, .int o_faultPlace, .int o_faults, .int o_seen, .int o_toldParts, .ref a_o_opened, .int o_depth, .int o_counted, .ref a_o_farBy, .int o_becameThen, .ref a_o_attendsBy, .ref a_o_coveredBy, .ref a_o_cameBy, .ref a_o_cameThen, .int o_firstCorner, .ref a_o_fallsBy, .int o_drawn, .int o_ranSteps, .ref a_o_loops, .ref a_o_ran, .ref a_o_told1, .int o_isTold, .int o_marks])), (a_o_at, .inl (E.2.1, 3097, .inl o_at)), (a_o_names, .inl (E.2.2.1, 162, .inr (.inl o_names))), (a_o_tape, .inl (E.2.2.2.1, 900, .inl o_tape)), (a_o_text, .inl (E.2.2.2.1, 900, .inl o_text))]
set_option maxHeartbeats 4000000 in
set_option maxRecDepth 100000 in
theorem ct_X12_city (l : Launch) (E : vE) (F : Nat) (a_o a_o_at a_o_names a_o_sort a_o_trayMany a_o_trays a_o_tape a_o_text a_o_opened a_o_farBy a_o_attendsBy a_o_coveredBy a_o_cameBy a_o_cameThen a_o_fallsBy a_o_loops a_o_ran a_o_told1 : Nat) (o_status : Int32) (o_top : Int64) (o_bottom : Int64) (o_taped : Int32) (o_size : Int32) (o_token : Int32) (o_from : Int32) (o_end : Int32) (o_value : Int32) (o_faultKind : Int32) (o_faultPlace : Int32) (o_faults : Int32) (o_seen : Int32) (o_toldParts : Int32) (o_depth : Int32) (o_counted : Int32) (o_becameThen : Int32) (o_firstCorner : Int32) (o_drawn : Int32) (o_ranSteps : Int32) (o_isTold : Int32) (o_marks : Int32) (o_at : Nat → Int32) (o_names : Nat → Int64) (o_tape : Nat → Int32) (o_text : Nat → Int32) (v1 : Int32) (u : vS) (hf : X12_city F o_status o_taped o_size o_token o_from o_end o_value o_faultKind o_faultPlace o_faults o_seen o_toldParts o_at o_names o_tape o_text v1 = some u) :
    CtI l yX12_city cX12_city 4 (some .int) 10 E [.ref a_o, .int v1] (wd_X12_city E a_o a_o_at a_o_names a_o_sort a_o_trayMany a_o_trays a_o_tape a_o_text a_o_opened a_o_farBy a_o_attendsBy a_o_coveredBy a_o_cameBy a_o_cameThen a_o_fallsBy a_o_loops a_o_ran a_o_told1 o_status o_top o_bottom o_taped o_size o_token o_from o_end o_value o_faultKind o_faultPlace o_faults o_seen o_toldParts o_depth o_counted o_becameThen o_firstCorner o_drawn o_ranSteps o_isTold o_marks o_at o_names o_tape o_text) (wd_X12_city E a_o a_o_at a_o_names a_o_sort a_o_trayMany a_o_trays a_o_tape a_o_text a_o_opened a_o_farBy a_o_attendsBy a_o_coveredBy a_o_cameBy a_o_cameThen a_o_fallsBy a_o_loops a_o_ran a_o_told1 (u.1 1) o_top o_bottom (u.1 2) (u.1 3) (u.1 4) (u.1 5) (u.1 6) (u.1 7) (u.1 8) (u.1 9) (u.1 10) (u.1 11) (u.1 12) o_depth o_counted o_becameThen o_firstCorner o_drawn o_ranSteps o_isTold o_marks (u.2.2.1 0) (u.2.2.2 0) o_tape (u.2.2.1 1)) (u.1 0) := by
  refine ctI (by decide) (Nat.le_of_ble_eq_true rfl) ?_
  intro p e s m below meth cd A ls aa QQ hq cx hP hD hS hl
  obtain ⟨⟨hx, hb, hml, hown, hts⟩, hr, hlocks, hK, hA, hX⟩ := id cx
  have hl : lv_has ls 4 [(0, .ref a_o), (1, .int v1)] := hl
  have hj117 : ∀ (o_status_j117 : Int32) (o_taped_j117 : Int32) (o_size_j117 : Int32) (o_token_j117 : Int32) (o_from_j117 : Int32) (o_end_j117 : Int32) (o_value_j117 : Int32) (o_faultKind_j117 : Int32) (o_faultPlace_j117 : Int32) (o_faults_j117 : Int32) (o_seen_j117 : Int32) (o_toldParts_j117 : Int32) (o_at_j117 : Nat → Int32) (o_names_j117 : Nat → Int64) (o_text_j117 : Nat → Int32) (H : Heap) (locs : List Loc) (ls : Array Slot), X12_city_j117 F o_status_j117 o_taped_j117 o_size_j117 o_token_j117 o_from_j117 o_end_j117 o_value_j117 o_faultKind_j117 o_faultPlace_j117 o_faults_j117 o_seen_j117 o_toldParts_j117 o_at_j117 o_names_j117 o_tape o_text_j117 = some u → va_P E.1 vwCl (wd_X12_city E a_o a_o_at a_o_names a_o_sort a_o_trayMany a_o_trays a_o_tape a_o_text a_o_opened a_o_farBy a_o_attendsBy a_o_coveredBy a_o_cameBy a_o_cameThen a_o_fallsBy a_o_loops a_o_ran a_o_told1 o_status_j117 o_top o_bottom o_taped_j117 o_size_j117 o_token_j117 o_from_j117 o_end_j117 o_value_j117 o_faultKind_j117 o_faultPlace_j117 o_faults_j117 o_seen_j117 o_toldParts_j117 o_depth o_counted o_becameThen o_firstCorner o_drawn o_ranSteps o_isTold o_marks o_at_j117 o_names_j117 o_tape o_text_j117) H → va_D A (wd_X12_city E a_o a_o_at a_o_names a_o_sort a_o_trayMany a_o_trays a_o_tape a_o_text a_o_opened a_o_farBy a_o_attendsBy a_o_coveredBy a_o_cameBy a_o_cameThen a_o_fallsBy a_o_loops a_o_ran a_o_told1 o_status_j117 o_top o_bottom o_taped_j117 o_size_j117 o_token_j117 o_from_j117 o_end_j117 o_value_j117 o_faultKind_j117 o_faultPlace_j117 o_faults_j117 o_seen_j117 o_toldParts_j117 o_depth o_counted o_becameThen o_firstCorner o_drawn o_ranSteps o_isTold o_marks o_at_j117 o_names_j117 o_tape o_text_j117) → va_S A s.heap H locs → lv_has ls 4 [(0, .ref a_o)] → W p l e (rmd 10) s m aa below meth cd H locs 0 0 QQ (F0 m 117 ls []) := by
    intro o_status_j117 o_taped_j117 o_size_j117 o_token_j117 o_from_j117 o_end_j117 o_value_j117 o_faultKind_j117 o_faultPlace_j117 o_faults_j117 o_seen_j117 o_toldParts_j117 o_at_j117 o_names_j117 o_text_j117 H locs ls hf hP hD hS hl
    unfold X12_city_j117 at hf
    refine lv_aload_n hx hb dX12_city_117 rfl (lv_at hl 0 rfl) ?_
    refine lv_aload_n hx hb dX12_city_118 rfl (lv_at hl 0 rfl) ?_
    refine va_get (D := E.1) (ci := 12) (v := .ref a_o_at) (C := RX12) (T := TX12) (N := 39) hx hb hts inX12 hown hK hP 0 rfl rfl 0 (by decide) (hts _ fl_X12_7) (fun _ h9 => h9) rfl dX12_city_119 ?_
    refine lv_iconst (v := 0) hx hb dX12_city_122 (by decide) ?_
    obtain ⟨hi, hf⟩ := ck hf
    refine r_iald 1 cx hP rfl hi dX12_city_123 ?_
    obtain ⟨u124, hu124, hf⟩ := bd hf
    refine callVI (wn := (wd_X12_city E a_o a_o_at a_o_names a_o_sort a_o_trayMany a_o_trays a_o_tape a_o_text a_o_opened a_o_farBy a_o_attendsBy a_o_coveredBy a_o_cameBy a_o_cameThen a_o_fallsBy a_o_loops a_o_ran a_o_told1 u124.2.1 o_top o_bottom o_taped_j117 o_size_j117 o_token_j117 o_from_j117 o_end_j117 o_value_j117 u124.2.2 o_faultPlace_j117 o_faults_j117 o_seen_j117 o_toldParts_j117 o_depth o_counted o_becameThen o_firstCorner o_drawn o_ranSteps o_isTold o_marks o_at_j117 o_names_j117 o_tape o_text_j117)) (n1 := 5) (ct_X12_taken l E a_o a_o_at a_o_names a_o_sort a_o_trayMany a_o_trays a_o_tape a_o_text a_o_opened a_o_farBy a_o_attendsBy a_o_coveredBy a_o_cameBy a_o_cameThen a_o_fallsBy a_o_loops a_o_ran a_o_told1 o_status_j117 o_top o_bottom o_taped_j117 o_size_j117 o_token_j117 o_from_j117 o_end_j117 o_value_j117 o_faultKind_j117 o_faultPlace_j117 o_faults_j117 o_seen_j117 o_toldParts_j117 o_depth o_counted o_becameThen o_firstCorner o_drawn o_ranSteps o_isTold o_marks (jat o_at_j117 0) u124 hu124) [0] cal_X12_taken cav_X12_taken lk_X12_251 cx hP hD hS hl dX12_city_124 rfl rfl rfl rfl (Nat.le_of_ble_eq_true rfl) ⟨Nat.le_of_ble_eq_true rfl, Nat.le_of_ble_eq_true rfl⟩ rfl (by decide +kernel) rfl [some 0, none, none, none, none] rfl (by decide +kernel) rfl (fun H locs hP hD hS => ?_)
    obtain rfl := Option.some.inj hf
    subst hq
    exact retI cx hP hD hS dX12_city_127
  have hj50 : ∀ (o_status_j50 : Int32) (o_taped_j50 : Int32) (o_size_j50 : Int32) (o_token_j50 : Int32) (o_from_j50 : Int32) (o_end_j50 : Int32) (o_value_j50 : Int32) (o_faultKind_j50 : Int32) (o_faultPlace_j50 : Int32) (o_faults_j50 : Int32) (o_seen_j50 : Int32) (o_toldParts_j50 : Int32) (o_at_j50 : Nat → Int32) (o_names_j50 : Nat → Int64) (o_text_j50 : Nat → Int32) (H : Heap) (locs : List Loc) (ls : Array Slot), X12_city_j50 F o_status_j50 o_taped_j50 o_size_j50 o_token_j50 o_from_j50 o_end_j50 o_value_j50 o_faultKind_j50 o_faultPlace_j50 o_faults_j50 o_seen_j50 o_toldParts_j50 o_at_j50 o_names_j50 o_tape o_text_j50 = some u → va_P E.1 vwCl (wd_X12_city E a_o a_o_at a_o_names a_o_sort a_o_trayMany a_o_trays a_o_tape a_o_text a_o_opened a_o_farBy a_o_attendsBy a_o_coveredBy a_o_cameBy a_o_cameThen a_o_fallsBy a_o_loops a_o_ran a_o_told1 o_status_j50 o_top o_bottom o_taped_j50 o_size_j50 o_token_j50 o_from_j50 o_end_j50 o_value_j50 o_faultKind_j50 o_faultPlace_j50 o_faults_j50 o_seen_j50 o_toldParts_j50 o_depth o_counted o_becameThen o_firstCorner o_drawn o_ranSteps o_isTold o_marks o_at_j50 o_names_j50 o_tape o_text_j50) H → va_D A (wd_X12_city E a_o a_o_at a_o_names a_o_sort a_o_trayMany a_o_trays a_o_tape a_o_text a_o_opened a_o_farBy a_o_attendsBy a_o_coveredBy a_o_cameBy a_o_cameThen a_o_fallsBy a_o_loops a_o_ran a_o_told1 o_status_j50 o_top o_bottom o_taped_j50 o_size_j50 o_token_j50 o_from_j50 o_end_j50 o_value_j50 o_faultKind_j50 o_faultPlace_j50 o_faults_j50 o_seen_j50 o_toldParts_j50 o_depth o_counted o_becameThen o_firstCorner o_drawn o_ranSteps o_isTold o_marks o_at_j50 o_names_j50 o_tape o_text_j50) → va_S A s.heap H locs → lv_has ls 4 [(0, .ref a_o)] → W p l e (rmd 10) s m aa below meth cd H locs 0 0 QQ (F0 m 50 ls []) := by
    intro o_status_j50 o_taped_j50 o_size_j50 o_token_j50 o_from_j50 o_end_j50 o_value_j50 o_faultKind_j50 o_faultPlace_j50 o_faults_j50 o_seen_j50 o_toldParts_j50 o_at_j50 o_names_j50 o_text_j50 H locs ls hf hP hD hS hl
    unfold X12_city_j50 at hf
    refine lv_aload_n hx hb dX12_city_50 rfl (lv_at hl 0 rfl) ?_
    refine va_get (D := E.1) (ci := 12) (v := .int o_faults_j50) (C := RX12) (T := TX12) (N := 39) hx hb hts inX12 hown hK hP 0 rfl rfl 18 (by decide) (hts _ fl_X12_155) (fun _ h9 => h9) rfl dX12_city_51 ?_
    refine lv_if_ne (tgt := 117) hx hb dX12_city_54 (by decide) (fun hc => ?_) (fun hc => ?_)
    · have hf := it_f hc hf
      exact hj117 _ _ _ _ _ _ _ _ _ _ _ _ _ _ _ _ _ _ hf hP hD hS (lv_sub hl [0] rfl)
    · have hf := it_t hc hf
      refine lv_iconst (v := 0) hx hb dX12_city_57 (by decide) ?_
      refine lv_istore_n (lv' := [(3, .int 0), (0, .ref a_o)]) hx hb dX12_city_58 rfl hl (by decide) rfl (fun ls hl => ?_)
      obtain ⟨e59, hit59, hf⟩ := bd hf
      refine iter_W (b := X12_city_b59 F o_status_j50 o_taped_j50 o_size_j50 o_token_j50 o_from_j50 o_end_j50 o_value_j50 o_faultKind_j50 o_faultPlace_j50 o_faults_j50 o_seen_j50 o_toldParts_j50 o_names_j50 o_tape o_text_j50) (P := fun st59 => ∀ (H : Heap) (locs : List Loc) (ls : Array Slot), va_P E.1 vwCl (wd_X12_city E a_o a_o_at a_o_names a_o_sort a_o_trayMany a_o_trays a_o_tape a_o_text a_o_opened a_o_farBy a_o_attendsBy a_o_coveredBy a_o_cameBy a_o_cameThen a_o_fallsBy a_o_loops a_o_ran a_o_told1 o_status_j50 o_top o_bottom o_taped_j50 o_size_j50 o_token_j50 o_from_j50 o_end_j50 o_value_j50 o_faultKind_j50 o_faultPlace_j50 o_faults_j50 o_seen_j50 o_toldParts_j50 o_depth o_counted o_becameThen o_firstCorner o_drawn o_ranSteps o_isTold o_marks st59.2 o_names_j50 o_tape o_text_j50) H → va_D A (wd_X12_city E a_o a_o_at a_o_names a_o_sort a_o_trayMany a_o_trays a_o_tape a_o_text a_o_opened a_o_farBy a_o_attendsBy a_o_coveredBy a_o_cameBy a_o_cameThen a_o_fallsBy a_o_loops a_o_ran a_o_told1 o_status_j50 o_top o_bottom o_taped_j50 o_size_j50 o_token_j50 o_from_j50 o_end_j50 o_value_j50 o_faultKind_j50 o_faultPlace_j50 o_faults_j50 o_seen_j50 o_toldParts_j50 o_depth o_counted o_becameThen o_firstCorner o_drawn o_ranSteps o_isTold o_marks st59.2 o_names_j50 o_tape o_text_j50) → va_S A s.heap H locs → lv_has ls 4 [(0, .ref a_o), (3, .int st59.1)] → W p l e (rmd 10) s m aa below meth cd H locs 0 0 QQ (F0 m 59 ls [])) (G := (fun (e59 : (Nat → Int32)) => ∀ (H : Heap) (locs : List Loc) (ls : Array Slot), va_P E.1 vwCl (wd_X12_city E a_o a_o_at a_o_names a_o_sort a_o_trayMany a_o_trays a_o_tape a_o_text a_o_opened a_o_farBy a_o_attendsBy a_o_coveredBy a_o_cameBy a_o_cameThen a_o_fallsBy a_o_loops a_o_ran a_o_told1 o_status_j50 o_top o_bottom o_taped_j50 o_size_j50 o_token_j50 o_from_j50 o_end_j50 o_value_j50 o_faultKind_j50 o_faultPlace_j50 o_faults_j50 o_seen_j50 o_toldParts_j50 o_depth o_counted o_becameThen o_firstCorner o_drawn o_ranSteps o_isTold o_marks e59 o_names_j50 o_tape o_text_j50) H → va_D A (wd_X12_city E a_o a_o_at a_o_names a_o_sort a_o_trayMany a_o_trays a_o_tape a_o_text a_o_opened a_o_farBy a_o_attendsBy a_o_coveredBy a_o_cameBy a_o_cameThen a_o_fallsBy a_o_loops a_o_ran a_o_told1 o_status_j50 o_top o_bottom o_taped_j50 o_size_j50 o_token_j50 o_from_j50 o_end_j50 o_value_j50 o_faultKind_j50 o_faultPlace_j50 o_faults_j50 o_seen_j50 o_toldParts_j50 o_depth o_counted o_becameThen o_firstCorner o_drawn o_ranSteps o_isTold o_marks e59 o_names_j50 o_tape o_text_j50) → va_S A s.heap H locs → lv_has ls 4 [(0, .ref a_o)] → W p l e (rmd 10) s m aa below meth cd H locs 0 0 QQ (F0 m 88 ls []))) ?_ F (0, o_at_j50) e59 hit59 ?_ _ _ _ hP hD hS (lv_sub hl [1, 0] rfl)
      · intro st59 r59 hf hk59 he59 H locs ls hP hD hS hl
        unfold X12_city_b59 at hf
        refine lv_iload_n hx hb dX12_city_59 rfl (lv_at hl 1 rfl) ?_
        refine lv_sipush (v := 495) hx hb dX12_city_60 (by decide) ?_
        refine lv_icmp_ge (tgt := 88) hx hb dX12_city_63 (by decide) (fun hc => ?_) (fun hc => ?_)
        · have hf := it_t hc hf
          exact he59 _ (Option.some.inj hf).symm _ _ _ hP hD hS (lv_sub hl [0] rfl)
        · have hf := it_f hc hf
          refine lv_aload_n hx hb dX12_city_66 rfl (lv_at hl 0 rfl) ?_
          refine va_get (D := E.1) (ci := 12) (v := .ref a_o_at) (C := RX12) (T := TX12) (N := 39) hx hb hts inX12 hown hK hP 0 rfl rfl 0 (by decide) (hts _ fl_X12_7) (fun _ h9 => h9) rfl dX12_city_67 ?_
          refine lv_iload_n hx hb dX12_city_70 rfl (lv_at hl 1 rfl) ?_
          refine lv_aload_n hx hb dX12_city_71 rfl (lv_at hl 0 rfl) ?_
          refine va_get (D := E.1) (ci := 12) (v := .ref a_o_at) (C := RX12) (T := TX12) (N := 39) hx hb hts inX12 hown hK hP 0 rfl rfl 0 (by decide) (hts _ fl_X12_7) (fun _ h9 => h9) rfl dX12_city_72 ?_
          refine lv_sipush (v := 1980) hx hb dX12_city_75 (by decide) ?_
          refine lv_iload_n hx hb dX12_city_78 rfl (lv_at hl 1 rfl) ?_
          refine lv_iadd hx hb dX12_city_79 ?_
          obtain ⟨hi, hf⟩ := ck hf
          refine r_iald 1 cx hP rfl hi dX12_city_80 ?_
          obtain ⟨hi, hf⟩ := ck hf
          refine r_iast 1 cx hP hD hS rfl hi dX12_city_81 (fun H locs hP hD hS => ?_)
          have hP : va_P E.1 vwCl (wd_X12_city E a_o a_o_at a_o_names a_o_sort a_o_trayMany a_o_trays a_o_tape a_o_text a_o_opened a_o_farBy a_o_attendsBy a_o_coveredBy a_o_cameBy a_o_cameThen a_o_fallsBy a_o_loops a_o_ran a_o_told1 o_status_j50 o_top o_bottom o_taped_j50 o_size_j50 o_token_j50 o_from_j50 o_end_j50 o_value_j50 o_faultKind_j50 o_faultPlace_j50 o_faults_j50 o_seen_j50 o_toldParts_j50 o_depth o_counted o_becameThen o_firstCorner o_drawn o_ranSteps o_isTold o_marks (jput st59.2 st59.1 (jat st59.2 (1980 + st59.1))) o_names_j50 o_tape o_text_j50) H := hP
          have hD : va_D A (wd_X12_city E a_o a_o_at a_o_names a_o_sort a_o_trayMany a_o_trays a_o_tape a_o_text a_o_opened a_o_farBy a_o_attendsBy a_o_coveredBy a_o_cameBy a_o_cameThen a_o_fallsBy a_o_loops a_o_ran a_o_told1 o_status_j50 o_top o_bottom o_taped_j50 o_size_j50 o_token_j50 o_from_j50 o_end_j50 o_value_j50 o_faultKind_j50 o_faultPlace_j50 o_faults_j50 o_seen_j50 o_toldParts_j50 o_depth o_counted o_becameThen o_firstCorner o_drawn o_ranSteps o_isTold o_marks (jput st59.2 st59.1 (jat st59.2 (1980 + st59.1))) o_names_j50 o_tape o_text_j50) := hD
          refine lv_iinc (v := (st59.1 + 1)) (lv' := [(3, .int (st59.1 + 1)), (0, .ref a_o)]) hx hb dX12_city_82 hl (k := 1) rfl rfl (by decide) rfl (fun ls hl => ?_)
          refine lv_goto (tgt := 59) hx hb dX12_city_85 (by decide) ?_
          exact hk59 _ (Option.some.inj hf).symm _ _ _ hP hD hS (lv_sub hl [1, 0] rfl)
      · refine fun H locs ls hP hD hS hl => ?_
        refine lv_iconst (v := 0) hx hb dX12_city_88 (by decide) ?_
        refine lv_istore_n (lv' := [(3, .int 0), (0, .ref a_o)]) hx hb dX12_city_89 rfl hl (by decide) rfl (fun ls hl => ?_)
        obtain ⟨e90, hit90, hf⟩ := bd hf
        refine iter_W (b := X12_city_b90 F o_status_j50 o_taped_j50 o_size_j50 o_token_j50 o_from_j50 o_end_j50 o_value_j50 o_faultKind_j50 o_faultPlace_j50 o_faults_j50 o_seen_j50 o_toldParts_j50 e59 o_tape o_text_j50) (P := fun st90 => ∀ (H : Heap) (locs : List Loc) (ls : Array Slot), va_P E.1 vwCl (wd_X12_city E a_o a_o_at a_o_names a_o_sort a_o_trayMany a_o_trays a_o_tape a_o_text a_o_opened a_o_farBy a_o_attendsBy a_o_coveredBy a_o_cameBy a_o_cameThen a_o_fallsBy a_o_loops a_o_ran a_o_told1 o_status_j50 o_top o_bottom o_taped_j50 o_size_j50 o_token_j50 o_from_j50 o_end_j50 o_value_j50 o_faultKind_j50 o_faultPlace_j50 o_faults_j50 o_seen_j50 o_toldParts_j50 o_depth o_counted o_becameThen o_firstCorner o_drawn o_ranSteps o_isTold o_marks e59 st90.2 o_tape o_text_j50) H → va_D A (wd_X12_city E a_o a_o_at a_o_names a_o_sort a_o_trayMany a_o_trays a_o_tape a_o_text a_o_opened a_o_farBy a_o_attendsBy a_o_coveredBy a_o_cameBy a_o_cameThen a_o_fallsBy a_o_loops a_o_ran a_o_told1 o_status_j50 o_top o_bottom o_taped_j50 o_size_j50 o_token_j50 o_from_j50 o_end_j50 o_value_j50 o_faultKind_j50 o_faultPlace_j50 o_faults_j50 o_seen_j50 o_toldParts_j50 o_depth o_counted o_becameThen o_firstCorner o_drawn o_ranSteps o_isTold o_marks e59 st90.2 o_tape o_text_j50) → va_S A s.heap H locs → lv_has ls 4 [(0, .ref a_o), (3, .int st90.1)] → W p l e (rmd 10) s m aa below meth cd H locs 0 0 QQ (F0 m 90 ls [])) (G := (fun (e90 : (Nat → Int64)) => ∀ (H : Heap) (locs : List Loc) (ls : Array Slot), va_P E.1 vwCl (wd_X12_city E a_o a_o_at a_o_names a_o_sort a_o_trayMany a_o_trays a_o_tape a_o_text a_o_opened a_o_farBy a_o_attendsBy a_o_coveredBy a_o_cameBy a_o_cameThen a_o_fallsBy a_o_loops a_o_ran a_o_told1 o_status_j50 o_top o_bottom o_taped_j50 o_size_j50 o_token_j50 o_from_j50 o_end_j50 o_value_j50 o_faultKind_j50 o_faultPlace_j50 o_faults_j50 o_seen_j50 o_toldParts_j50 o_depth o_counted o_becameThen o_firstCorner o_drawn o_ranSteps o_isTold o_marks e59 e90 o_tape o_text_j50) H → va_D A (wd_X12_city E a_o a_o_at a_o_names a_o_sort a_o_trayMany a_o_trays a_o_tape a_o_text a_o_opened a_o_farBy a_o_attendsBy a_o_coveredBy a_o_cameBy a_o_cameThen a_o_fallsBy a_o_loops a_o_ran a_o_told1 o_status_j50 o_top o_bottom o_taped_j50 o_size_j50 o_token_j50 o_from_j50 o_end_j50 o_value_j50 o_faultKind_j50 o_faultPlace_j50 o_faults_j50 o_seen_j50 o_toldParts_j50 o_depth o_counted o_becameThen o_firstCorner o_drawn o_ranSteps o_isTold o_marks e59 e90 o_tape o_text_j50) → va_S A s.heap H locs → lv_has ls 4 [(0, .ref a_o)] → W p l e (rmd 10) s m aa below meth cd H locs 0 0 QQ (F0 m 117 ls []))) ?_ F (0, o_names_j50) e90 hit90 ?_ _ _ _ hP hD hS (lv_sub hl [1, 0] rfl)
        · intro st90 r90 hf hk90 he90 H locs ls hP hD hS hl
          unfold X12_city_b90 at hf
          refine lv_iload_n hx hb dX12_city_90 rfl (lv_at hl 1 rfl) ?_
          refine lv_bipush (v := 27) hx hb dX12_city_91 (by decide) ?_
          refine lv_icmp_ge (tgt := 117) hx hb dX12_city_93 (by decide) (fun hc => ?_) (fun hc => ?_)
          · have hf := it_t hc hf
            exact he90 _ (Option.some.inj hf).symm _ _ _ hP hD hS (lv_sub hl [0] rfl)
          · have hf := it_f hc hf
            refine lv_aload_n hx hb dX12_city_96 rfl (lv_at hl 0 rfl) ?_
            refine va_get (D := E.1) (ci := 12) (v := .ref a_o_names) (C := RX12) (T := TX12) (N := 39) hx hb hts inX12 hown hK hP 0 rfl rfl 1 (by decide) (hts _ fl_X12_13) (fun _ h9 => h9) rfl dX12_city_97 ?_
            refine lv_iload_n hx hb dX12_city_100 rfl (lv_at hl 1 rfl) ?_
            refine lv_aload_n hx hb dX12_city_101 rfl (lv_at hl 0 rfl) ?_
            refine va_get (D := E.1) (ci := 12) (v := .ref a_o_names) (C := RX12) (T := TX12) (N := 39) hx hb hts inX12 hown hK hP 0 rfl rfl 1 (by decide) (hts _ fl_X12_13) (fun _ h9 => h9) rfl dX12_city_102 ?_
            refine lv_bipush (v := 108) hx hb dX12_city_105 (by decide) ?_
            refine lv_iload_n hx hb dX12_city_107 rfl (lv_at hl 1 rfl) ?_
            refine lv_iadd hx hb dX12_city_108 ?_
            obtain ⟨hi, hf⟩ := ck hf
            refine r_lald 2 cx hP rfl hi dX12_city_109 ?_
            obtain ⟨hi, hf⟩ := ck hf
            refine r_last 2 cx hP hD hS rfl hi dX12_city_110 (fun H locs hP hD hS => ?_)
            have hP : va_P E.1 vwCl (wd_X12_city E a_o a_o_at a_o_names a_o_sort a_o_trayMany a_o_trays a_o_tape a_o_text a_o_opened a_o_farBy a_o_attendsBy a_o_coveredBy a_o_cameBy a_o_cameThen a_o_fallsBy a_o_loops a_o_ran a_o_told1 o_status_j50 o_top o_bottom o_taped_j50 o_size_j50 o_token_j50 o_from_j50 o_end_j50 o_value_j50 o_faultKind_j50 o_faultPlace_j50 o_faults_j50 o_seen_j50 o_toldParts_j50 o_depth o_counted o_becameThen o_firstCorner o_drawn o_ranSteps o_isTold o_marks e59 (jputL st90.2 st90.1 (jat st90.2 (108 + st90.1))) o_tape o_text_j50) H := hP
            have hD : va_D A (wd_X12_city E a_o a_o_at a_o_names a_o_sort a_o_trayMany a_o_trays a_o_tape a_o_text a_o_opened a_o_farBy a_o_attendsBy a_o_coveredBy a_o_cameBy a_o_cameThen a_o_fallsBy a_o_loops a_o_ran a_o_told1 o_status_j50 o_top o_bottom o_taped_j50 o_size_j50 o_token_j50 o_from_j50 o_end_j50 o_value_j50 o_faultKind_j50 o_faultPlace_j50 o_faults_j50 o_seen_j50 o_toldParts_j50 o_depth o_counted o_becameThen o_firstCorner o_drawn o_ranSteps o_isTold o_marks e59 (jputL st90.2 st90.1 (jat st90.2 (108 + st90.1))) o_tape o_text_j50) := hD
            refine lv_iinc (v := (st90.1 + 1)) (lv' := [(3, .int (st90.1 + 1)), (0, .ref a_o)]) hx hb dX12_city_111 hl (k := 1) rfl rfl (by decide) rfl (fun ls hl => ?_)
            refine lv_goto (tgt := 90) hx hb dX12_city_114 (by decide) ?_
            exact hk90 _ (Option.some.inj hf).symm _ _ _ hP hD hS (lv_sub hl [1, 0] rfl)
        · refine fun H locs ls hP hD hS hl => ?_
          exact hj117 _ _ _ _ _ _ _ _ _ _ _ _ _ _ _ _ _ _ hf hP hD hS (lv_sub hl [0] rfl)
  unfold X12_city at hf
  refine lv_aload_n hx hb dX12_city_0 rfl (lv_at hl 0 rfl) ?_
  refine lv_iload_n hx hb dX12_city_1 rfl (lv_at hl 1 rfl) ?_
  refine lv_sipush (v := 900) hx hb dX12_city_2 (by decide) ?_
  obtain ⟨u5, hu5, hf⟩ := bd hf
  refine callVI (wn := (wd_X12_city E a_o a_o_at a_o_names a_o_sort a_o_trayMany a_o_trays a_o_tape a_o_text a_o_opened a_o_farBy a_o_attendsBy a_o_coveredBy a_o_cameBy a_o_cameThen a_o_fallsBy a_o_loops a_o_ran a_o_told1 o_status o_top o_bottom (u5.1 1) (u5.1 2) (u5.1 3) (u5.1 4) (u5.1 5) (u5.1 6) o_faultKind (u5.1 7) (u5.1 8) (u5.1 9) o_toldParts o_depth o_counted o_becameThen o_firstCorner o_drawn o_ranSteps o_isTold o_marks o_at o_names o_tape (u5.2.2.1 0))) (n1 := 5) (ct_X12_begins l E F a_o a_o_at a_o_names a_o_sort a_o_trayMany a_o_trays a_o_tape a_o_text a_o_opened a_o_farBy a_o_attendsBy a_o_coveredBy a_o_cameBy a_o_cameThen a_o_fallsBy a_o_loops a_o_ran a_o_told1 o_status o_top o_bottom o_taped o_size o_token o_from o_end o_value o_faultKind o_faultPlace o_faults o_seen o_toldParts o_depth o_counted o_becameThen o_firstCorner o_drawn o_ranSteps o_isTold o_marks o_tape o_text v1 (900 : Int32) u5 hu5) [0, 3, 4] cal_X12_begins cav_X12_begins lk_X12_244 cx hP hD hS hl dX12_city_5 rfl rfl rfl rfl (Nat.le_of_ble_eq_true rfl) ⟨Nat.le_of_ble_eq_true rfl, Nat.le_of_ble_eq_true rfl⟩ rfl (by decide +kernel) rfl [some 0, none, none, some 1, some 2] rfl (by decide +kernel) rfl (fun H locs hP hD hS => ?_)
  refine lv_if_ne (tgt := 17) hx hb dX12_city_8 (by decide) (fun hc => ?_) (fun hc => ?_)
  · have hf := it_f hc hf
    refine lv_aload_n hx hb dX12_city_17 rfl (lv_at hl 0 rfl) ?_
    refine lv_sipush (v := 1980) hx hb dX12_city_18 (by decide) ?_
    obtain ⟨u21, hu21, hf⟩ := bd hf
    refine callVV (wn := (wd_X12_city E a_o a_o_at a_o_names a_o_sort a_o_trayMany a_o_trays a_o_tape a_o_text a_o_opened a_o_farBy a_o_attendsBy a_o_coveredBy a_o_cameBy a_o_cameThen a_o_fallsBy a_o_loops a_o_ran a_o_told1 o_status o_top o_bottom (u5.1 1) (u5.1 2) (u5.1 3) (u5.1 4) (u5.1 5) (u5.1 6) o_faultKind (u5.1 7) (u5.1 8) (u5.1 9) o_toldParts o_depth o_counted o_becameThen o_firstCorner o_drawn o_ranSteps o_isTold o_marks u21 o_names o_tape (u5.2.2.1 0))) (n1 := 5) (ct_X12_plain l E F a_o a_o_at a_o_names a_o_sort a_o_trayMany a_o_trays a_o_tape a_o_text a_o_opened a_o_farBy a_o_attendsBy a_o_coveredBy a_o_cameBy a_o_cameThen a_o_fallsBy a_o_loops a_o_ran a_o_told1 o_status o_top o_bottom (u5.1 1) (u5.1 2) (u5.1 3) (u5.1 4) (u5.1 5) (u5.1 6) o_faultKind (u5.1 7) (u5.1 8) (u5.1 9) o_toldParts o_depth o_counted o_becameThen o_firstCorner o_drawn o_ranSteps o_isTold o_marks o_at (1980 : Int32) u21 hu21) [0, 1] cal_X12_plain cav_X12_plain lk_X12_75 cx hP hD hS hl dX12_city_21 rfl rfl rfl rfl (Nat.le_of_ble_eq_true rfl) ⟨Nat.le_of_ble_eq_true rfl, Nat.le_of_ble_eq_true rfl⟩ rfl (by decide +kernel) rfl [some 0, some 1, none, none, none] rfl (by decide +kernel) rfl (fun H locs hP hD hS => ?_)
    refine lv_aload_n hx hb dX12_city_24 rfl (lv_at hl 0 rfl) ?_
    refine lv_iconst (v := 0) hx hb dX12_city_25 (by decide) ?_
    refine va_put (D := E.1) (ci := 12) (v := .int 0) (ty := .int) (C := RX12) (T := TX12) (N := 39) hx hb hts inX12 tyX12 tyX12_ok nmX12 hown hK hP hD hS 0 rfl rfl 20 (by decide) (hts _ fl_X12_220) (fun _ h9 => h9) rfl (by decide +kernel) rfl rfl (Nat.le_of_ble_eq_true rfl) dX12_city_26 (fun H locs hP hD hS => ?_)
    have hP : va_P E.1 vwCl (wd_X12_city E a_o a_o_at a_o_names a_o_sort a_o_trayMany a_o_trays a_o_tape a_o_text a_o_opened a_o_farBy a_o_attendsBy a_o_coveredBy a_o_cameBy a_o_cameThen a_o_fallsBy a_o_loops a_o_ran a_o_told1 o_status o_top o_bottom (u5.1 1) (u5.1 2) (u5.1 3) (u5.1 4) (u5.1 5) (u5.1 6) o_faultKind (u5.1 7) (u5.1 8) (u5.1 9) 0 o_depth o_counted o_becameThen o_firstCorner o_drawn o_ranSteps o_isTold o_marks u21 o_names o_tape (u5.2.2.1 0)) H := hP
    have hD : va_D A (wd_X12_city E a_o a_o_at a_o_names a_o_sort a_o_trayMany a_o_trays a_o_tape a_o_text a_o_opened a_o_farBy a_o_attendsBy a_o_coveredBy a_o_cameBy a_o_cameThen a_o_fallsBy a_o_loops a_o_ran a_o_told1 o_status o_top o_bottom (u5.1 1) (u5.1 2) (u5.1 3) (u5.1 4) (u5.1 5) (u5.1 6) o_faultKind (u5.1 7) (u5.1 8) (u5.1 9) 0 o_depth o_counted o_becameThen o_firstCorner o_drawn o_ranSteps o_isTold o_marks u21 o_names o_tape (u5.2.2.1 0)) := hD
    refine lv_iconst (v := 1) hx hb dX12_city_29 (by decide) ?_
    refine lv_istore_n (lv' := [(2, .int 1), (0, .ref a_o), (1, .int v1)]) hx hb dX12_city_30 rfl hl (by decide) rfl (fun ls hl => ?_)
    obtain ⟨e31, hit31, hf⟩ := bd hf
    refine iter_W (b := X12_city_b31 F o_status (u5.1 1) (u5.1 2) o_faultKind (u5.1 9) o_tape (u5.2.2.1 0)) (P := fun st31 => ∀ (H : Heap) (locs : List Loc) (ls : Array Slot), va_P E.1 vwCl (wd_X12_city E a_o a_o_at a_o_names a_o_sort a_o_trayMany a_o_trays a_o_tape a_o_text a_o_opened a_o_farBy a_o_attendsBy a_o_coveredBy a_o_cameBy a_o_cameThen a_o_fallsBy a_o_loops a_o_ran a_o_told1 o_status o_top o_bottom (u5.1 1) (u5.1 2) st31.2.1 st31.2.2.1 st31.2.2.2.1 st31.2.2.2.2.1 o_faultKind st31.2.2.2.2.2.1 st31.2.2.2.2.2.2.1 (u5.1 9) st31.2.2.2.2.2.2.2.1 o_depth o_counted o_becameThen o_firstCorner o_drawn o_ranSteps o_isTold o_marks st31.2.2.2.2.2.2.2.2.1 st31.2.2.2.2.2.2.2.2.2 o_tape (u5.2.2.1 0)) H → va_D A (wd_X12_city E a_o a_o_at a_o_names a_o_sort a_o_trayMany a_o_trays a_o_tape a_o_text a_o_opened a_o_farBy a_o_attendsBy a_o_coveredBy a_o_cameBy a_o_cameThen a_o_fallsBy a_o_loops a_o_ran a_o_told1 o_status o_top o_bottom (u5.1 1) (u5.1 2) st31.2.1 st31.2.2.1 st31.2.2.2.1 st31.2.2.2.2.1 o_faultKind st31.2.2.2.2.2.1 st31.2.2.2.2.2.2.1 (u5.1 9) st31.2.2.2.2.2.2.2.1 o_depth o_counted o_becameThen o_firstCorner o_drawn o_ranSteps o_isTold o_marks st31.2.2.2.2.2.2.2.2.1 st31.2.2.2.2.2.2.2.2.2 o_tape (u5.2.2.1 0)) → va_S A s.heap H locs → lv_has ls 4 [(0, .ref a_o), (2, .int st31.1)] → W p l e (rmd 10) s m aa below meth cd H locs 0 0 QQ (F0 m 31 ls [])) (G := (fun (e31 : Int32 × Int32 × Int32 × Int32 × Int32 × Int32 × Int32 × (Nat → Int32) × (Nat → Int64)) => ∀ (H : Heap) (locs : List Loc) (ls : Array Slot), va_P E.1 vwCl (wd_X12_city E a_o a_o_at a_o_names a_o_sort a_o_trayMany a_o_trays a_o_tape a_o_text a_o_opened a_o_farBy a_o_attendsBy a_o_coveredBy a_o_cameBy a_o_cameThen a_o_fallsBy a_o_loops a_o_ran a_o_told1 o_status o_top o_bottom (u5.1 1) (u5.1 2) e31.1 e31.2.1 e31.2.2.1 e31.2.2.2.1 o_faultKind e31.2.2.2.2.1 e31.2.2.2.2.2.1 (u5.1 9) e31.2.2.2.2.2.2.1 o_depth o_counted o_becameThen o_firstCorner o_drawn o_ranSteps o_isTold o_marks e31.2.2.2.2.2.2.2.1 e31.2.2.2.2.2.2.2.2 o_tape (u5.2.2.1 0)) H → va_D A (wd_X12_city E a_o a_o_at a_o_names a_o_sort a_o_trayMany a_o_trays a_o_tape a_o_text a_o_opened a_o_farBy a_o_attendsBy a_o_coveredBy a_o_cameBy a_o_cameThen a_o_fallsBy a_o_loops a_o_ran a_o_told1 o_status o_top o_bottom (u5.1 1) (u5.1 2) e31.1 e31.2.1 e31.2.2.1 e31.2.2.2.1 o_faultKind e31.2.2.2.2.1 e31.2.2.2.2.2.1 (u5.1 9) e31.2.2.2.2.2.2.1 o_depth o_counted o_becameThen o_firstCorner o_drawn o_ranSteps o_isTold o_marks e31.2.2.2.2.2.2.2.1 e31.2.2.2.2.2.2.2.2 o_tape (u5.2.2.1 0)) → va_S A s.heap H locs → lv_has ls 4 [(0, .ref a_o)] → W p l e (rmd 10) s m aa below meth cd H locs 0 0 QQ (F0 m 50 ls []))) ?_ F (1, (u5.1 3), (u5.1 4), (u5.1 5), (u5.1 6), (u5.1 7), (u5.1 8), 0, u21, o_names) e31 hit31 ?_ _ _ _ hP hD hS (lv_sub hl [1, 0] rfl)
    · intro st31 r31 hf hk31 he31 H locs ls hP hD hS hl
      unfold X12_city_b31 at hf
      refine lv_iload_n hx hb dX12_city_31 rfl (lv_at hl 1 rfl) ?_
      refine lv_if_eq (tgt := 50) hx hb dX12_city_32 (by decide) (fun hc => ?_) (fun hc => ?_)
      · have hf := it_t hc hf
        exact he31 _ (Option.some.inj hf).symm _ _ _ hP hD hS (lv_sub hl [0] rfl)
      · have hf := it_f hc hf
        refine lv_aload_n hx hb dX12_city_35 rfl (lv_at hl 0 rfl) ?_
        refine va_get (D := E.1) (ci := 12) (v := .int st31.2.1) (C := RX12) (T := TX12) (N := 39) hx hb hts inX12 hown hK hP 0 rfl rfl 12 (by decide) (hts _ fl_X12_130) (fun _ h9 => h9) rfl dX12_city_36 ?_
        refine lv_if_eq (tgt := 50) hx hb dX12_city_39 (by decide) (fun hc => ?_) (fun hc => ?_)
        · have hf := it_t hc hf
          exact he31 _ (Option.some.inj hf).symm _ _ _ hP hD hS (lv_sub hl [0] rfl)
        · have hf := it_f hc hf
          refine lv_aload_n hx hb dX12_city_42 rfl (lv_at hl 0 rfl) ?_
          obtain ⟨u43, hu43, hf⟩ := bd hf
          refine callVI (wn := (wd_X12_city E a_o a_o_at a_o_names a_o_sort a_o_trayMany a_o_trays a_o_tape a_o_text a_o_opened a_o_farBy a_o_attendsBy a_o_coveredBy a_o_cameBy a_o_cameThen a_o_fallsBy a_o_loops a_o_ran a_o_told1 o_status o_top o_bottom (u5.1 1) (u5.1 2) u43.2.1 u43.2.2.1 u43.2.2.2.1 u43.2.2.2.2.1 o_faultKind u43.2.2.2.2.2.1 u43.2.2.2.2.2.2.1 (u5.1 9) u43.2.2.2.2.2.2.2.1 o_depth o_counted o_becameThen o_firstCorner o_drawn o_ranSteps o_isTold o_marks u43.2.2.2.2.2.2.2.2.1 u43.2.2.2.2.2.2.2.2.2 o_tape (u5.2.2.1 0))) (n1 := 5) (ct_X12_cityPart l E F a_o a_o_at a_o_names a_o_sort a_o_trayMany a_o_trays a_o_tape a_o_text a_o_opened a_o_farBy a_o_attendsBy a_o_coveredBy a_o_cameBy a_o_cameThen a_o_fallsBy a_o_loops a_o_ran a_o_told1 o_status o_top o_bottom (u5.1 1) (u5.1 2) st31.2.1 st31.2.2.1 st31.2.2.2.1 st31.2.2.2.2.1 o_faultKind st31.2.2.2.2.2.1 st31.2.2.2.2.2.2.1 (u5.1 9) st31.2.2.2.2.2.2.2.1 o_depth o_counted o_becameThen o_firstCorner o_drawn o_ranSteps o_isTold o_marks st31.2.2.2.2.2.2.2.2.1 st31.2.2.2.2.2.2.2.2.2 (u5.2.2.1 0) u43 hu43) [0, 1, 2, 4] cal_X12_cityPart cav_X12_cityPart lk_X12_248 cx hP hD hS hl dX12_city_43 rfl rfl rfl rfl (Nat.le_of_ble_eq_true rfl) ⟨Nat.le_of_ble_eq_true rfl, Nat.le_of_ble_eq_true rfl⟩ rfl (by decide +kernel) rfl [some 0, some 1, some 2, none, some 3] rfl (by decide +kernel) rfl (fun H locs hP hD hS => ?_)
          refine lv_istore_n (lv' := [(2, .int u43.1), (0, .ref a_o)]) hx hb dX12_city_46 rfl hl (by decide) rfl (fun ls hl => ?_)
          refine lv_goto (tgt := 31) hx hb dX12_city_47 (by decide) ?_
          exact hk31 _ (Option.some.inj hf).symm _ _ _ hP hD hS (lv_sub hl [1, 0] rfl)
    · refine fun H locs ls hP hD hS hl => ?_
      exact hj50 _ _ _ _ _ _ _ _ _ _ _ _ _ _ _ _ _ _ hf hP hD hS (lv_sub hl [0] rfl)
  · have hf := it_t hc hf
    refine lv_aload_n hx hb dX12_city_11 rfl (lv_at hl 0 rfl) ?_
    refine lv_iconst (v := 1) hx hb dX12_city_12 (by decide) ?_
    obtain ⟨u13, hu13, hf⟩ := bd hf
    refine callVI (wn := (wd_X12_city E a_o a_o_at a_o_names a_o_sort a_o_trayMany a_o_trays a_o_tape a_o_text a_o_opened a_o_farBy a_o_attendsBy a_o_coveredBy a_o_cameBy a_o_cameThen a_o_fallsBy a_o_loops a_o_ran a_o_told1 u13.2 o_top o_bottom (u5.1 1) (u5.1 2) (u5.1 3) (u5.1 4) (u5.1 5) (u5.1 6) o_faultKind (u5.1 7) (u5.1 8) (u5.1 9) o_toldParts o_depth o_counted o_becameThen o_firstCorner o_drawn o_ranSteps o_isTold o_marks o_at o_names o_tape (u5.2.2.1 0))) (n1 := 5) (ct_X12_refuse l E a_o a_o_at a_o_names a_o_sort a_o_trayMany a_o_trays a_o_tape a_o_text a_o_opened a_o_farBy a_o_attendsBy a_o_coveredBy a_o_cameBy a_o_cameThen a_o_fallsBy a_o_loops a_o_ran a_o_told1 o_status o_top o_bottom (u5.1 1) (u5.1 2) (u5.1 3) (u5.1 4) (u5.1 5) (u5.1 6) o_faultKind (u5.1 7) (u5.1 8) (u5.1 9) o_toldParts o_depth o_counted o_becameThen o_firstCorner o_drawn o_ranSteps o_isTold o_marks (1 : Int32) u13 hu13) [0] cal_X12_refuse cav_X12_refuse lk_X12_85 cx hP hD hS hl dX12_city_13 rfl rfl rfl rfl (Nat.le_of_ble_eq_true rfl) ⟨Nat.le_of_ble_eq_true rfl, Nat.le_of_ble_eq_true rfl⟩ rfl (by decide +kernel) rfl [some 0, none, none, none, none] rfl (by decide +kernel) rfl (fun H locs hP hD hS => ?_)
    obtain rfl := Option.some.inj hf
    subst hq
    exact retI cx hP hD hS dX12_city_16
