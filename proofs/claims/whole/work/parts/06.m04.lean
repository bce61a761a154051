def X12_extraTo (F : Nat) (o_size : Int32) (o_token : Int32) (o_from : Int32) (o_end : Int32) (o_value : Int32) (o_faultPlace : Int32) (o_faults : Int32) (o_at : Nat → Int32) (o_names : Nat → Int64) (o_text : Nat → Int32) (v1 : Int32) : Option (Int32 × Int32 × Int32 × Int32 × Int32 × Int32 × Int32 × (Nat → Int32)) :=
  if ix 2 3097 then
  (X12_oldOne F o_size o_token o_from o_end o_value o_faultPlace o_faults o_at o_names o_text (8 : Int32) (jat o_at 2) v1).bind fun u10 =>
  if isZ u10.1 then some (u10.1, u10.2.1, u10.2.2.1, u10.2.2.2.1, u10.2.2.2.2.1, u10.2.2.2.2.2.1, u10.2.2.2.2.2.2.1, u10.2.2.2.2.2.2.2) else none
  else none
abbrev wd_X12_extraTo (E : vE) (a_o a_o_at a_o_names a_o_sort a_o_trayMany a_o_trays a_o_tape a_o_text a_o_opened a_o_farBy a_o_attendsBy a_o_coveredBy a_o_cameBy a_o_cameThen a_o_fallsBy a_o_loops a_o_ran a_o_told1 : Nat) (o_status : Int32) (o_top : Int64) (o_bottom : Int64) (o_taped : Int32) (o_size : Int32) (o_token : Int32) (o_from : Int32) (o_end : Int32) (o_value : Int32) (o_faultKind : Int32) (o_faultPlace : Int32) (o_faults : Int32) (o_seen : Int32) (o_toldParts : Int32) (o_depth : Int32) (o_counted : Int32) (o_becameThen : Int32) (o_firstCorner : Int32) (o_drawn : Int32) (o_ranSteps : Int32) (o_isTold : Int32) (o_marks : Int32) (o_at : Nat → Int32) (o_names : Nat → Int64) (o_text : Nat → Int32) : va_W := [(a_o, .inr (12, [.ref a_o_at, .ref a_o_names, .int o_status, .long o_top, .long o_bottom, .ref a_o_sort, .ref a_o_trayMany, .ref a_o_trays, .ref a_o_tape, .ref a_o_text, .int o_taped, .int o_size, .int o_token, .int o_from, .int o_end, .int o_value, .int o_faultKind, .int o_faultPlace, .int o_faults, .int o_seen, .int o_toldParts, .ref a_o_opened, .int o_depth, .int o_counted, .ref a_o_farBy, .int o_becameThen, .ref a_o_attendsBy, .ref a_o_coveredBy, .ref a_o_cameBy, .ref a_o_cameThen, .int o_firstCorner, .ref a_o_fallsBy, .int o_drawn, .int o_ranSteps, .ref a_o_loops, .ref a_o_ran, .ref a_o_told1, .int o_isTold, .int o_marks])), (a_o_at, .inl (E.2.1, 3097, .inl o_at)), (a_o_names, .inl (E.2.2.1, 162, .inr (.inl o_names))), (a_o_text, .inl (E.2.2.2.1, 900, .inl o_text))]
set_option maxHeartbeats 4000000 in
set_option maxRecDepth 100000 in
theorem ct_X12_extraTo (l : Launch) (E : vE) (F : Nat) (a_o a_o_at a_o_names a_o_sort a_o_trayMany a_o_trays a_o_tape a_o_text a_o_opened a_o_farBy a_o_attendsBy a_o_coveredBy a_o_cameBy a_o_cameThen a_o_fallsBy a_o_loops a_o_ran a_o_told1 : Nat) (o_status : Int32) (o_top : Int64) (o_bottom : Int64) (o_taped : Int32) (o_size : Int32) (o_token : Int32) (o_from : Int32) (o_end : Int32) (o_value : Int32) (o_faultKind : Int32) (o_faultPlace : Int32) (o_faults : Int32) (o_seen : Int32) (o_toldParts : Int32) (o_depth : Int32) (o_counted : Int32) (o_becameThen : Int32) (o_firstCorner : Int32) (o_drawn : Int32) (o_ranSteps : Int32) (o_isTold : Int32) (o_marks : Int32) (o_at : Nat → Int32) (o_names : Nat → Int64) (o_text : Nat → Int32) (v1 : Int32) (u : Int32 × Int32 × Int32 × Int32 × Int32 × Int32 × Int32 × (Nat → Int32)) (hf : X12_extraTo F o_size o_token o_from o_end o_value o_faultPlace o_faults o_at o_names o_text v1 = some u) :
    CtI l yX12_extraTo cX12_extraTo 2 (some .boolean) 7 E [.ref a_o, .int v1] (wd_X12_extraTo E a_o a_o_at a_o_names a_o_sort a_o_trayMany a_o_trays a_o_tape a_o_text a_o_opened a_o_farBy a_o_attendsBy a_o_coveredBy a_o_cameBy a_o_cameThen a_o_fallsBy a_o_loops a_o_ran a_o_told1 o_status o_top o_bottom o_taped o_size o_token o_from o_end o_value o_faultKind o_faultPlace o_faults o_seen o_toldParts o_depth o_counted o_becameThen o_firstCorner o_drawn o_ranSteps o_isTold o_marks o_at o_names o_text) (wd_X12_extraTo E a_o a_o_at a_o_names a_o_sort a_o_trayMany a_o_trays a_o_tape a_o_text a_o_opened a_o_farBy a_o_attendsBy a_o_coveredBy a_o_cameBy a_o_cameThen a_o_fallsBy a_o_loops a_o_ran a_o_told1 o_status o_top o_bottom o_taped o_size u.2.1 u.2.2.1 u.2.2.2.1 u.2.2.2.2.1 o_faultKind u.2.2.2.2.2.1 u.2.2.2.2.2.2.1 o_seen o_toldParts o_depth o_counted o_becameThen o_firstCorner o_drawn o_ranSteps o_isTold o_marks u.2.2.2.2.2.2.2 o_names o_text) u.1 := by
  refine ctI (by decide) (Nat.le_of_ble_eq_true rfl) ?_
  intro p e s m below meth cd A ls aa QQ hq cx hP hD hS hl
  obtain ⟨⟨hx, hb, hml, hown, hts⟩, hr, hlocks, hK, hA, hX⟩ := id cx
  have hl : lv_has ls 2 [(0, .ref a_o), (1, .int v1)] := hl
  unfold X12_extraTo at hf
  refine lv_aload_n hx hb dX12_extraTo_0 rfl (lv_at hl 0 rfl) ?_
  refine lv_bipush (v := 8) hx hb dX12_extraTo_1 (by decide) ?_
  refine lv_aload_n hx hb dX12_extraTo_3 rfl (lv_at hl 0 rfl) ?_
  refine va_get (D := E.1) (ci := 12) (v := .ref a_o_at) (C := RX12) (T := TX12) (N := 39) hx hb hts inX12 hown hK hP 0 rfl rfl 0 (by decide) (hts _ fl_X12_7) (fun _ h9 => h9) rfl dX12_extraTo_4 ?_
  refine lv_iconst (v := 2) hx hb dX12_extraTo_7 (by decide) ?_
  obtain ⟨hi, hf⟩ := ck hf
  refine r_iald 1 cx hP rfl hi dX12_extraTo_8 ?_
  refine lv_iload_n hx hb dX12_extraTo_9 rfl (lv_at hl 1 rfl) ?_
  obtain ⟨u10, hu10, hf⟩ := bd hf
  refine callVI (wn := (wd_X12_extraTo E a_o a_o_at a_o_names a_o_sort a_o_trayMany a_o_trays a_o_tape a_o_text a_o_opened a_o_farBy a_o_attendsBy a_o_coveredBy a_o_cameBy a_o_cameThen a_o_fallsBy a_o_loops a_o_ran a_o_told1 o_status o_top o_bottom o_taped o_size u10.2.1 u10.2.2.1 u10.2.2.2.1 u10.2.2.2.2.1 o_faultKind u10.2.2.2.2.2.1 u10.2.2.2.2.2.2.1 o_seen o_toldParts o_depth o_counted o_becameThen o_firstCorner o_drawn o_ranSteps o_isTold o_marks u10.2.2.2.2.2.2.2 o_names o_text)) (n1 := 4) (ct_X12_oldOne l E F a_o a_o_at a_o_names a_o_sort a_o_trayMany a_o_trays a_o_tape a_o_text a_o_opened a_o_farBy a_o_attendsBy a_o_coveredBy a_o_cameBy a_o_cameThen a_o_fallsBy a_o_loops a_o_ran a_o_told1 o_status o_top o_bottom o_taped o_size o_token o_from o_end o_value o_faultKind o_faultPlace o_faults o_seen o_toldParts o_depth o_counted o_becameThen o_firstCorner o_drawn o_ranSteps o_isTold o_marks o_at o_names o_text (8 : Int32) (jat o_at 2) v1 u10 hu10) [0, 1, 2, 3] cal_X12_oldOne cav_X12_oldOne lk_X12_191 cx hP hD hS hl dX12_extraTo_10 rfl rfl rfl rfl (Nat.le_of_ble_eq_true rfl) ⟨Nat.le_of_ble_eq_true rfl, Nat.le_of_ble_eq_true rfl⟩ rfl (by decide +kernel) rfl [some 0, some 1, some 2, some 3] rfl (by decide +kernel) rfl (fun H locs hP hD hS => ?_)
  obtain ⟨hz, hf⟩ := ck hf
  obtain rfl := Option.some.inj hf
  subst hq
  exact retZ cx hz hP hD hS dX12_extraTo_13
def X12_happeningTo (F : Nat) (o_size : Int32) (o_token : Int32) (o_from : Int32) (o_end : Int32) (o_value : Int32) (o_faultPlace : Int32) (o_faults : Int32) (o_at : Nat → Int32) (o_names : Nat → Int64) (o_text : Nat → Int32) (v1 : Int32) : Option (Int32 × Int32 × Int32 × Int32 × Int32 × Int32 × Int32 × (Nat → Int32)) :=
  if ix 3 3097 then
  (X12_oldOne F o_size o_token o_from o_end o_value o_faultPlace o_faults o_at o_names o_text (15 : Int32) (jat o_at 3) v1).bind fun u10 =>
  if isZ u10.1 then some (u10.1, u10.2.1, u10.2.2.1, u10.2.2.2.1, u10.2.2.2.2.1, u10.2.2.2.2.2.1, u10.2.2.2.2.2.2.1, u10.2.2.2.2.2.2.2) else none
  else none
abbrev wd_X12_happeningTo (E : vE) (a_o a_o_at a_o_names a_o_sort a_o_trayMany a_o_trays a_o_tape a_o_text a_o_opened a_o_farBy a_o_attendsBy a_o_coveredBy a_o_cameBy a_o_cameThen a_o_fallsBy a_o_loops a_o_ran a_o_told1 : Nat) (o_status : Int32) (o_top : Int64) (o_bottom : Int64) (o_taped : Int32) (o_size : Int32) (o_token : Int32) (o_from : Int32) (o_end : Int32) (o_value : Int32) (o_faultKind : Int32) (o_faultPlace : Int32) (o_faults : Int32) (o_seen : Int32) (o_toldParts : Int32) (o_depth : Int32) (o_counted : Int32) (o_becameThen : Int32) (o_firstCorner : Int32) (o_drawn : Int32) (o_ranSteps : Int32) (o_isTold : Int32) (o_marks : Int32) (o_at : Nat → Int32) (o_names : Nat → Int64) (o_text : Nat → Int32) : va_W := [(a_o, .inr (12, [.ref a_o_at, .ref a_o_names, .int o_status, .long o_top, .long o_bottom, .ref a_o_sort, .ref a_o_trayMany, .ref a_o_trays, .ref a_o_tape, .ref a_o_text, .int o_taped, .int o_size, .int o_token, .int o_from, .int o_end, .int o_value, .int o_faultKind, .int o_faultPlace, .int o_faults, .int o_seen, .int o_toldParts, .ref a_o_opened, .int o_depth, .int o_counted, .ref a_o_farBy, .int o_becameThen, .ref a_o_attendsBy, .ref a_o_coveredBy, .ref a_o_cameBy, .ref a_o_cameThen, .int o_firstCorner, .ref a_o_fallsBy, .int o_drawn, .int o_ranSteps, .ref a_o_loops, .ref a_o_ran, .ref a_o_told1, .int o_isTold, .int o_marks])), (a_o_at, .inl (E.2.1, 3097, .inl o_at)), (a_o_names, .inl (E.2.2.1, 162, .inr (.inl o_names))), (a_o_text, .inl (E.2.2.2.1, 900, .inl o_text))]
set_option maxHeartbeats 4000000 in
set_option maxRecDepth 100000 in
theorem ct_X12_happeningTo (l : Launch) (E : vE) (F : Nat) (a_o a_o_at a_o_names a_o_sort a_o_trayMany a_o_trays a_o_tape a_o_text a_o_opened a_o_farBy a_o_attendsBy a_o_coveredBy a_o_cameBy a_o_cameThen a_o_fallsBy a_o_loops a_o_ran a_o_told1 : Nat) (o_status : Int32) (o_top : Int64) (o_bottom : Int64) (o_taped : Int32) (o_size : Int32) (o_token : Int32) (o_from : Int32) (o_end : Int32) (o_value : Int32) (o_faultKind : Int32) (o_faultPlace : Int32) (o_faults : Int32) (o_seen : Int32) (o_toldParts : Int32) (o_depth : Int32) (o_counted : Int32) (o_becameThen : Int32) (o_firstCorner : Int32) (o_drawn : Int32) (o_ranSteps : Int32) (o_isTold : Int32) (o_marks : Int32) (o_at : Nat → Int32) (o_names : Nat → Int64) (o_text : Nat → Int32) (v1 : Int32) (u : Int32 × Int32 × Int32 × Int32 × Int32 × Int32 × Int32 × (Nat → Int32)) (hf : X12_happeningTo F o_size o_token o_from o_end o_value o_faultPlace o_faults o_at o_names o_text v1 = some u) :
    CtI l yX12_happeningTo cX12_happeningTo 2 (some .boolean) 7 E [.ref a_o, .int v1] (wd_X12_happeningTo E a_o a_o_at a_o_names a_o_sort a_o_trayMany a_o_trays a_o_tape a_o_text a_o_opened a_o_farBy a_o_attendsBy a_o_coveredBy a_o_cameBy a_o_cameThen a_o_fallsBy a_o_loops a_o_ran a_o_told1 o_status o_top o_bottom o_taped o_size o_token o_from o_end o_value o_faultKind o_faultPlace o_faults o_seen o_toldParts o_depth o_counted o_becameThen o_firstCorner o_drawn o_ranSteps o_isTold o_marks o_at o_names o_text) (wd_X12_happeningTo E a_o a_o_at a_o_names a_o_sort a_o_trayMany a_o_trays a_o_tape a_o_text a_o_opened a_o_farBy a_o_attendsBy a_o_coveredBy a_o_cameBy a_o_cameThen a_o_fallsBy a_o_loops a_o_ran a_o_told1 o_status o_top o_bottom o_taped o_size u.2.1 u.2.2.1 u.2.2.2.1 u.2.2.2.2.1 o_faultKind u.2.2.2.2.2.1 u.2.2.2.2.2.2.1 o_seen o_toldParts o_depth o_counted o_becameThen o_firstCorner o_drawn o_ranSteps o_isTold o_marks u.2.2.2.2.2.2.2 o_names o_text) u.1 := by
  refine ctI (by decide) (Nat.le_of_ble_eq_true rfl) ?_
  intro p e s m below meth cd A ls aa QQ hq cx hP hD hS hl
  obtain ⟨⟨hx, hb, hml, hown, hts⟩, hr, hlocks, hK, hA, hX⟩ := id cx
  have hl : lv_has ls 2 [(0, .ref a_o), (1, .int v1)] := hl
  unfold X12_happeningTo at hf
  refine lv_aload_n hx hb dX12_happeningTo_0 rfl (lv_at hl 0 rfl) ?_
  refine lv_bipush (v := 15) hx hb dX12_happeningTo_1 (by decide) ?_
  refine lv_aload_n hx hb dX12_happeningTo_3 rfl (lv_at hl 0 rfl) ?_
  refine va_get (D := E.1) (ci := 12) (v := .ref a_o_at) (C := RX12) (T := TX12) (N := 39) hx hb hts inX12 hown hK hP 0 rfl rfl 0 (by decide) (hts _ fl_X12_7) (fun _ h9 => h9) rfl dX12_happeningTo_4 ?_
  refine lv_iconst (v := 3) hx hb dX12_happeningTo_7 (by decide) ?_
  obtain ⟨hi, hf⟩ := ck hf
  refine r_iald 1 cx hP rfl hi dX12_happeningTo_8 ?_
  refine lv_iload_n hx hb dX12_happeningTo_9 rfl (lv_at hl 1 rfl) ?_
  obtain ⟨u10, hu10, hf⟩ := bd hf
  refine callVI (wn := (wd_X12_happeningTo E a_o a_o_at a_o_names a_o_sort a_o_trayMany a_o_trays a_o_tape a_o_text a_o_opened a_o_farBy a_o_attendsBy a_o_coveredBy a_o_cameBy a_o_cameThen a_o_fallsBy a_o_loops a_o_ran a_o_told1 o_status o_top o_bottom o_taped o_size u10.2.1 u10.2.2.1 u10.2.2.2.1 u10.2.2.2.2.1 o_faultKind u10.2.2.2.2.2.1 u10.2.2.2.2.2.2.1 o_seen o_toldParts o_depth o_counted o_becameThen o_firstCorner o_drawn o_ranSteps o_isTold o_marks u10.2.2.2.2.2.2.2 o_names o_text)) (n1 := 4) (ct_X12_oldOne l E F a_o a_o_at a_o_names a_o_sort a_o_trayMany a_o_trays a_o_tape a_o_text a_o_opened a_o_farBy a_o_attendsBy a_o_coveredBy a_o_cameBy a_o_cameThen a_o_fallsBy a_o_loops a_o_ran a_o_told1 o_status o_top o_bottom o_taped o_size o_token o_from o_end o_value o_faultKind o_faultPlace o_faults o_seen o_toldParts o_depth o_counted o_becameThen o_firstCorner o_drawn o_ranSteps o_isTold o_marks o_at o_names o_text (15 : Int32) (jat o_at 3) v1 u10 hu10) [0, 1, 2, 3] cal_X12_oldOne cav_X12_oldOne lk_X12_191 cx hP hD hS hl dX12_happeningTo_10 rfl rfl rfl rfl (Nat.le_of_ble_eq_true rfl) ⟨Nat.le_of_ble_eq_true rfl, Nat.le_of_ble_eq_true rfl⟩ rfl (by decide +kernel) rfl [some 0, some 1, some 2, some 3] rfl (by decide +kernel) rfl (fun H locs hP hD hS => ?_)
  obtain ⟨hz, hf⟩ := ck hf
  obtain rfl := Option.some.inj hf
  subst hq
  exact retZ cx hz hP hD hS dX12_happeningTo_13
def X12_test_j174 (F : Nat) (o_size : Int32) (o_token : Int32) (o_from : Int32) (o_end : Int32) (o_value : Int32) (o_faultPlace : Int32) (o_faults : Int32) (o_at : Nat → Int32) (o_names : Nat → Int64) (o_text : Nat → Int32) (v1 : Int32) : Option (Int32 × Int32 × Int32 × Int32 × Int32 × Int32 × Int32 × (Nat → Int32)) :=
  if ix (v1 + 5) 3097 then
  (X12_ahead F o_size o_token o_from o_end o_value o_text).bind fun u187 =>
  (X12_number F o_size u187.1 u187.2.1 u187.2.2.1 u187.2.2.2 o_faultPlace o_faults (jput o_at (v1 + 5) o_value) o_text (v1 + 2) (0 : Int32) (9999 : Int32)).bind fun u198 =>
  if isZ u198.1 then some (u198.1, u198.2.1, u198.2.2.1, u198.2.2.2.1, u198.2.2.2.2.1, u198.2.2.2.2.2.1, u198.2.2.2.2.2.2.1, u198.2.2.2.2.2.2.2) else none
  else none
def X12_test_j105 (F : Nat) (o_size : Int32) (o_token : Int32) (o_from : Int32) (o_end : Int32) (o_value : Int32) (o_faultPlace : Int32) (o_faults : Int32) (o_at : Nat → Int32) (o_names : Nat → Int64) (o_text : Nat → Int32) : Option (Int32 × Int32 × Int32 × Int32 × Int32 × Int32 × Int32 × (Nat → Int32)) :=
  some (0, o_token, o_from, o_end, o_value, o_faultPlace, o_faults, o_at)
def X12_test_j66 (F : Nat) (o_size : Int32) (o_token : Int32) (o_from : Int32) (o_end : Int32) (o_value : Int32) (o_faultPlace : Int32) (o_faults : Int32) (o_at : Nat → Int32) (o_names : Nat → Int64) (o_text : Nat → Int32) : Option (Int32 × Int32 × Int32 × Int32 × Int32 × Int32 × Int32 × (Nat → Int32)) :=
  some (0, o_token, o_from, o_end, o_value, o_faultPlace, o_faults, o_at)
def X12_test (F : Nat) (o_size : Int32) (o_token : Int32) (o_from : Int32) (o_end : Int32) (o_value : Int32) (o_faultPlace : Int32) (o_faults : Int32) (o_at : Nat → Int32) (o_names : Nat → Int64) (o_text : Nat → Int32) (v1 : Int32) : Option (Int32 × Int32 × Int32 × Int32 × Int32 × Int32 × Int32 × (Nat → Int32)) :=
  (X12_inWords F o_size o_token o_from o_end o_text).bind fun u3 =>
  if (21 : Int32) ≤ u3 then
  if ix v1 3097 then
  (X12_ahead F o_size o_token o_from o_end o_value o_text).bind fun u31 =>
  if u3 = 21 then
  (X12_happeningTo F o_size u31.1 u31.2.1 u31.2.2.1 u31.2.2.2 o_faultPlace o_faults (jput o_at v1 (1700 + u3)) o_names o_text (v1 + 1)).bind fun u44 =>
  if u44.1 = 0 then
  X12_test_j66 F o_size u44.2.1 u44.2.2.1 u44.2.2.2.1 u44.2.2.2.2.1 u44.2.2.2.2.2.1 u44.2.2.2.2.2.2.1 u44.2.2.2.2.2.2.2 o_names o_text
  else
  (X12_number F o_size u44.2.1 u44.2.2.1 u44.2.2.2.1 u44.2.2.2.2.1 u44.2.2.2.2.2.1 u44.2.2.2.2.2.2.1 u44.2.2.2.2.2.2.2 o_text (v1 + 2) (0 : Int32) (2 : Int32)).bind fun u56 =>
  if u56.1 = 0 then
  X12_test_j66 F o_size u56.2.1 u56.2.2.1 u56.2.2.2.1 u56.2.2.2.2.1 u56.2.2.2.2.2.1 u56.2.2.2.2.2.2.1 u56.2.2.2.2.2.2.2 o_names o_text
  else
  some (1, u56.2.1, u56.2.2.1, u56.2.2.2.1, u56.2.2.2.2.1, u56.2.2.2.2.2.1, u56.2.2.2.2.2.2.1, u56.2.2.2.2.2.2.2)
  else
  if u3 = 22 then
  (X12_extraTo F o_size u31.1 u31.2.1 u31.2.2.1 u31.2.2.2 o_faultPlace o_faults (jput o_at v1 (1700 + u3)) o_names o_text (v1 + 1)).bind fun u78 =>
  if u78.1 = 0 then
  X12_test_j105 F o_size u78.2.1 u78.2.2.1 u78.2.2.2.1 u78.2.2.2.2.1 u78.2.2.2.2.2.1 u78.2.2.2.2.2.2.1 u78.2.2.2.2.2.2.2 o_names o_text
  else
  if ix 0 3097 then
  (X12_oldOne F o_size u78.2.1 u78.2.2.1 u78.2.2.2.1 u78.2.2.2.2.1 u78.2.2.2.2.2.1 u78.2.2.2.2.2.2.1 u78.2.2.2.2.2.2.2 o_names o_text (0 : Int32) (jat u78.2.2.2.2.2.2.2 0) (v1 + 2)).bind fun u95 =>
  if u95.1 = 0 then
  X12_test_j105 F o_size u95.2.1 u95.2.2.1 u95.2.2.2.1 u95.2.2.2.2.1 u95.2.2.2.2.2.1 u95.2.2.2.2.2.2.1 u95.2.2.2.2.2.2.2 o_names o_text
  else
  some (1, u95.2.1, u95.2.2.1, u95.2.2.2.1, u95.2.2.2.2.1, u95.2.2.2.2.2.1, u95.2.2.2.2.2.2.1, u95.2.2.2.2.2.2.2)
  else none
  else
  if u3 = 23 then
  (X12_happeningTo F o_size u31.1 u31.2.1 u31.2.2.1 u31.2.2.2 o_faultPlace o_faults (jput o_at v1 (1700 + u3)) o_names o_text (v1 + 1)).bind fun u117 =>
  if isZ u117.1 then some (u117.1, u117.2.1, u117.2.2.1, u117.2.2.2.1, u117.2.2.2.2.1, u117.2.2.2.2.2.1, u117.2.2.2.2.2.2.1, u117.2.2.2.2.2.2.2) else none
  else
  if ix 4 3097 then
  (X12_oldOne F o_size u31.1 u31.2.1 u31.2.2.1 u31.2.2.2 o_faultPlace o_faults (jput o_at v1 (1700 + u3)) o_names o_text (23 : Int32) (jat (jput o_at v1 (1700 + u3)) 4) (v1 + 1)).bind fun u133 =>
  if u133.1 = 0 then
  some (0, u133.2.1, u133.2.2.1, u133.2.2.2.1, u133.2.2.2.2.1, u133.2.2.2.2.2.1, u133.2.2.2.2.2.2.1, u133.2.2.2.2.2.2.2)
  else
  (X12_isSign u133.2.1 u133.2.2.2.2.1 (60 : Int32)).bind fun u144 =>
  if u144 = 0 then
  (X12_isSign u133.2.1 u133.2.2.2.2.1 (62 : Int32)).bind fun u153 =>
  if u153 = 0 then
  (X12_isSign u133.2.1 u133.2.2.2.2.1 (61 : Int32)).bind fun u162 =>
  if u162 = 0 then
  (X12_fails u133.2.1 u133.2.2.1 u133.2.2.2.2.2.1 u133.2.2.2.2.2.2.1 (2 : Int32)).bind fun u170 =>
  if isZ u170.1 then some (u170.1, u133.2.1, u133.2.2.1, u133.2.2.2.1, u133.2.2.2.2.1, u170.2.1, u170.2.2, u133.2.2.2.2.2.2.2) else none
  else
  X12_test_j174 F o_size u133.2.1 u133.2.2.1 u133.2.2.2.1 u133.2.2.2.2.1 u133.2.2.2.2.2.1 u133.2.2.2.2.2.2.1 u133.2.2.2.2.2.2.2 o_names o_text v1
  else
  X12_test_j174 F o_size u133.2.1 u133.2.2.1 u133.2.2.2.1 u133.2.2.2.2.1 u133.2.2.2.2.2.1 u133.2.2.2.2.2.2.1 u133.2.2.2.2.2.2.2 o_names o_text v1
  else
  X12_test_j174 F o_size u133.2.1 u133.2.2.1 u133.2.2.2.1 u133.2.2.2.2.1 u133.2.2.2.2.2.1 u133.2.2.2.2.2.2.1 u133.2.2.2.2.2.2.2 o_names o_text v1
  else none
  else none
  else
  (X12_fails o_token o_from o_faultPlace o_faults (2 : Int32)).bind fun u15 =>
  if isZ u15.1 then some (u15.1, o_token, o_from, o_end, o_value, u15.2.1, u15.2.2, o_at) else none
abbrev wd_X12_test (E : vE) (a_o a_o_at a_o_names a_o_sort a_o_trayMany a_o_trays a_o_tape a_o_text a_o_opened a_o_farBy a_o_attendsBy a_o_coveredBy a_o_cameBy a_o_cameThen a_o_fallsBy a_o_loops a_o_ran a_o_told1 : Nat) (o_status : Int32) (o_top : Int64) (o_bottom : Int64) (o_taped : Int32) (o_size : Int32) (o_token : Int32) (o_from : Int32) (o_end : Int32) (o_value : Int32) (o_faultKind : Int32) (o_faultPlace : Int32) (o_faults : Int32) (o_seen : Int32) (o_toldParts : Int32) (o_depth : Int32) (o_counted : Int32) (o_becameThen : Int32) (o_firstCorner : Int32) (o_drawn : Int32) (o_ranSteps : Int32) (o_isTold : Int32) (o_marks : Int32) (o_at : Nat → Int32) (o_names : Nat → Int64) (o_text : Nat → Int32) : va_W := [(a_o, .inr (12, [.ref a_o_at, .ref a_o_names, .int o_status, .long o_top, .long o_bottom, .ref a_o_sort, .ref a_o_trayMany, .ref a_o_trays, .ref a_o_tape, .ref a_o_text, .int o_taped, .int o_size, .int o_token, .int o_from, .int o_end, .int o_value, .int o_faultKind, .int o_faultPlace, .int o_faults, .int o_seen, .int o_toldParts, .ref a_o_opened, .int o_depth, .int o_counted, .ref a_o_farBy, .int o_becameThen, .ref a_o_attendsBy, .ref a_o_coveredBy, .ref a_o_cameBy, .ref a_o_cameThen, .int o_firstCorner, .ref a_o_fallsBy, .int o_drawn, .int o_ranSteps, .ref a_o_loops, .ref a_o_ran, .ref a_o_told1, .int o_isTold, .int o_marks])), (a_o_at, .inl (E.2.1, 3097, .inl o_at)), (a_o_names, .inl (E.2.2.1, 162, .inr (.inl o_names))), (a_o_text, .inl (E.2.2.2.1, 900, .inl o_text))]
set_option maxHeartbeats 4000000 in
set_option maxRecDepth 100000 in
theorem ct_X12_test (l : Launch) (E : vE) (F : Nat) (a_o a_o_at a_o_names a_o_sort a_o_trayMany a_o_trays a_o_tape a_o_text a_o_opened a_o_farBy a_o_attendsBy a_o_coveredBy a_o_cameBy a_o_cameThen a_o_fallsBy a_o_loops a_o_ran a_o_told1 : Nat) (o_status : Int32) (o_top : Int64) (o_bottom : Int64) (o_taped : Int32) (o_size : Int32) (o_token : Int32) (o_from : Int32) (o_end : Int32) (o_value : Int32) (o_faultKind : Int32) (o_faultPlace : Int32) (o_faults : Int32) (o_seen : Int32) (o_toldParts : Int32) (o_depth : Int32) (o_counted : Int32) (o_becameThen : Int32) (o_firstCorner : Int32) (o_drawn : Int32) (o_ranSteps : Int32) (o_isTold : Int32) (o_marks : Int32) (o_at : Nat → Int32) (o_names : Nat → Int64) (o_text : Nat → Int32) (v1 : Int32) (u : Int32 × Int32 × Int32 × Int32 × Int32 × Int32 × Int32 × (Nat → Int32)) (hf : X12_test F o_size o_token o_from o_end o_value o_faultPlace o_faults o_at o_names o_text v1 = some u) :
    CtI l yX12_test cX12_test 3 (some .boolean) 8 E [.ref a_o, .int v1] (wd_X12_test E a_o a_o_at a_o_names a_o_sort a_o_trayMany a_o_trays a_o_tape a_o_text a_o_opened a_o_farBy a_o_attendsBy a_o_coveredBy a_o_cameBy a_o_cameThen a_o_fallsBy a_o_loops a_o_ran a_o_told1 o_status o_top o_bottom o_taped o_size o_token o_from o_end o_value o_faultKind o_faultPlace o_faults o_seen o_toldParts o_depth o_counted o_becameThen o_firstCorner o_drawn o_ranSteps o_isTold o_marks o_at o_names o_text) (wd_X12_test E a_o a_o_at a_o_names a_o_sort a_o_trayMany a_o_trays a_o_tape a_o_text a_o_opened a_o_farBy a_o_attendsBy a_o_coveredBy a_o_cameBy a_o_cameThen a_o_fallsBy a_o_loops a_o_ran a_o_told1 o_status o_top o_bottom o_taped o_size u.2.1 u.2.2.1 u.2.2.2.1 u.2.2.2.2.1 o_faultKind u.2.2.2.2.2.1 u.2.2.2.2.2.2.1 o_seen o_toldParts o_depth o_counted o_becameThen o_firstCorner o_drawn o_ranSteps o_isTold o_marks u.2.2.2.2.2.2.2 o_names o_text) u.1 := by
  refine ctI (by decide) (Nat.le_of_ble_eq_true rfl) ?_
  intro p e s m below meth cd A ls aa QQ hq cx hP hD hS hl
  obtain ⟨⟨hx, hb, hml, hown, hts⟩, hr, hlocks, hK, hA, hX⟩ := id cx
  have hl : lv_has ls 3 [(0, .ref a_o), (1, .int v1)] := hl
  have hj174 : ∀ (o_token_j174 : Int32) (o_from_j174 : Int32) (o_end_j174 : Int32) (o_value_j174 : Int32) (o_faultPlace_j174 : Int32) (o_faults_j174 : Int32) (o_at_j174 : Nat → Int32) (H : Heap) (locs : List Loc) (ls : Array Slot), X12_test_j174 F o_size o_token_j174 o_from_j174 o_end_j174 o_value_j174 o_faultPlace_j174 o_faults_j174 o_at_j174 o_names o_text v1 = some u → va_P E.1 vwCl (wd_X12_test E a_o a_o_at a_o_names a_o_sort a_o_trayMany a_o_trays a_o_tape a_o_text a_o_opened a_o_farBy a_o_attendsBy a_o_coveredBy a_o_cameBy a_o_cameThen a_o_fallsBy a_o_loops a_o_ran a_o_told1 o_status o_top o_bottom o_taped o_size o_token_j174 o_from_j174 o_end_j174 o_value_j174 o_faultKind o_faultPlace_j174 o_faults_j174 o_seen o_toldParts o_depth o_counted o_becameThen o_firstCorner o_drawn o_ranSteps o_isTold o_marks o_at_j174 o_names o_text) H → va_D A (wd_X12_test E a_o a_o_at a_o_names a_o_sort a_o_trayMany a_o_trays a_o_tape a_o_text a_o_opened a_o_farBy a_o_attendsBy a_o_coveredBy a_o_cameBy a_o_cameThen a_o_fallsBy a_o_loops a_o_ran a_o_told1 o_status o_top o_bottom o_taped o_size o_token_j174 o_from_j174 o_end_j174 o_value_j174 o_faultKind o_faultPlace_j174 o_faults_j174 o_seen o_toldParts o_depth o_counted o_becameThen o_firstCorner o_drawn o_ranSteps o_isTold o_marks o_at_j174 o_names o_text) → va_S A s.heap H locs → lv_has ls 3 [(0, .ref a_o), (1, .int v1)] → W p l e (rmd 8) s m aa below meth cd H locs 0 0 QQ (F0 m 174 ls []) := by
    intro o_token_j174 o_from_j174 o_end_j174 o_value_j174 o_faultPlace_j174 o_faults_j174 o_at_j174 H locs ls hf hP hD hS hl
    unfold X12_test_j174 at hf
    refine lv_aload_n hx hb dX12_test_174 rfl (lv_at hl 0 rfl) ?_
    refine va_get (D := E.1) (ci := 12) (v := .ref a_o_at) (C := RX12) (T := TX12) (N := 39) hx hb hts inX12 hown hK hP 0 rfl rfl 0 (by decide) (hts _ fl_X12_7) (fun _ h9 => h9) rfl dX12_test_175 ?_
    refine lv_iload_n hx hb dX12_test_178 rfl (lv_at hl 1 rfl) ?_
    refine lv_iconst (v := 5) hx hb dX12_test_179 (by decide) ?_
    refine lv_iadd hx hb dX12_test_180 ?_
    refine lv_aload_n hx hb dX12_test_181 rfl (lv_at hl 0 rfl) ?_
    refine va_get (D := E.1) (ci := 12) (v := .int o_value_j174) (C := RX12) (T := TX12) (N := 39) hx hb hts inX12 hown hK hP 0 rfl rfl 15 (by decide) (hts _ fl_X12_127) (fun _ h9 => h9) rfl dX12_test_182 ?_
    obtain ⟨hi, hf⟩ := ck hf
    refine r_iast 1 cx hP hD hS rfl hi dX12_test_185 (fun H locs hP hD hS => ?_)
    have hP : va_P E.1 vwCl (wd_X12_test E a_o a_o_at a_o_names a_o_sort a_o_trayMany a_o_trays a_o_tape a_o_text a_o_opened a_o_farBy a_o_attendsBy a_o_coveredBy a_o_cameBy a_o_cameThen a_o_fallsBy a_o_loops a_o_ran a_o_told1 o_status o_top o_bottom o_taped o_size o_token_j174 o_from_j174 o_end_j174 o_value_j174 o_faultKind o_faultPlace_j174 o_faults_j174 o_seen o_toldParts o_depth o_counted o_becameThen o_firstCorner o_drawn o_ranSteps o_isTold o_marks (jput o_at_j174 (v1 + 5) o_value_j174) o_names o_text) H := hP
    have hD : va_D A (wd_X12_test E a_o a_o_at a_o_names a_o_sort a_o_trayMany a_o_trays a_o_tape a_o_text a_o_opened a_o_farBy a_o_attendsBy a_o_coveredBy a_o_cameBy a_o_cameThen a_o_fallsBy a_o_loops a_o_ran a_o_told1 o_status o_top o_bottom o_taped o_size o_token_j174 o_from_j174 o_end_j174 o_value_j174 o_faultKind o_faultPlace_j174 o_faults_j174 o_seen o_toldParts o_depth o_counted o_becameThen o_firstCorner o_drawn o_ranSteps o_isTold o_marks (jput o_at_j174 (v1 + 5) o_value_j174) o_names o_text) := hD
    refine lv_aload_n hx hb dX12_test_186 rfl (lv_at hl 0 rfl) ?_
    obtain ⟨u187, hu187, hf⟩ := bd hf
    refine callVV (wn := (wd_X12_test E a_o a_o_at a_o_names a_o_sort a_o_trayMany a_o_trays a_o_tape a_o_text a_o_opened a_o_farBy a_o_attendsBy a_o_coveredBy a_o_cameBy a_o_cameThen a_o_fallsBy a_o_loops a_o_ran a_o_told1 o_status o_top o_bottom o_taped o_size u187.1 u187.2.1 u187.2.2.1 u187.2.2.2 o_faultKind o_faultPlace_j174 o_faults_j174 o_seen o_toldParts o_depth o_counted o_becameThen o_firstCorner o_drawn o_ranSteps o_isTold o_marks (jput o_at_j174 (v1 + 5) o_value_j174) o_names o_text)) (n1 := 4) (ct_X12_ahead l E F a_o a_o_at a_o_names a_o_sort a_o_trayMany a_o_trays a_o_tape a_o_text a_o_opened a_o_farBy a_o_attendsBy a_o_coveredBy a_o_cameBy a_o_cameThen a_o_fallsBy a_o_loops a_o_ran a_o_told1 o_status o_top o_bottom o_taped o_size o_token_j174 o_from_j174 o_end_j174 o_value_j174 o_faultKind o_faultPlace_j174 o_faults_j174 o_seen o_toldParts o_depth o_counted o_becameThen o_firstCorner o_drawn o_ranSteps o_isTold o_marks o_text u187 hu187) [0, 3] cal_X12_ahead cav_X12_ahead lk_X12_161 cx hP hD hS hl dX12_test_187 rfl rfl rfl rfl (Nat.le_of_ble_eq_true rfl) ⟨Nat.le_of_ble_eq_true rfl, Nat.le_of_ble_eq_true rfl⟩ rfl (by decide +kernel) rfl [some 0, none, none, some 1] rfl (by decide +kernel) rfl (fun H locs hP hD hS => ?_)
    refine lv_aload_n hx hb dX12_test_190 rfl (lv_at hl 0 rfl) ?_
    refine lv_iload_n hx hb dX12_test_191 rfl (lv_at hl 1 rfl) ?_
    refine lv_iconst (v := 2) hx hb dX12_test_192 (by decide) ?_
    refine lv_iadd hx hb dX12_test_193 ?_
    refine lv_iconst (v := 0) hx hb dX12_test_194 (by decide) ?_
    refine lv_sipush (v := 9999) hx hb dX12_test_195 (by decide) ?_
    obtain ⟨u198, hu198, hf⟩ := bd hf
    refine callVI (wn := (wd_X12_test E a_o a_o_at a_o_names a_o_sort a_o_trayMany a_o_trays a_o_tape a_o_text a_o_opened a_o_farBy a_o_attendsBy a_o_coveredBy a_o_cameBy a_o_cameThen a_o_fallsBy a_o_loops a_o_ran a_o_told1 o_status o_top o_bottom o_taped o_size u198.2.1 u198.2.2.1 u198.2.2.2.1 u198.2.2.2.2.1 o_faultKind u198.2.2.2.2.2.1 u198.2.2.2.2.2.2.1 o_seen o_toldParts o_depth o_counted o_becameThen o_firstCorner o_drawn o_ranSteps o_isTold o_marks u198.2.2.2.2.2.2.2 o_names o_text)) (n1 := 4) (ct_X12_number l E F a_o a_o_at a_o_names a_o_sort a_o_trayMany a_o_trays a_o_tape a_o_text a_o_opened a_o_farBy a_o_attendsBy a_o_coveredBy a_o_cameBy a_o_cameThen a_o_fallsBy a_o_loops a_o_ran a_o_told1 o_status o_top o_bottom o_taped o_size u187.1 u187.2.1 u187.2.2.1 u187.2.2.2 o_faultKind o_faultPlace_j174 o_faults_j174 o_seen o_toldParts o_depth o_counted o_becameThen o_firstCorner o_drawn o_ranSteps o_isTold o_marks (jput o_at_j174 (v1 + 5) o_value_j174) o_text (v1 + 2) (0 : Int32) (9999 : Int32) u198 hu198) [0, 1, 3] cal_X12_number cav_X12_number lk_X12_208 cx hP hD hS hl dX12_test_198 rfl rfl rfl rfl (Nat.le_of_ble_eq_true rfl) ⟨Nat.le_of_ble_eq_true rfl, Nat.le_of_ble_eq_true rfl⟩ rfl (by decide +kernel) rfl [some 0, some 1, none, some 2] rfl (by decide +kernel) rfl (fun H locs hP hD hS => ?_)
    obtain ⟨hz, hf⟩ := ck hf
    obtain rfl := Option.some.inj hf
    subst hq
    exact retZ cx hz hP hD hS dX12_test_201
  have hj105 : ∀ (o_token_j105 : Int32) (o_from_j105 : Int32) (o_end_j105 : Int32) (o_value_j105 : Int32) (o_faultPlace_j105 : Int32) (o_faults_j105 : Int32) (o_at_j105 : Nat → Int32) (H : Heap) (locs : List Loc) (ls : Array Slot), X12_test_j105 F o_size o_token_j105 o_from_j105 o_end_j105 o_value_j105 o_faultPlace_j105 o_faults_j105 o_at_j105 o_names o_text = some u → va_P E.1 vwCl (wd_X12_test E a_o a_o_at a_o_names a_o_sort a_o_trayMany a_o_trays a_o_tape a_o_text a_o_opened a_o_farBy a_o_attendsBy a_o_coveredBy a_o_cameBy a_o_cameThen a_o_fallsBy a_o_loops a_o_ran a_o_told1 o_status o_top o_bottom o_taped o_size o_token_j105 o_from_j105 o_end_j105 o_value_j105 o_faultKind o_faultPlace_j105 o_faults_j105 o_seen o_toldParts o_depth o_counted o_becameThen o_firstCorner o_drawn o_ranSteps o_isTold o_marks o_at_j105 o_names o_text) H → va_D A (wd_X12_test E a_o a_o_at a_o_names a_o_sort a_o_trayMany a_o_trays a_o_tape a_o_text a_o_opened a_o_farBy a_o_attendsBy a_o_coveredBy a_o_cameBy a_o_cameThen a_o_fallsBy a_o_loops a_o_ran a_o_told1 o_status o_top o_bottom o_taped o_size o_token_j105 o_from_j105 o_end_j105 o_value_j105 o_faultKind o_faultPlace_j105 o_faults_j105 o_seen o_toldParts o_depth o_counted o_becameThen o_firstCorner o_drawn o_ranSteps o_isTold o_marks o_at_j105 o_names o_text) → va_S A s.heap H locs → lv_has ls 3 [] → W p l e (rmd 8) s m aa below meth cd H locs 0 0 QQ (F0 m 105 ls []) := by
    intro o_token_j105 o_from_j105 o_end_j105 o_value_j105 o_faultPlace_j105 o_faults_j105 o_at_j105 H locs ls hf hP hD hS hl
    unfold X12_test_j105 at hf
    refine lv_iconst (v := 0) hx hb dX12_test_105 (by decide) ?_
    obtain rfl := Option.some.inj hf
    subst hq
    exact retZ cx rfl hP hD hS dX12_test_106
  have hj66 : ∀ (o_token_j66 : Int32) (o_from_j66 : Int32) (o_end_j66 : Int32) (o_value_j66 : Int32) (o_faultPlace_j66 : Int32) (o_faults_j66 : Int32) (o_at_j66 : Nat → Int32) (H : Heap) (locs : List Loc) (ls : Array Slot), X12_test_j66 F o_size o_token_j66 o_from_j66 o_end_j66 o_value_j66 o_faultPlace_j66 o_faults_j66 o_at_j66 o_names o_text = some u → va_P E.1 vwCl (wd_X12_test E a_o a_o_at a_o_names a_o_sort a_o_trayMany a_o_trays a_o_tape a_o_text a_o_opened a_o_farBy a_o_attendsBy a_o_coveredBy a_o_cameBy a_o_cameThen a_o_fallsBy a_o_loops a_o_ran a_o_told1 o_status o_top o_bottom o_taped o_size o_token_j66 o_from_j66 o_end_j66 o_value_j66 o_faultKind o_faultPlace_j66 o_faults_j66 o_seen o_toldParts o_depth o_counted o_becameThen o_firstCorner o_drawn o_ranSteps o_isTold o_marks o_at_j66 o_names o_text) H → va_D A (wd_X12_test E a_o a_o_at a_o_names a_o_sort a_o_trayMany a_o_trays a_o_tape a_o_text a_o_opened a_o_farBy a_o_attendsBy a_o_coveredBy a_o_cameBy a_o_cameThen a_o_fallsBy a_o_loops a_o_ran a_o_told1 o_status o_top o_bottom o_taped o_size o_token_j66 o_from_j66 o_end_j66 o_value_j66 o_faultKind o_faultPlace_j66 o_faults_j66 o_seen o_toldParts o_depth o_counted o_becameThen o_firstCorner o_drawn o_ranSteps o_isTold o_marks o_at_j66 o_names o_text) → va_S A s.heap H locs → lv_has ls 3 [] → W p l e (rmd 8) s m aa below meth cd H locs 0 0 QQ (F0 m 66 ls []) := by
    intro o_token_j66 o_from_j66 o_end_j66 o_value_j66 o_faultPlace_j66 o_faults_j66 o_at_j66 H locs ls hf hP hD hS hl
    unfold X12_test_j66 at hf
    refine lv_iconst (v := 0) hx hb dX12_test_66 (by decide) ?_
    obtain rfl := Option.some.inj hf
    subst hq
    exact retZ cx rfl hP hD hS dX12_test_67
  unfold X12_test at hf
  refine lv_aload_n hx hb dX12_test_0 rfl (lv_at hl 0 rfl) ?_
  refine va_ldcS hx hb hown hX.2.2.2.2.1 dX12_test_1 ?_
  obtain ⟨u3, hu3, hf⟩ := bd hf
  refine keepVI (ct_X12_inWords l E F a_o a_o_at a_o_names a_o_sort a_o_trayMany a_o_trays a_o_tape a_o_text a_o_opened a_o_farBy a_o_attendsBy a_o_coveredBy a_o_cameBy a_o_cameThen a_o_fallsBy a_o_loops a_o_ran a_o_told1 o_status o_top o_bottom o_taped o_size o_token o_from o_end o_value o_faultKind o_faultPlace o_faults o_seen o_toldParts o_depth o_counted o_becameThen o_firstCorner o_drawn o_ranSteps o_isTold o_marks o_text u3 hu3) [0, 3] cal_X12_inWords cav_X12_inWords lk_X12_170 cx hP hD hS hl dX12_test_3 rfl rfl rfl rfl (Nat.le_of_ble_eq_true rfl) ⟨Nat.le_of_ble_eq_true rfl, Nat.le_of_ble_eq_true rfl⟩ rfl (by decide) (fun H locs hP hS => ?_)
  refine lv_istore_n (lv' := [(2, .int u3), (0, .ref a_o), (1, .int v1)]) hx hb dX12_test_6 rfl hl (by decide) rfl (fun ls hl => ?_)
  refine lv_iload_n hx hb dX12_test_7 rfl (lv_at hl 0 rfl) ?_
  refine lv_bipush (v := 21) hx hb dX12_test_8 (by decide) ?_
  refine lv_icmp_ge (tgt := 19) hx hb dX12_test_10 (by decide) (fun hc => ?_) (fun hc => ?_)
  · have hf := it_t hc hf
    refine lv_aload_n hx hb dX12_test_19 rfl (lv_at hl 1 rfl) ?_
    refine va_get (D := E.1) (ci := 12) (v := .ref a_o_at) (C := RX12) (T := TX12) (N := 39) hx hb hts inX12 hown hK hP 0 rfl rfl 0 (by decide) (hts _ fl_X12_7) (fun _ h9 => h9) rfl dX12_test_20 ?_
    refine lv_iload_n hx hb dX12_test_23 rfl (lv_at hl 2 rfl) ?_
    refine lv_sipush (v := 1700) hx hb dX12_test_24 (by decide) ?_
    refine lv_iload_n hx hb dX12_test_27 rfl (lv_at hl 0 rfl) ?_
    refine lv_iadd hx hb dX12_test_28 ?_
    obtain ⟨hi, hf⟩ := ck hf
    refine r_iast 1 cx hP hD hS rfl hi dX12_test_29 (fun H locs hP hD hS => ?_)
    have hP : va_P E.1 vwCl (wd_X12_test E a_o a_o_at a_o_names a_o_sort a_o_trayMany a_o_trays a_o_tape a_o_text a_o_opened a_o_farBy a_o_attendsBy a_o_coveredBy a_o_cameBy a_o_cameThen a_o_fallsBy a_o_loops a_o_ran a_o_told1 o_status o_top o_bottom o_taped o_size o_token o_from o_end o_value o_faultKind o_faultPlace o_faults o_seen o_toldParts o_depth o_counted o_becameThen o_firstCorner o_drawn o_ranSteps o_isTold o_marks (jput o_at v1 (1700 + u3)) o_names o_text) H := hP
    have hD : va_D A (wd_X12_test E a_o a_o_at a_o_names a_o_sort a_o_trayMany a_o_trays a_o_tape a_o_text a_o_opened a_o_farBy a_o_attendsBy a_o_coveredBy a_o_cameBy a_o_cameThen a_o_fallsBy a_o_loops a_o_ran a_o_told1 o_status o_top o_bottom o_taped o_size o_token o_from o_end o_value o_faultKind o_faultPlace o_faults o_seen o_toldParts o_depth o_counted o_becameThen o_firstCorner o_drawn o_ranSteps o_isTold o_marks (jput o_at v1 (1700 + u3)) o_names o_text) := hD
    refine lv_aload_n hx hb dX12_test_30 rfl (lv_at hl 1 rfl) ?_
    obtain ⟨u31, hu31, hf⟩ := bd hf
    refine callVV (wn := (wd_X12_test E a_o a_o_at a_o_names a_o_sort a_o_trayMany a_o_trays a_o_tape a_o_text a_o_opened a_o_farBy a_o_attendsBy a_o_coveredBy a_o_cameBy a_o_cameThen a_o_fallsBy a_o_loops a_o_ran a_o_told1 o_status o_top o_bottom o_taped o_size u31.1 u31.2.1 u31.2.2.1 u31.2.2.2 o_faultKind o_faultPlace o_faults o_seen o_toldParts o_depth o_counted o_becameThen o_firstCorner o_drawn o_ranSteps o_isTold o_marks (jput o_at v1 (1700 + u3)) o_names o_text)) (n1 := 4) (ct_X12_ahead l E F a_o a_o_at a_o_names a_o_sort a_o_trayMany a_o_trays a_o_tape a_o_text a_o_opened a_o_farBy a_o_attendsBy a_o_coveredBy a_o_cameBy a_o_cameThen a_o_fallsBy a_o_loops a_o_ran a_o_told1 o_status o_top o_bottom o_taped o_size o_token o_from o_end o_value o_faultKind o_faultPlace o_faults o_seen o_toldParts o_depth o_counted o_becameThen o_firstCorner o_drawn o_ranSteps o_isTold o_marks o_text u31 hu31) [0, 3] cal_X12_ahead cav_X12_ahead lk_X12_161 cx hP hD hS hl dX12_test_31 rfl rfl rfl rfl (Nat.le_of_ble_eq_true rfl) ⟨Nat.le_of_ble_eq_true rfl, Nat.le_of_ble_eq_true rfl⟩ rfl (by decide +kernel) rfl [some 0, none, none, some 1] rfl (by decide +kernel) rfl (fun H locs hP hD hS => ?_)
    refine lv_iload_n hx hb dX12_test_34 rfl (lv_at hl 0 rfl) ?_
    refine lv_bipush (v := 21) hx hb dX12_test_35 (by decide) ?_
    refine lv_icmp_ne (tgt := 68) hx hb dX12_test_37 (by decide) (fun hc => ?_) (fun hc => ?_)
    · have hf := it_f hc hf
      refine lv_iload_n hx hb dX12_test_68 rfl (lv_at hl 0 rfl) ?_
      refine lv_bipush (v := 22) hx hb dX12_test_69 (by decide) ?_
      refine lv_icmp_ne (tgt := 107) hx hb dX12_test_71 (by decide) (fun hc => ?_) (fun hc => ?_)
      · have hf := it_f hc hf
        refine lv_iload_n hx hb dX12_test_107 rfl (lv_at hl 0 rfl) ?_
        refine lv_bipush (v := 23) hx hb dX12_test_108 (by decide) ?_
        refine lv_icmp_ne (tgt := 121) hx hb dX12_test_110 (by decide) (fun hc => ?_) (fun hc => ?_)
        · have hf := it_f hc hf
          refine lv_aload_n hx hb dX12_test_121 rfl (lv_at hl 1 rfl) ?_
          refine lv_bipush (v := 23) hx hb dX12_test_122 (by decide) ?_
          refine lv_aload_n hx hb dX12_test_124 rfl (lv_at hl 1 rfl) ?_
          refine va_get (D := E.1) (ci := 12) (v := .ref a_o_at) (C := RX12) (T := TX12) (N := 39) hx hb hts inX12 hown hK hP 0 rfl rfl 0 (by decide) (hts _ fl_X12_7) (fun _ h9 => h9) rfl dX12_test_125 ?_
          refine lv_iconst (v := 4) hx hb dX12_test_128 (by decide) ?_
          obtain ⟨hi, hf⟩ := ck hf
          refine r_iald 1 cx hP rfl hi dX12_test_129 ?_
          refine lv_iload_n hx hb dX12_test_130 rfl (lv_at hl 2 rfl) ?_
          refine lv_iconst (v := 1) hx hb dX12_test_131 (by decide) ?_
          refine lv_iadd hx hb dX12_test_132 ?_
          obtain ⟨u133, hu133, hf⟩ := bd hf
          refine callVI (wn := (wd_X12_test E a_o a_o_at a_o_names a_o_sort a_o_trayMany a_o_trays a_o_tape a_o_text a_o_opened a_o_farBy a_o_attendsBy a_o_coveredBy a_o_cameBy a_o_cameThen a_o_fallsBy a_o_loops a_o_ran a_o_told1 o_status o_top o_bottom o_taped o_size u133.2.1 u133.2.2.1 u133.2.2.2.1 u133.2.2.2.2.1 o_faultKind u133.2.2.2.2.2.1 u133.2.2.2.2.2.2.1 o_seen o_toldParts o_depth o_counted o_becameThen o_firstCorner o_drawn o_ranSteps o_isTold o_marks u133.2.2.2.2.2.2.2 o_names o_text)) (n1 := 4) (ct_X12_oldOne l E F a_o a_o_at a_o_names a_o_sort a_o_trayMany a_o_trays a_o_tape a_o_text a_o_opened a_o_farBy a_o_attendsBy a_o_coveredBy a_o_cameBy a_o_cameThen a_o_fallsBy a_o_loops a_o_ran a_o_told1 o_status o_top o_bottom o_taped o_size u31.1 u31.2.1 u31.2.2.1 u31.2.2.2 o_faultKind o_faultPlace o_faults o_seen o_toldParts o_depth o_counted o_becameThen o_firstCorner o_drawn o_ranSteps o_isTold o_marks (jput o_at v1 (1700 + u3)) o_names o_text (23 : Int32) (jat (jput o_at v1 (1700 + u3)) 4) (v1 + 1) u133 hu133) [0, 1, 2, 3] cal_X12_oldOne cav_X12_oldOne lk_X12_191 cx hP hD hS hl dX12_test_133 rfl rfl rfl rfl (Nat.le_of_ble_eq_true rfl) ⟨Nat.le_of_ble_eq_true rfl, Nat.le_of_ble_eq_true rfl⟩ rfl (by decide +kernel) rfl [some 0, some 1, some 2, some 3] rfl (by decide +kernel) rfl (fun H locs hP hD hS => ?_)
          refine lv_if_ne (tgt := 141) hx hb dX12_test_136 (by decide) (fun hc => ?_) (fun hc => ?_)
          · have hf := it_f hc hf
            refine lv_aload_n hx hb dX12_test_141 rfl (lv_at hl 1 rfl) ?_
            refine lv_bipush (v := 60) hx hb dX12_test_142 (by decide) ?_
            obtain ⟨u144, hu144, hf⟩ := bd hf
            refine keepVI (ct_X12_isSign l E a_o a_o_at a_o_names a_o_sort a_o_trayMany a_o_trays a_o_tape a_o_text a_o_opened a_o_farBy a_o_attendsBy a_o_coveredBy a_o_cameBy a_o_cameThen a_o_fallsBy a_o_loops a_o_ran a_o_told1 o_status o_top o_bottom o_taped o_size u133.2.1 u133.2.2.1 u133.2.2.2.1 u133.2.2.2.2.1 o_faultKind u133.2.2.2.2.2.1 u133.2.2.2.2.2.2.1 o_seen o_toldParts o_depth o_counted o_becameThen o_firstCorner o_drawn o_ranSteps o_isTold o_marks (60 : Int32) u144 hu144) [0] cal_X12_isSign cav_X12_isSign lk_X12_164 cx hP hD hS hl dX12_test_144 rfl rfl rfl rfl (Nat.le_of_ble_eq_true rfl) ⟨Nat.le_of_ble_eq_true rfl, Nat.le_of_ble_eq_true rfl⟩ rfl (by decide) (fun H locs hP hS => ?_)
            refine lv_if_ne (tgt := 174) hx hb dX12_test_147 (by decide) (fun hc => ?_) (fun hc => ?_)
            · have hf := it_f hc hf
              exact hj174 _ _ _ _ _ _ _ _ _ _ hf hP hD hS (lv_sub hl [1, 2] rfl)
            · have hf := it_t hc hf
              refine lv_aload_n hx hb dX12_test_150 rfl (lv_at hl 1 rfl) ?_
              refine lv_bipush (v := 62) hx hb dX12_test_151 (by decide) ?_
              obtain ⟨u153, hu153, hf⟩ := bd hf
              refine keepVI (ct_X12_isSign l E a_o a_o_at a_o_names a_o_sort a_o_trayMany a_o_trays a_o_tape a_o_text a_o_opened a_o_farBy a_o_attendsBy a_o_coveredBy a_o_cameBy a_o_cameThen a_o_fallsBy a_o_loops a_o_ran a_o_told1 o_status o_top o_bottom o_taped o_size u133.2.1 u133.2.2.1 u133.2.2.2.1 u133.2.2.2.2.1 o_faultKind u133.2.2.2.2.2.1 u133.2.2.2.2.2.2.1 o_seen o_toldParts o_depth o_counted o_becameThen o_firstCorner o_drawn o_ranSteps o_isTold o_marks (62 : Int32) u153 hu153) [0] cal_X12_isSign cav_X12_isSign lk_X12_164 cx hP hD hS hl dX12_test_153 rfl rfl rfl rfl (Nat.le_of_ble_eq_true rfl) ⟨Nat.le_of_ble_eq_true rfl, Nat.le_of_ble_eq_true rfl⟩ rfl (by decide) (fun H locs hP hS => ?_)
              refine lv_if_ne (tgt := 174) hx hb dX12_test_156 (by decide) (fun hc => ?_) (fun hc => ?_)
              · have hf := it_f hc hf
                exact hj174 _ _ _ _ _ _ _ _ _ _ hf hP hD hS (lv_sub hl [1, 2] rfl)
              · have hf := it_t hc hf
                refine lv_aload_n hx hb dX12_test_159 rfl (lv_at hl 1 rfl) ?_
                refine lv_bipush (v := 61) hx hb dX12_test_160 (by decide) ?_
                obtain ⟨u162, hu162, hf⟩ := bd hf
                refine keepVI (ct_X12_isSign l E a_o a_o_at a_o_names a_o_sort a_o_trayMany a_o_trays a_o_tape a_o_text a_o_opened a_o_farBy a_o_attendsBy a_o_coveredBy a_o_cameBy a_o_cameThen a_o_fallsBy a_o_loops a_o_ran a_o_told1 o_status o_top o_bottom o_taped o_size u133.2.1 u133.2.2.1 u133.2.2.2.1 u133.2.2.2.2.1 o_faultKind u133.2.2.2.2.2.1 u133.2.2.2.2.2.2.1 o_seen o_toldParts o_depth o_counted o_becameThen o_firstCorner o_drawn o_ranSteps o_isTold o_marks (61 : Int32) u162 hu162) [0] cal_X12_isSign cav_X12_isSign lk_X12_164 cx hP hD hS hl dX12_test_162 rfl rfl rfl rfl (Nat.le_of_ble_eq_true rfl) ⟨Nat.le_of_ble_eq_true rfl, Nat.le_of_ble_eq_true rfl⟩ rfl (by decide) (fun H locs hP hS => ?_)
                refine lv_if_ne (tgt := 174) hx hb dX12_test_165 (by decide) (fun hc => ?_) (fun hc => ?_)
                · have hf := it_f hc hf
                  exact hj174 _ _ _ _ _ _ _ _ _ _ hf hP hD hS (lv_sub hl [1, 2] rfl)
                · have hf := it_t hc hf
                  refine lv_aload_n hx hb dX12_test_168 rfl (lv_at hl 1 rfl) ?_
                  refine lv_iconst (v := 2) hx hb dX12_test_169 (by decide) ?_
                  obtain ⟨u170, hu170, hf⟩ := bd hf
                  refine callVI (wn := (wd_X12_test E a_o a_o_at a_o_names a_o_sort a_o_trayMany a_o_trays a_o_tape a_o_text a_o_opened a_o_farBy a_o_attendsBy a_o_coveredBy a_o_cameBy a_o_cameThen a_o_fallsBy a_o_loops a_o_ran a_o_told1 o_status o_top o_bottom o_taped o_size u133.2.1 u133.2.2.1 u133.2.2.2.1 u133.2.2.2.2.1 o_faultKind u170.2.1 u170.2.2 o_seen o_toldParts o_depth o_counted o_becameThen o_firstCorner o_drawn o_ranSteps o_isTold o_marks u133.2.2.2.2.2.2.2 o_names o_text)) (n1 := 4) (ct_X12_fails l E a_o a_o_at a_o_names a_o_sort a_o_trayMany a_o_trays a_o_tape a_o_text a_o_opened a_o_farBy a_o_attendsBy a_o_coveredBy a_o_cameBy a_o_cameThen a_o_fallsBy a_o_loops a_o_ran a_o_told1 o_status o_top o_bottom o_taped o_size u133.2.1 u133.2.2.1 u133.2.2.2.1 u133.2.2.2.2.1 o_faultKind u133.2.2.2.2.2.1 u133.2.2.2.2.2.2.1 o_seen o_toldParts o_depth o_counted o_becameThen o_firstCorner o_drawn o_ranSteps o_isTold o_marks (2 : Int32) u170 hu170) [0] cal_X12_fails cav_X12_fails lk_X12_167 cx hP hD hS hl dX12_test_170 rfl rfl rfl rfl (Nat.le_of_ble_eq_true rfl) ⟨Nat.le_of_ble_eq_true rfl, Nat.le_of_ble_eq_true rfl⟩ rfl (by decide +kernel) rfl [some 0, none, none, none] rfl (by decide +kernel) rfl (fun H locs hP hD hS => ?_)
                  obtain ⟨hz, hf⟩ := ck hf
                  obtain rfl := Option.some.inj hf
                  subst hq
                  exact retZ cx hz hP hD hS dX12_test_173
          · have hf := it_t hc hf
            refine lv_iconst (v := 0) hx hb dX12_test_139 (by decide) ?_
            obtain rfl := Option.some.inj hf
            subst hq
            exact retZ cx rfl hP hD hS dX12_test_140
        · have hf := it_t hc hf
          refine lv_aload_n hx hb dX12_test_113 rfl (lv_at hl 1 rfl) ?_
          refine lv_iload_n hx hb dX12_test_114 rfl (lv_at hl 2 rfl) ?_
          refine lv_iconst (v := 1) hx hb dX12_test_115 (by decide) ?_
          refine lv_iadd hx hb dX12_test_116 ?_
          obtain ⟨u117, hu117, hf⟩ := bd hf
          refine callVI (wn := (wd_X12_test E a_o a_o_at a_o_names a_o_sort a_o_trayMany a_o_trays a_o_tape a_o_text a_o_opened a_o_farBy a_o_attendsBy a_o_coveredBy a_o_cameBy a_o_cameThen a_o_fallsBy a_o_loops a_o_ran a_o_told1 o_status o_top o_bottom o_taped o_size u117.2.1 u117.2.2.1 u117.2.2.2.1 u117.2.2.2.2.1 o_faultKind u117.2.2.2.2.2.1 u117.2.2.2.2.2.2.1 o_seen o_toldParts o_depth o_counted o_becameThen o_firstCorner o_drawn o_ranSteps o_isTold o_marks u117.2.2.2.2.2.2.2 o_names o_text)) (n1 := 4) (ct_X12_happeningTo l E F a_o a_o_at a_o_names a_o_sort a_o_trayMany a_o_trays a_o_tape a_o_text a_o_opened a_o_farBy a_o_attendsBy a_o_coveredBy a_o_cameBy a_o_cameThen a_o_fallsBy a_o_loops a_o_ran a_o_told1 o_status o_top o_bottom o_taped o_size u31.1 u31.2.1 u31.2.2.1 u31.2.2.2 o_faultKind o_faultPlace o_faults o_seen o_toldParts o_depth o_counted o_becameThen o_firstCorner o_drawn o_ranSteps o_isTold o_marks (jput o_at v1 (1700 + u3)) o_names o_text (v1 + 1) u117 hu117) [0, 1, 2, 3] cal_X12_happeningTo cav_X12_happeningTo lk_X12_254 cx hP hD hS hl dX12_test_117 rfl rfl rfl rfl (Nat.le_of_ble_eq_true rfl) ⟨Nat.le_of_ble_eq_true rfl, Nat.le_of_ble_eq_true rfl⟩ rfl (by decide +kernel) rfl [some 0, some 1, some 2, some 3] rfl (by decide +kernel) rfl (fun H locs hP hD hS => ?_)
          obtain ⟨hz, hf⟩ := ck hf
          obtain rfl := Option.some.inj hf
          subst hq
          exact retZ cx hz hP hD hS dX12_test_120
      · have hf := it_t hc hf
        refine lv_aload_n hx hb dX12_test_74 rfl (lv_at hl 1 rfl) ?_
        refine lv_iload_n hx hb dX12_test_75 rfl (lv_at hl 2 rfl) ?_
        refine lv_iconst (v := 1) hx hb dX12_test_76 (by decide) ?_
        refine lv_iadd hx hb dX12_test_77 ?_
        obtain ⟨u78, hu78, hf⟩ := bd hf
        refine callVI (wn := (wd_X12_test E a_o a_o_at a_o_names a_o_sort a_o_trayMany a_o_trays a_o_tape a_o_text a_o_opened a_o_farBy a_o_attendsBy a_o_coveredBy a_o_cameBy a_o_cameThen a_o_fallsBy a_o_loops a_o_ran a_o_told1 o_status o_top o_bottom o_taped o_size u78.2.1 u78.2.2.1 u78.2.2.2.1 u78.2.2.2.2.1 o_faultKind u78.2.2.2.2.2.1 u78.2.2.2.2.2.2.1 o_seen o_toldParts o_depth o_counted o_becameThen o_firstCorner o_drawn o_ranSteps o_isTold o_marks u78.2.2.2.2.2.2.2 o_names o_text)) (n1 := 4) (ct_X12_extraTo l E F a_o a_o_at a_o_names a_o_sort a_o_trayMany a_o_trays a_o_tape a_o_text a_o_opened a_o_farBy a_o_attendsBy a_o_coveredBy a_o_cameBy a_o_cameThen a_o_fallsBy a_o_loops a_o_ran a_o_told1 o_status o_top o_bottom o_taped o_size u31.1 u31.2.1 u31.2.2.1 u31.2.2.2 o_faultKind o_faultPlace o_faults o_seen o_toldParts o_depth o_counted o_becameThen o_firstCorner o_drawn o_ranSteps o_isTold o_marks (jput o_at v1 (1700 + u3)) o_names o_text (v1 + 1) u78 hu78) [0, 1, 2, 3] cal_X12_extraTo cav_X12_extraTo lk_X12_257 cx hP hD hS hl dX12_test_78 rfl rfl rfl rfl (Nat.le_of_ble_eq_true rfl) ⟨Nat.le_of_ble_eq_true rfl, Nat.le_of_ble_eq_true rfl⟩ rfl (by decide +kernel) rfl [some 0, some 1, some 2, some 3] rfl (by decide +kernel) rfl (fun H locs hP hD hS => ?_)
        refine lv_if_eq (tgt := 105) hx hb dX12_test_81 (by decide) (fun hc => ?_) (fun hc => ?_)
        · have hf := it_t hc hf
          exact hj105 _ _ _ _ _ _ _ _ _ _ hf hP hD hS (lv_sub hl [] rfl)
        · have hf := it_f hc hf
          refine lv_aload_n hx hb dX12_test_84 rfl (lv_at hl 1 rfl) ?_
          refine lv_iconst (v := 0) hx hb dX12_test_85 (by decide) ?_
          refine lv_aload_n hx hb dX12_test_86 rfl (lv_at hl 1 rfl) ?_
          refine va_get (D := E.1) (ci := 12) (v := .ref a_o_at) (C := RX12) (T := TX12) (N := 39) hx hb hts inX12 hown hK hP 0 rfl rfl 0 (by decide) (hts _ fl_X12_7) (fun _ h9 => h9) rfl dX12_test_87 ?_
          refine lv_iconst (v := 0) hx hb dX12_test_90 (by decide) ?_
          obtain ⟨hi, hf⟩ := ck hf
          refine r_iald 1 cx hP rfl hi dX12_test_91 ?_
          refine lv_iload_n hx hb dX12_test_92 rfl (lv_at hl 2 rfl) ?_
          refine lv_iconst (v := 2) hx hb dX12_test_93 (by decide) ?_
          refine lv_iadd hx hb dX12_test_94 ?_
          obtain ⟨u95, hu95, hf⟩ := bd hf
          refine callVI (wn := (wd_X12_test E a_o a_o_at a_o_names a_o_sort a_o_trayMany a_o_trays a_o_tape a_o_text a_o_opened a_o_farBy a_o_attendsBy a_o_coveredBy a_o_cameBy a_o_cameThen a_o_fallsBy a_o_loops a_o_ran a_o_told1 o_status o_top o_bottom o_taped o_size u95.2.1 u95.2.2.1 u95.2.2.2.1 u95.2.2.2.2.1 o_faultKind u95.2.2.2.2.2.1 u95.2.2.2.2.2.2.1 o_seen o_toldParts o_depth o_counted o_becameThen o_firstCorner o_drawn o_ranSteps o_isTold o_marks u95.2.2.2.2.2.2.2 o_names o_text)) (n1 := 4) (ct_X12_oldOne l E F a_o a_o_at a_o_names a_o_sort a_o_trayMany a_o_trays a_o_tape a_o_text a_o_opened a_o_farBy a_o_attendsBy a_o_coveredBy a_o_cameBy a_o_cameThen a_o_fallsBy a_o_loops a_o_ran a_o_told1 o_status o_top o_bottom o_taped o_size u78.2.1 u78.2.2.1 u78.2.2.2.1 u78.2.2.2.2.1 o_faultKind u78.2.2.2.2.2.1 u78.2.2.2.2.2.2.1 o_seen o_toldParts o_depth o_counted o_becameThen o_firstCorner o_drawn o_ranSteps o_isTold o_marks u78.2.2.2.2.2.2.2 o_names o_text (0 : Int32) (jat u78.2.2.2.2.2.2.2 0) (v1 + 2) u95 hu95) [0, 1, 2, 3] cal_X12_oldOne cav_X12_oldOne lk_X12_191 cx hP hD hS hl dX12_test_95 rfl rfl rfl rfl (Nat.le_of_ble_eq_true rfl) ⟨Nat.le_of_ble_eq_true rfl, Nat.le_of_ble_eq_true rfl⟩ rfl (by decide +kernel) rfl [some 0, some 1, some 2, some 3] rfl (by decide +kernel) rfl (fun H locs hP hD hS => ?_)
          refine lv_if_eq (tgt := 105) hx hb dX12_test_98 (by decide) (fun hc => ?_) (fun hc => ?_)
          · have hf := it_t hc hf
            exact hj105 _ _ _ _ _ _ _ _ _ _ hf hP hD hS (lv_sub hl [] rfl)
          · have hf := it_f hc hf
            refine lv_iconst (v := 1) hx hb dX12_test_101 (by decide) ?_
            refine lv_goto (tgt := 106) hx hb dX12_test_102 (by decide) ?_
            obtain rfl := Option.some.inj hf
            subst hq
            exact retZ cx rfl hP hD hS dX12_test_106
    · have hf := it_t hc hf
      refine lv_aload_n hx hb dX12_test_40 rfl (lv_at hl 1 rfl) ?_
      refine lv_iload_n hx hb dX12_test_41 rfl (lv_at hl 2 rfl) ?_
      refine lv_iconst (v := 1) hx hb dX12_test_42 (by decide) ?_
      refine lv_iadd hx hb dX12_test_43 ?_
      obtain ⟨u44, hu44, hf⟩ := bd hf
      refine callVI (wn := (wd_X12_test E a_o a_o_at a_o_names a_o_sort a_o_trayMany a_o_trays a_o_tape a_o_text a_o_opened a_o_farBy a_o_attendsBy a_o_coveredBy a_o_cameBy a_o_cameThen a_o_fallsBy a_o_loops a_o_ran a_o_told1 o_status o_top o_bottom o_taped o_size u44.2.1 u44.2.2.1 u44.2.2.2.1 u44.2.2.2.2.1 o_faultKind u44.2.2.2.2.2.1 u44.2.2.2.2.2.2.1 o_seen o_toldParts o_depth o_counted o_becameThen o_firstCorner o_drawn o_ranSteps o_isTold o_marks u44.2.2.2.2.2.2.2 o_names o_text)) (n1 := 4) (ct_X12_happeningTo l E F a_o a_o_at a_o_names a_o_sort a_o_trayMany a_o_trays a_o_tape a_o_text a_o_opened a_o_farBy a_o_attendsBy a_o_coveredBy a_o_cameBy a_o_cameThen a_o_fallsBy a_o_loops a_o_ran a_o_told1 o_status o_top o_bottom o_taped o_size u31.1 u31.2.1 u31.2.2.1 u31.2.2.2 o_faultKind o_faultPlace o_faults o_seen o_toldParts o_depth o_counted o_becameThen o_firstCorner o_drawn o_ranSteps o_isTold o_marks (jput o_at v1 (1700 + u3)) o_names o_text (v1 + 1) u44 hu44) [0, 1, 2, 3] cal_X12_happeningTo cav_X12_happeningTo lk_X12_254 cx hP hD hS hl dX12_test_44 rfl rfl rfl rfl (Nat.le_of_ble_eq_true rfl) ⟨Nat.le_of_ble_eq_true rfl, Nat.le_of_ble_eq_true rfl⟩ rfl (by decide +kernel) rfl [some 0, some 1, some 2, some 3] rfl (by decide +kernel) rfl (fun H locs hP hD hS => ?_)
      refine lv_if_eq (tgt := 66) hx hb dX12_test_47 (by decide) (fun hc => ?_) (fun hc => ?_)
      · have hf := it_t hc hf
        exact hj66 _ _ _ _ _ _ _ _ _ _ hf hP hD hS (lv_sub hl [] rfl)
      · have hf := it_f hc hf
        refine lv_aload_n hx hb dX12_test_50 rfl (lv_at hl 1 rfl) ?_
        refine lv_iload_n hx hb dX12_test_51 rfl (lv_at hl 2 rfl) ?_
        refine lv_iconst (v := 2) hx hb dX12_test_52 (by decide) ?_
        refine lv_iadd hx hb dX12_test_53 ?_
        refine lv_iconst (v := 0) hx hb dX12_test_54 (by decide) ?_
        refine lv_iconst (v := 2) hx hb dX12_test_55 (by decide) ?_
        obtain ⟨u56, hu56, hf⟩ := bd hf
        refine callVI (wn := (wd_X12_test E a_o a_o_at a_o_names a_o_sort a_o_trayMany a_o_trays a_o_tape a_o_text a_o_opened a_o_farBy a_o_attendsBy a_o_coveredBy a_o_cameBy a_o_cameThen a_o_fallsBy a_o_loops a_o_ran a_o_told1 o_status o_top o_bottom o_taped o_size u56.2.1 u56.2.2.1 u56.2.2.2.1 u56.2.2.2.2.1 o_faultKind u56.2.2.2.2.2.1 u56.2.2.2.2.2.2.1 o_seen o_toldParts o_depth o_counted o_becameThen o_firstCorner o_drawn o_ranSteps o_isTold o_marks u56.2.2.2.2.2.2.2 o_names o_text)) (n1 := 4) (ct_X12_number l E F a_o a_o_at a_o_names a_o_sort a_o_trayMany a_o_trays a_o_tape a_o_text a_o_opened a_o_farBy a_o_attendsBy a_o_coveredBy a_o_cameBy a_o_cameThen a_o_fallsBy a_o_loops a_o_ran a_o_told1 o_status o_top o_bottom o_taped o_size u44.2.1 u44.2.2.1 u44.2.2.2.1 u44.2.2.2.2.1 o_faultKind u44.2.2.2.2.2.1 u44.2.2.2.2.2.2.1 o_seen o_toldParts o_depth o_counted o_becameThen o_firstCorner o_drawn o_ranSteps o_isTold o_marks u44.2.2.2.2.2.2.2 o_text (v1 + 2) (0 : Int32) (2 : Int32) u56 hu56) [0, 1, 3] cal_X12_number cav_X12_number lk_X12_208 cx hP hD hS hl dX12_test_56 rfl rfl rfl rfl (Nat.le_of_ble_eq_true rfl) ⟨Nat.le_of_ble_eq_true rfl, Nat.le_of_ble_eq_true rfl⟩ rfl (by decide +kernel) rfl [some 0, some 1, none, some 2] rfl (by decide +kernel) rfl (fun H locs hP hD hS => ?_)
        refine lv_if_eq (tgt := 66) hx hb dX12_test_59 (by decide) (fun hc => ?_) (fun hc => ?_)
        · have hf := it_t hc hf
          exact hj66 _ _ _ _ _ _ _ _ _ _ hf hP hD hS (lv_sub hl [] rfl)
        · have hf := it_f hc hf
          refine lv_iconst (v := 1) hx hb dX12_test_62 (by decide) ?_
          refine lv_goto (tgt := 67) hx hb dX12_test_63 (by decide) ?_
          obtain rfl := Option.some.inj hf
          subst hq
          exact retZ cx rfl hP hD hS dX12_test_67
  · have hf := it_f hc hf
    refine lv_aload_n hx hb dX12_test_13 rfl (lv_at hl 1 rfl) ?_
    refine lv_iconst (v := 2) hx hb dX12_test_14 (by decide) ?_
    obtain ⟨u15, hu15, hf⟩ := bd hf
    refine callVI (wn := (wd_X12_test E a_o a_o_at a_o_names a_o_sort a_o_trayMany a_o_trays a_o_tape a_o_text a_o_opened a_o_farBy a_o_attendsBy a_o_coveredBy a_o_cameBy a_o_cameThen a_o_fallsBy a_o_loops a_o_ran a_o_told1 o_status o_top o_bottom o_taped o_size o_token o_from o_end o_value o_faultKind u15.2.1 u15.2.2 o_seen o_toldParts o_depth o_counted o_becameThen o_firstCorner o_drawn o_ranSteps o_isTold o_marks o_at o_names o_text)) (n1 := 4) (ct_X12_fails l E a_o a_o_at a_o_names a_o_sort a_o_trayMany a_o_trays a_o_tape a_o_text a_o_opened a_o_farBy a_o_attendsBy a_o_coveredBy a_o_cameBy a_o_cameThen a_o_fallsBy a_o_loops a_o_ran a_o_told1 o_status o_top o_bottom o_taped o_size o_token o_from o_end o_value o_faultKind o_faultPlace o_faults o_seen o_toldParts o_depth o_counted o_becameThen o_firstCorner o_drawn o_ranSteps o_isTold o_marks (2 : Int32) u15 hu15) [0] cal_X12_fails cav_X12_fails lk_X12_167 cx hP hD hS hl dX12_test_15 rfl rfl rfl rfl (Nat.le_of_ble_eq_true rfl) ⟨Nat.le_of_ble_eq_true rfl, Nat.le_of_ble_eq_true rfl⟩ rfl (by decide +kernel) rfl [some 0, none, none, none] rfl (by decide +kernel) rfl (fun H locs hP hD hS => ?_)
    obtain ⟨hz, hf⟩ := ck hf
    obtain rfl := Option.some.inj hf
    subst hq
    exact retZ cx hz hP hD hS dX12_test_18
def X12_weekOrder_j123 (F : Nat) (o_size : Int32) (o_token : Int32) (o_from : Int32) (o_end : Int32) (o_value : Int32) (o_faultPlace : Int32) (o_faults : Int32) (o_at : Nat → Int32) (o_names : Nat → Int64) (o_text : Nat → Int32) : Option (Int32 × Int32 × Int32 × Int32 × Int32 × Int32 × Int32 × (Nat → Int32)) :=
  some (0, o_token, o_from, o_end, o_value, o_faultPlace, o_faults, o_at)
def X12_weekOrder_j94 (F : Nat) (o_size : Int32) (o_token : Int32) (o_from : Int32) (o_end : Int32) (o_value : Int32) (o_faultPlace : Int32) (o_faults : Int32) (o_at : Nat → Int32) (o_names : Nat → Int64) (o_text : Nat → Int32) : Option (Int32 × Int32 × Int32 × Int32 × Int32 × Int32 × Int32 × (Nat → Int32)) :=
  some (0, o_token, o_from, o_end, o_value, o_faultPlace, o_faults, o_at)
def X12_weekOrder (F : Nat) (o_size : Int32) (o_token : Int32) (o_from : Int32) (o_end : Int32) (o_value : Int32) (o_faultPlace : Int32) (o_faults : Int32) (o_at : Nat → Int32) (o_names : Nat → Int64) (o_text : Nat → Int32) (v1 : Int32) (v2 : Int32) : Option (Int32 × Int32 × Int32 × Int32 × Int32 × Int32 × Int32 × (Nat → Int32)) :=
  if v1 = 11 then
  (X12_number F o_size o_token o_from o_end o_value o_faultPlace o_faults o_at o_text (v2 + 1) (1 : Int32) (48 : Int32)).bind fun u55 =>
  if isZ u55.1 then some (u55.1, u55.2.1, u55.2.2.1, u55.2.2.2.1, u55.2.2.2.2.1, u55.2.2.2.2.2.1, u55.2.2.2.2.2.2.1, u55.2.2.2.2.2.2.2) else none
  else if v1 = 14 then
  (X12_extraTo F o_size o_token o_from o_end o_value o_faultPlace o_faults o_at o_names o_text (v2 + 1)).bind fun u74 =>
  if u74.1 = 0 then
  X12_weekOrder_j94 F o_size u74.2.1 u74.2.2.1 u74.2.2.2.1 u74.2.2.2.2.1 u74.2.2.2.2.2.1 u74.2.2.2.2.2.2.1 u74.2.2.2.2.2.2.2 o_names o_text
  else
  (X12_happeningTo F o_size u74.2.1 u74.2.2.1 u74.2.2.2.1 u74.2.2.2.2.1 u74.2.2.2.2.2.1 u74.2.2.2.2.2.2.1 u74.2.2.2.2.2.2.2 o_names o_text (v2 + 2)).bind fun u84 =>
  if u84.1 = 0 then
  X12_weekOrder_j94 F o_size u84.2.1 u84.2.2.1 u84.2.2.2.1 u84.2.2.2.2.1 u84.2.2.2.2.2.1 u84.2.2.2.2.2.2.1 u84.2.2.2.2.2.2.2 o_names o_text
  else
  some (1, u84.2.1, u84.2.2.1, u84.2.2.2.1, u84.2.2.2.2.1, u84.2.2.2.2.2.1, u84.2.2.2.2.2.2.1, u84.2.2.2.2.2.2.2)
  else if v1 = 15 then
  (X12_happeningTo F o_size o_token o_from o_end o_value o_faultPlace o_faults o_at o_names o_text (v2 + 1)).bind fun u100 =>
  if u100.1 = 0 then
  X12_weekOrder_j123 F o_size u100.2.1 u100.2.2.1 u100.2.2.2.1 u100.2.2.2.2.1 u100.2.2.2.2.2.1 u100.2.2.2.2.2.2.1 u100.2.2.2.2.2.2.2 o_names o_text
  else
  (X12_number F o_size u100.2.1 u100.2.2.1 u100.2.2.2.1 u100.2.2.2.2.1 u100.2.2.2.2.2.1 u100.2.2.2.2.2.2.1 u100.2.2.2.2.2.2.2 o_text (v2 + 2) (1 : Int32) (99 : Int32)).bind fun u113 =>
  if u113.1 = 0 then
  X12_weekOrder_j123 F o_size u113.2.1 u113.2.2.1 u113.2.2.2.1 u113.2.2.2.2.1 u113.2.2.2.2.2.1 u113.2.2.2.2.2.2.1 u113.2.2.2.2.2.2.2 o_names o_text
  else
  some (1, u113.2.1, u113.2.2.1, u113.2.2.2.1, u113.2.2.2.2.1, u113.2.2.2.2.2.1, u113.2.2.2.2.2.2.1, u113.2.2.2.2.2.2.2)
  else if v1 = 17 then
  (X12_test F o_size o_token o_from o_end o_value o_faultPlace o_faults o_at o_names o_text v2).bind fun u127 =>
  if isZ u127.1 then some (u127.1, u127.2.1, u127.2.2.1, u127.2.2.2.1, u127.2.2.2.2.1, u127.2.2.2.2.2.1, u127.2.2.2.2.2.2.1, u127.2.2.2.2.2.2.2) else none
  else if v1 = 18 then
  (X12_number F o_size o_token o_from o_end o_value o_faultPlace o_faults o_at o_text (v2 + 1) (1 : Int32) (99 : Int32)).bind fun u66 =>
  if isZ u66.1 then some (u66.1, u66.2.1, u66.2.2.1, u66.2.2.2.1, u66.2.2.2.2.1, u66.2.2.2.2.2.1, u66.2.2.2.2.2.2.1, u66.2.2.2.2.2.2.2) else none
  else some (1, o_token, o_from, o_end, o_value, o_faultPlace, o_faults, o_at)
abbrev wd_X12_weekOrder (E : vE) (a_o a_o_at a_o_names a_o_sort a_o_trayMany a_o_trays a_o_tape a_o_text a_o_opened a_o_farBy a_o_attendsBy a_o_coveredBy a_o_cameBy a_o_cameThen a_o_fallsBy a_o_loops a_o_ran a_o_told1 : Nat) (o_status : Int32) (o_top : Int64) (o_bottom : Int64) (o_taped : Int32) (o_size : Int32) (o_token : Int32) (o_from : Int32) (o_end : Int32) (o_value : Int32) (o_faultKind : Int32) (o_faultPlace : Int32) (o_faults : Int32) (o_seen : Int32) (o_toldParts : Int32) (o_depth : Int32) (o_counted : Int32) (o_becameThen : Int32) (o_firstCorner : Int32) (o_drawn : Int32) (o_ranSteps : Int32) (o_isTold : Int32) (o_marks : Int32) (o_at : Nat → Int32) (o_names : Nat → Int64) (o_text : Nat → Int32) : va_W := [(a_o, .inr (12, [.ref a_o_at, .ref a_o_names, .int o_status, .long o_top, .long o_bottom, .ref a_o_sort, .ref a_o_trayMany, .ref a_o_trays, .ref a_o_tape, .ref a_o_text, .int o_taped, .int o_size, .int o_token, .int o_from, .int o_end, .int o_value, .int o_faultKind, .int o_faultPlace, .int o_faults, .int o_seen, .int o_toldParts, .ref a_o_opened, .int o_depth, .int o_counted, .ref a_o_farBy, .int o_becameThen, .ref a_o_attendsBy, .ref a_o_coveredBy, .ref a_o_cameBy, .ref a_o_cameThen, .int o_firstCorner, .ref a_o_fallsBy, .int o_drawn, .int o_ranSteps, .ref a_o_loops, .ref a_o_ran, .ref a_o_told1, .int o_isTold, .int o_marks])), (a_o_at, .inl (E.2.1, 3097, .inl o_at)), (a_o_names, .inl (E.2.2.1, 162, .inr (.inl o_names))), (a_o_text, .inl (E.2.2.2.1, 900, .inl o_text))]
set_option maxHeartbeats 4000000 in
set_option maxRecDepth 100000 in
theorem ct_X12_weekOrder (l : Launch) (E : vE) (F : Nat) (a_o a_o_at a_o_names a_o_sort a_o_trayMany a_o_trays a_o_tape a_o_text a_o_opened a_o_farBy a_o_attendsBy a_o_coveredBy a_o_cameBy a_o_cameThen a_o_fallsBy a_o_loops a_o_ran a_o_told1 : Nat) (o_status : Int32) (o_top : Int64) (o_bottom : Int64) (o_taped : Int32) (o_size : Int32) (o_token : Int32) (o_from : Int32) (o_end : Int32) (o_value : Int32) (o_faultKind : Int32) (o_faultPlace : Int32) (o_faults : Int32) (o_seen : Int32) (o_toldParts : Int32) (o_depth : Int32) (o_counted : Int32) (o_becameThen : Int32) (o_firstCorner : Int32) (o_drawn : Int32) (o_ranSteps : Int32) (o_isTold : Int32) (o_marks : Int32) (o_at : Nat → Int32) (o_names : Nat → Int64) (o_text : Nat → Int32) (v1 : Int32) (v2 : Int32) (u : Int32 × Int32 × Int32 × Int32 × Int32 × Int32 × Int32 × (Nat → Int32)) (hf : X12_weekOrder F o_size o_token o_from o_end o_value o_faultPlace o_faults o_at o_names o_text v1 v2 = some u) :
    CtI l yX12_weekOrder cX12_weekOrder 3 (some .boolean) 9 E [.ref a_o, .int v1, .int v2] (wd_X12_weekOrder E a_o a_o_at a_o_names a_o_sort a_o_trayMany a_o_trays a_o_tape a_o_text a_o_opened a_o_farBy a_o_attendsBy a_o_coveredBy a_o_cameBy a_o_cameThen a_o_fallsBy a_o_loops a_o_ran a_o_told1 o_status o_top o_bottom o_taped o_size o_token o_from o_end o_value o_faultKind o_faultPlace o_faults o_seen o_toldParts o_depth o_counted o_becameThen o_firstCorner o_drawn o_ranSteps o_isTold o_marks o_at o_names o_text) (wd_X12_weekOrder E a_o a_o_at a_o_names a_o_sort a_o_trayMany a_o_trays a_o_tape a_o_text a_o_opened a_o_farBy a_o_attendsBy a_o_coveredBy a_o_cameBy a_o_cameThen a_o_fallsBy a_o_loops a_o_ran a_o_told1 o_status o_top o_bottom o_taped o_size u.2.1 u.2.2.1 u.2.2.2.1 u.2.2.2.2.1 o_faultKind u.2.2.2.2.2.1 u.2.2.2.2.2.2.1 o_seen o_toldParts o_depth o_counted o_becameThen o_firstCorner o_drawn o_ranSteps o_isTold o_marks u.2.2.2.2.2.2.2 o_names o_text) u.1 := by
  refine ctI (by decide) (Nat.le_of_ble_eq_true rfl) ?_
  intro p e s m below meth cd A ls aa QQ hq cx hP hD hS hl
  obtain ⟨⟨hx, hb, hml, hown, hts⟩, hr, hlocks, hK, hA, hX⟩ := id cx
  have hl : lv_has ls 3 [(0, .ref a_o), (1, .int v1), (2, .int v2)] := hl
  have hj123 : ∀ (o_token_j123 : Int32) (o_from_j123 : Int32) (o_end_j123 : Int32) (o_value_j123 : Int32) (o_faultPlace_j123 : Int32) (o_faults_j123 : Int32) (o_at_j123 : Nat → Int32) (H : Heap) (locs : List Loc) (ls : Array Slot), X12_weekOrder_j123 F o_size o_token_j123 o_from_j123 o_end_j123 o_value_j123 o_faultPlace_j123 o_faults_j123 o_at_j123 o_names o_text = some u → va_P E.1 vwCl (wd_X12_weekOrder E a_o a_o_at a_o_names a_o_sort a_o_trayMany a_o_trays a_o_tape a_o_text a_o_opened a_o_farBy a_o_attendsBy a_o_coveredBy a_o_cameBy a_o_cameThen a_o_fallsBy a_o_loops a_o_ran a_o_told1 o_status o_top o_bottom o_taped o_size o_token_j123 o_from_j123 o_end_j123 o_value_j123 o_faultKind o_faultPlace_j123 o_faults_j123 o_seen o_toldParts o_depth o_counted o_becameThen o_firstCorner o_drawn o_ranSteps o_isTold o_marks o_at_j123 o_names o_text) H → va_D A (wd_X12_weekOrder E a_o a_o_at a_o_names a_o_sort a_o_trayMany a_o_trays a_o_tape a_o_text a_o_opened a_o_farBy a_o_attendsBy a_o_coveredBy a_o_cameBy a_o_cameThen a_o_fallsBy a_o_loops a_o_ran a_o_told1 o_status o_top o_bottom o_taped o_size o_token_j123 o_from_j123 o_end_j123 o_value_j123 o_faultKind o_faultPlace_j123 o_faults_j123 o_seen o_toldParts o_depth o_counted o_becameThen o_firstCorner o_drawn o_ranSteps o_isTold o_marks o_at_j123 o_names o_text) → va_S A s.heap H locs → lv_has ls 3 [] → W p l e (rmd 9) s m aa below meth cd H locs 0 0 QQ (F0 m 123 ls []) := by
    intro o_token_j123 o_from_j123 o_end_j123 o_value_j123 o_faultPlace_j123 o_faults_j123 o_at_j123 H locs ls hf hP hD hS hl
    unfold X12_weekOrder_j123 at hf
    refine lv_iconst (v := 0) hx hb dX12_weekOrder_123 (by decide) ?_
    obtain rfl := Option.some.inj hf
    subst hq
    exact retZ cx rfl hP hD hS dX12_weekOrder_124
  have hj94 : ∀ (o_token_j94 : Int32) (o_from_j94 : Int32) (o_end_j94 : Int32) (o_value_j94 : Int32) (o_faultPlace_j94 : Int32) (o_faults_j94 : Int32) (o_at_j94 : Nat → Int32) (H : Heap) (locs : List Loc) (ls : Array Slot), X12_weekOrder_j94 F o_size o_token_j94 o_from_j94 o_end_j94 o_value_j94 o_faultPlace_j94 o_faults_j94 o_at_j94 o_names o_text = some u → va_P E.1 vwCl (wd_X12_weekOrder E a_o a_o_at a_o_names a_o_sort a_o_trayMany a_o_trays a_o_tape a_o_text a_o_opened a_o_farBy a_o_attendsBy a_o_coveredBy a_o_cameBy a_o_cameThen a_o_fallsBy a_o_loops a_o_ran a_o_told1 o_status o_top o_bottom o_taped o_size o_token_j94 o_from_j94 o_end_j94 o_value_j94 o_faultKind o_faultPlace_j94 o_faults_j94 o_seen o_toldParts o_depth o_counted o_becameThen o_firstCorner o_drawn o_ranSteps o_isTold o_marks o_at_j94 o_names o_text) H → va_D A (wd_X12_weekOrder E a_o a_o_at a_o_names a_o_sort a_o_trayMany a_o_trays a_o_tape a_o_text a_o_opened a_o_farBy a_o_attendsBy a_o_coveredBy a_o_cameBy a_o_cameThen a_o_fallsBy a_o_loops a_o_ran a_o_told1 o_status o_top o_bottom o_taped o_size o_token_j94 o_from_j94 o_end_j94 o_value_j94 o_faultKind o_faultPlace_j94 o_faults_j94 o_seen o_toldParts o_depth o_counted o_becameThen o_firstCorner o_drawn o_ranSteps o_isTold o_marks o_at_j94 o_names o_text) → va_S A s.heap H locs → lv_has ls 3 [] → W p l e (rmd 9) s m aa below meth cd H locs 0 0 QQ (F0 m 94 ls []) := by
    intro o_token_j94 o_from_j94 o_end_j94 o_value_j94 o_faultPlace_j94 o_faults_j94 o_at_j94 H locs ls hf hP hD hS hl
    unfold X12_weekOrder_j94 at hf
    refine lv_iconst (v := 0) hx hb dX12_weekOrder_94 (by decide) ?_
    obtain rfl := Option.some.inj hf
    subst hq
    exact retZ cx rfl hP hD hS dX12_weekOrder_95
  unfold X12_weekOrder at hf
  refine lv_iload_n hx hb dX12_weekOrder_0 rfl (lv_at hl 1 rfl) ?_
  by_cases hc12 : v1 = 11
  · have hf := it_t hc12 hf
    refine swT (tgt := 48) 0 cx dX12_weekOrder_1 (by rw [hc12]; decide) (by decide) rfl (by decide) ?_
    refine lv_aload_n hx hb dX12_weekOrder_48 rfl (lv_at hl 0 rfl) ?_
    refine lv_iload_n hx hb dX12_weekOrder_49 rfl (lv_at hl 2 rfl) ?_
    refine lv_iconst (v := 1) hx hb dX12_weekOrder_50 (by decide) ?_
    refine lv_iadd hx hb dX12_weekOrder_51 ?_
    refine lv_iconst (v := 1) hx hb dX12_weekOrder_52 (by decide) ?_
    refine lv_bipush (v := 48) hx hb dX12_weekOrder_53 (by decide) ?_
    obtain ⟨u55, hu55, hf⟩ := bd hf
    refine callVI (wn := (wd_X12_weekOrder E a_o a_o_at a_o_names a_o_sort a_o_trayMany a_o_trays a_o_tape a_o_text a_o_opened a_o_farBy a_o_attendsBy a_o_coveredBy a_o_cameBy a_o_cameThen a_o_fallsBy a_o_loops a_o_ran a_o_told1 o_status o_top o_bottom o_taped o_size u55.2.1 u55.2.2.1 u55.2.2.2.1 u55.2.2.2.2.1 o_faultKind u55.2.2.2.2.2.1 u55.2.2.2.2.2.2.1 o_seen o_toldParts o_depth o_counted o_becameThen o_firstCorner o_drawn o_ranSteps o_isTold o_marks u55.2.2.2.2.2.2.2 o_names o_text)) (n1 := 4) (ct_X12_number l E F a_o a_o_at a_o_names a_o_sort a_o_trayMany a_o_trays a_o_tape a_o_text a_o_opened a_o_farBy a_o_attendsBy a_o_coveredBy a_o_cameBy a_o_cameThen a_o_fallsBy a_o_loops a_o_ran a_o_told1 o_status o_top o_bottom o_taped o_size o_token o_from o_end o_value o_faultKind o_faultPlace o_faults o_seen o_toldParts o_depth o_counted o_becameThen o_firstCorner o_drawn o_ranSteps o_isTold o_marks o_at o_text (v2 + 1) (1 : Int32) (48 : Int32) u55 hu55) [0, 1, 3] cal_X12_number cav_X12_number lk_X12_208 cx hP hD hS hl dX12_weekOrder_55 rfl rfl rfl rfl (Nat.le_of_ble_eq_true rfl) ⟨Nat.le_of_ble_eq_true rfl, Nat.le_of_ble_eq_true rfl⟩ rfl (by decide +kernel) rfl [some 0, some 1, none, some 2] rfl (by decide +kernel) rfl (fun H locs hP hD hS => ?_)
    obtain ⟨hz, hf⟩ := ck hf
    obtain rfl := Option.some.inj hf
    subst hq
    exact retZ cx hz hP hD hS dX12_weekOrder_58
  · have hf := it_f hc12 hf
    by_cases hc15 : v1 = 14
    · have hf := it_t hc15 hf
      refine swT (tgt := 70) 3 cx dX12_weekOrder_1 (by rw [hc15]; decide) (by decide) rfl (by decide) ?_
      refine lv_aload_n hx hb dX12_weekOrder_70 rfl (lv_at hl 0 rfl) ?_
      refine lv_iload_n hx hb dX12_weekOrder_71 rfl (lv_at hl 2 rfl) ?_
      refine lv_iconst (v := 1) hx hb dX12_weekOrder_72 (by decide) ?_
      refine lv_iadd hx hb dX12_weekOrder_73 ?_
      obtain ⟨u74, hu74, hf⟩ := bd hf
      refine callVI (wn := (wd_X12_weekOrder E a_o a_o_at a_o_names a_o_sort a_o_trayMany a_o_trays a_o_tape a_o_text a_o_opened a_o_farBy a_o_attendsBy a_o_coveredBy a_o_cameBy a_o_cameThen a_o_fallsBy a_o_loops a_o_ran a_o_told1 o_status o_top o_bottom o_taped o_size u74.2.1 u74.2.2.1 u74.2.2.2.1 u74.2.2.2.2.1 o_faultKind u74.2.2.2.2.2.1 u74.2.2.2.2.2.2.1 o_seen o_toldParts o_depth o_counted o_becameThen o_firstCorner o_drawn o_ranSteps o_isTold o_marks u74.2.2.2.2.2.2.2 o_names o_text)) (n1 := 4) (ct_X12_extraTo l E F a_o a_o_at a_o_names a_o_sort a_o_trayMany a_o_trays a_o_tape a_o_text a_o_opened a_o_farBy a_o_attendsBy a_o_coveredBy a_o_cameBy a_o_cameThen a_o_fallsBy a_o_loops a_o_ran a_o_told1 o_status o_top o_bottom o_taped o_size o_token o_from o_end o_value o_faultKind o_faultPlace o_faults o_seen o_toldParts o_depth o_counted o_becameThen o_firstCorner o_drawn o_ranSteps o_isTold o_marks o_at o_names o_text (v2 + 1) u74 hu74) [0, 1, 2, 3] cal_X12_extraTo cav_X12_extraTo lk_X12_257 cx hP hD hS hl dX12_weekOrder_74 rfl rfl rfl rfl (Nat.le_of_ble_eq_true rfl) ⟨Nat.le_of_ble_eq_true rfl, Nat.le_of_ble_eq_true rfl⟩ rfl (by decide +kernel) rfl [some 0, some 1, some 2, some 3] rfl (by decide +kernel) rfl (fun H locs hP hD hS => ?_)
      refine lv_if_eq (tgt := 94) hx hb dX12_weekOrder_77 (by decide) (fun hc => ?_) (fun hc => ?_)
      · have hf := it_t hc hf
        exact hj94 _ _ _ _ _ _ _ _ _ _ hf hP hD hS (lv_sub hl [] rfl)
      · have hf := it_f hc hf
        refine lv_aload_n hx hb dX12_weekOrder_80 rfl (lv_at hl 0 rfl) ?_
        refine lv_iload_n hx hb dX12_weekOrder_81 rfl (lv_at hl 2 rfl) ?_
        refine lv_iconst (v := 2) hx hb dX12_weekOrder_82 (by decide) ?_
        refine lv_iadd hx hb dX12_weekOrder_83 ?_
        obtain ⟨u84, hu84, hf⟩ := bd hf
        refine callVI (wn := (wd_X12_weekOrder E a_o a_o_at a_o_names a_o_sort a_o_trayMany a_o_trays a_o_tape a_o_text a_o_opened a_o_farBy a_o_attendsBy a_o_coveredBy a_o_cameBy a_o_cameThen a_o_fallsBy a_o_loops a_o_ran a_o_told1 o_status o_top o_bottom o_taped o_size u84.2.1 u84.2.2.1 u84.2.2.2.1 u84.2.2.2.2.1 o_faultKind u84.2.2.2.2.2.1 u84.2.2.2.2.2.2.1 o_seen o_toldParts o_depth o_counted o_becameThen o_firstCorner o_drawn o_ranSteps o_isTold o_marks u84.2.2.2.2.2.2.2 o_names o_text)) (n1 := 4) (ct_X12_happeningTo l E F a_o a_o_at a_o_names a_o_sort a_o_trayMany a_o_trays a_o_tape a_o_text a_o_opened a_o_farBy a_o_attendsBy a_o_coveredBy a_o_cameBy a_o_cameThen a_o_fallsBy a_o_loops a_o_ran a_o_told1 o_status o_top o_bottom o_taped o_size u74.2.1 u74.2.2.1 u74.2.2.2.1 u74.2.2.2.2.1 o_faultKind u74.2.2.2.2.2.1 u74.2.2.2.2.2.2.1 o_seen o_toldParts o_depth o_counted o_becameThen o_firstCorner o_drawn o_ranSteps o_isTold o_marks u74.2.2.2.2.2.2.2 o_names o_text (v2 + 2) u84 hu84) [0, 1, 2, 3] cal_X12_happeningTo cav_X12_happeningTo lk_X12_254 cx hP hD hS hl dX12_weekOrder_84 rfl rfl rfl rfl (Nat.le_of_ble_eq_true rfl) ⟨Nat.le_of_ble_eq_true rfl, Nat.le_of_ble_eq_true rfl⟩ rfl (by decide +kernel) rfl [some 0, some 1, some 2, some 3] rfl (by decide +kernel) rfl (fun H locs hP hD hS => ?_)
        refine lv_if_eq (tgt := 94) hx hb dX12_weekOrder_87 (by decide) (fun hc => ?_) (fun hc => ?_)
        · have hf := it_t hc hf
          exact hj94 _ _ _ _ _ _ _ _ _ _ hf hP hD hS (lv_sub hl [] rfl)
        · have hf := it_f hc hf
          refine lv_iconst (v := 1) hx hb dX12_weekOrder_90 (by decide) ?_
          refine lv_goto (tgt := 95) hx hb dX12_weekOrder_91 (by decide) ?_
          obtain rfl := Option.some.inj hf
          subst hq
          exact retZ cx rfl hP hD hS dX12_weekOrder_95
    · have hf := it_f hc15 hf
      by_cases hc16 : v1 = 15
      · have hf := it_t hc16 hf
        refine swT (tgt := 96) 4 cx dX12_weekOrder_1 (by rw [hc16]; decide) (by decide) rfl (by decide) ?_
        refine lv_aload_n hx hb dX12_weekOrder_96 rfl (lv_at hl 0 rfl) ?_
        refine lv_iload_n hx hb dX12_weekOrder_97 rfl (lv_at hl 2 rfl) ?_
        refine lv_iconst (v := 1) hx hb dX12_weekOrder_98 (by decide) ?_
        refine lv_iadd hx hb dX12_weekOrder_99 ?_
        obtain ⟨u100, hu100, hf⟩ := bd hf
        refine callVI (wn := (wd_X12_weekOrder E a_o a_o_at a_o_names a_o_sort a_o_trayMany a_o_trays a_o_tape a_o_text a_o_opened a_o_farBy a_o_attendsBy a_o_coveredBy a_o_cameBy a_o_cameThen a_o_fallsBy a_o_loops a_o_ran a_o_told1 o_status o_top o_bottom o_taped o_size u100.2.1 u100.2.2.1 u100.2.2.2.1 u100.2.2.2.2.1 o_faultKind u100.2.2.2.2.2.1 u100.2.2.2.2.2.2.1 o_seen o_toldParts o_depth o_counted o_becameThen o_firstCorner o_drawn o_ranSteps o_isTold o_marks u100.2.2.2.2.2.2.2 o_names o_text)) (n1 := 4) (ct_X12_happeningTo l E F a_o a_o_at a_o_names a_o_sort a_o_trayMany a_o_trays a_o_tape a_o_text a_o_opened a_o_farBy a_o_attendsBy a_o_coveredBy a_o_cameBy a_o_cameThen a_o_fallsBy a_o_loops a_o_ran a_o_told1 o_status o_top o_bottom o_taped o_size o_token o_from o_end o_value o_faultKind o_faultPlace o_faults o_seen o_toldParts o_depth o_counted o_becameThen o_firstCorner o_drawn o_ranSteps o_isTold o_marks o_at o_names o_text (v2 + 1) u100 hu100) [0, 1, 2, 3] cal_X12_happeningTo cav_X12_happeningTo lk_X12_254 cx hP hD hS hl dX12_weekOrder_100 rfl rfl rfl rfl (Nat.le_of_ble_eq_true rfl) ⟨Nat.le_of_ble_eq_true rfl, Nat.le_of_ble_eq_true rfl⟩ rfl (by decide +kernel) rfl [some 0, some 1, some 2, some 3] rfl (by decide +kernel) rfl (fun H locs hP hD hS => ?_)
        refine lv_if_eq (tgt := 123) hx hb dX12_weekOrder_103 (by decide) (fun hc => ?_) (fun hc => ?_)
        · have hf := it_t hc hf
          exact hj123 _ _ _ _ _ _ _ _ _ _ hf hP hD hS (lv_sub hl [] rfl)
        · have hf := it_f hc hf
          refine lv_aload_n hx hb dX12_weekOrder_106 rfl (lv_at hl 0 rfl) ?_
          refine lv_iload_n hx hb dX12_weekOrder_107 rfl (lv_at hl 2 rfl) ?_
          refine lv_iconst (v := 2) hx hb dX12_weekOrder_108 (by decide) ?_
          refine lv_iadd hx hb dX12_weekOrder_109 ?_
          refine lv_iconst (v := 1) hx hb dX12_weekOrder_110 (by decide) ?_
          refine lv_bipush (v := 99) hx hb dX12_weekOrder_111 (by decide) ?_
          obtain ⟨u113, hu113, hf⟩ := bd hf
          refine callVI (wn := (wd_X12_weekOrder E a_o a_o_at a_o_names a_o_sort a_o_trayMany a_o_trays a_o_tape a_o_text a_o_opened a_o_farBy a_o_attendsBy a_o_coveredBy a_o_cameBy a_o_cameThen a_o_fallsBy a_o_loops a_o_ran a_o_told1 o_status o_top o_bottom o_taped o_size u113.2.1 u113.2.2.1 u113.2.2.2.1 u113.2.2.2.2.1 o_faultKind u113.2.2.2.2.2.1 u113.2.2.2.2.2.2.1 o_seen o_toldParts o_depth o_counted o_becameThen o_firstCorner o_drawn o_ranSteps o_isTold o_marks u113.2.2.2.2.2.2.2 o_names o_text)) (n1 := 4) (ct_X12_number l E F a_o a_o_at a_o_names a_o_sort a_o_trayMany a_o_trays a_o_tape a_o_text a_o_opened a_o_farBy a_o_attendsBy a_o_coveredBy a_o_cameBy a_o_cameThen a_o_fallsBy a_o_loops a_o_ran a_o_told1 o_status o_top o_bottom o_taped o_size u100.2.1 u100.2.2.1 u100.2.2.2.1 u100.2.2.2.2.1 o_faultKind u100.2.2.2.2.2.1 u100.2.2.2.2.2.2.1 o_seen o_toldParts o_depth o_counted o_becameThen o_firstCorner o_drawn o_ranSteps o_isTold o_marks u100.2.2.2.2.2.2.2 o_text (v2 + 2) (1 : Int32) (99 : Int32) u113 hu113) [0, 1, 3] cal_X12_number cav_X12_number lk_X12_208 cx hP hD hS hl dX12_weekOrder_113 rfl rfl rfl rfl (Nat.le_of_ble_eq_true rfl) ⟨Nat.le_of_ble_eq_true rfl, Nat.le_of_ble_eq_true rfl⟩ rfl (by decide +kernel) rfl [some 0, some 1, none, some 2] rfl (by decide +kernel) rfl (fun H locs hP hD hS => ?_)
          refine lv_if_eq (tgt := 123) hx hb dX12_weekOrder_116 (by decide) (fun hc => ?_) (fun hc => ?_)
          · have hf := it_t hc hf
            exact hj123 _ _ _ _ _ _ _ _ _ _ hf hP hD hS (lv_sub hl [] rfl)
          · have hf := it_f hc hf
            refine lv_iconst (v := 1) hx hb dX12_weekOrder_119 (by decide) ?_
            refine lv_goto (tgt := 124) hx hb dX12_weekOrder_120 (by decide) ?_
            obtain rfl := Option.some.inj hf
            subst hq
            exact retZ cx rfl hP hD hS dX12_weekOrder_124
      · have hf := it_f hc16 hf
        by_cases hc18 : v1 = 17
        · have hf := it_t hc18 hf
          refine swT (tgt := 125) 6 cx dX12_weekOrder_1 (by rw [hc18]; decide) (by decide) rfl (by decide) ?_
          refine lv_aload_n hx hb dX12_weekOrder_125 rfl (lv_at hl 0 rfl) ?_
          refine lv_iload_n hx hb dX12_weekOrder_126 rfl (lv_at hl 2 rfl) ?_
          obtain ⟨u127, hu127, hf⟩ := bd hf
          refine callVI (wn := (wd_X12_weekOrder E a_o a_o_at a_o_names a_o_sort a_o_trayMany a_o_trays a_o_tape a_o_text a_o_opened a_o_farBy a_o_attendsBy a_o_coveredBy a_o_cameBy a_o_cameThen a_o_fallsBy a_o_loops a_o_ran a_o_told1 o_status o_top o_bottom o_taped o_size u127.2.1 u127.2.2.1 u127.2.2.2.1 u127.2.2.2.2.1 o_faultKind u127.2.2.2.2.2.1 u127.2.2.2.2.2.2.1 o_seen o_toldParts o_depth o_counted o_becameThen o_firstCorner o_drawn o_ranSteps o_isTold o_marks u127.2.2.2.2.2.2.2 o_names o_text)) (n1 := 4) (ct_X12_test l E F a_o a_o_at a_o_names a_o_sort a_o_trayMany a_o_trays a_o_tape a_o_text a_o_opened a_o_farBy a_o_attendsBy a_o_coveredBy a_o_cameBy a_o_cameThen a_o_fallsBy a_o_loops a_o_ran a_o_told1 o_status o_top o_bottom o_taped o_size o_token o_from o_end o_value o_faultKind o_faultPlace o_faults o_seen o_toldParts o_depth o_counted o_becameThen o_firstCorner o_drawn o_ranSteps o_isTold o_marks o_at o_names o_text v2 u127 hu127) [0, 1, 2, 3] cal_X12_test cav_X12_test lk_X12_260 cx hP hD hS hl dX12_weekOrder_127 rfl rfl rfl rfl (Nat.le_of_ble_eq_true rfl) ⟨Nat.le_of_ble_eq_true rfl, Nat.le_of_ble_eq_true rfl⟩ rfl (by decide +kernel) rfl [some 0, some 1, some 2, some 3] rfl (by decide +kernel) rfl (fun H locs hP hD hS => ?_)
          obtain ⟨hz, hf⟩ := ck hf
          obtain rfl := Option.some.inj hf
          subst hq
          exact retZ cx hz hP hD hS dX12_weekOrder_130
        · have hf := it_f hc18 hf
          by_cases hc19 : v1 = 18
          · have hf := it_t hc19 hf
            refine swT (tgt := 59) 7 cx dX12_weekOrder_1 (by rw [hc19]; decide) (by decide) rfl (by decide) ?_
            refine lv_aload_n hx hb dX12_weekOrder_59 rfl (lv_at hl 0 rfl) ?_
            refine lv_iload_n hx hb dX12_weekOrder_60 rfl (lv_at hl 2 rfl) ?_
            refine lv_iconst (v := 1) hx hb dX12_weekOrder_61 (by decide) ?_
            refine lv_iadd hx hb dX12_weekOrder_62 ?_
            refine lv_iconst (v := 1) hx hb dX12_weekOrder_63 (by decide) ?_
            refine lv_bipush (v := 99) hx hb dX12_weekOrder_64 (by decide) ?_
            obtain ⟨u66, hu66, hf⟩ := bd hf
            refine callVI (wn := (wd_X12_weekOrder E a_o a_o_at a_o_names a_o_sort a_o_trayMany a_o_trays a_o_tape a_o_text a_o_opened a_o_farBy a_o_attendsBy a_o_coveredBy a_o_cameBy a_o_cameThen a_o_fallsBy a_o_loops a_o_ran a_o_told1 o_status o_top o_bottom o_taped o_size u66.2.1 u66.2.2.1 u66.2.2.2.1 u66.2.2.2.2.1 o_faultKind u66.2.2.2.2.2.1 u66.2.2.2.2.2.2.1 o_seen o_toldParts o_depth o_counted o_becameThen o_firstCorner o_drawn o_ranSteps o_isTold o_marks u66.2.2.2.2.2.2.2 o_names o_text)) (n1 := 4) (ct_X12_number l E F a_o a_o_at a_o_names a_o_sort a_o_trayMany a_o_trays a_o_tape a_o_text a_o_opened a_o_farBy a_o_attendsBy a_o_coveredBy a_o_cameBy a_o_cameThen a_o_fallsBy a_o_loops a_o_ran a_o_told1 o_status o_top o_bottom o_taped o_size o_token o_from o_end o_value o_faultKind o_faultPlace o_faults o_seen o_toldParts o_depth o_counted o_becameThen o_firstCorner o_drawn o_ranSteps o_isTold o_marks o_at o_text (v2 + 1) (1 : Int32) (99 : Int32) u66 hu66) [0, 1, 3] cal_X12_number cav_X12_number lk_X12_208 cx hP hD hS hl dX12_weekOrder_66 rfl rfl rfl rfl (Nat.le_of_ble_eq_true rfl) ⟨Nat.le_of_ble_eq_true rfl, Nat.le_of_ble_eq_true rfl⟩ rfl (by decide +kernel) rfl [some 0, some 1, none, some 2] rfl (by decide +kernel) rfl (fun H locs hP hD hS => ?_)
            obtain ⟨hz, hf⟩ := ck hf
            obtain rfl := Option.some.inj hf
            subst hq
            exact retZ cx hz hP hD hS dX12_weekOrder_69
          · have hf := it_f hc19 hf
            refine swD (tgt := 131) [11, 14, 15, 17, 18] cx dX12_weekOrder_1 ?_ (by decide) (by decide) ?_
            · intro z hz
              simp only [List.mem_cons, List.not_mem_nil, or_false] at hz
              rcases hz with rfl | rfl | rfl | rfl | rfl
              · exact ne_int hc12 (by decide)
              · exact ne_int hc15 (by decide)
              · exact ne_int hc16 (by decide)
              · exact ne_int hc18 (by decide)
              · exact ne_int hc19 (by decide)
            · refine lv_iconst (v := 1) hx hb dX12_weekOrder_131 (by decide) ?_
              obtain rfl := Option.some.inj hf
              subst hq
              exact retZ cx rfl hP hD hS dX12_weekOrder_132
def X12_weekStep_j285 (F : Nat) (o_size : Int32) (o_token : Int32) (o_from : Int32) (o_end : Int32) (o_value : Int32) (o_faultPlace : Int32) (o_faults : Int32) (o_depth : Int32) (o_counted : Int32) (o_at : Nat → Int32) (o_names : Nat → Int64) (o_text : Nat → Int32) (o_opened : Nat → Int32) : Option (vS) :=
  (X12_wantSign F o_size o_token o_from o_end o_value o_faultPlace o_faults o_text (59 : Int32)).bind fun u288 =>
  if isZ u288.1 then some (mkS [u288.1, u288.2.1, u288.2.2.1, u288.2.2.2.1, u288.2.2.2.2.1, u288.2.2.2.2.2.1, u288.2.2.2.2.2.2, o_depth, o_counted] [] [o_at, o_opened] []) else none
def X12_weekStep_j228 (F : Nat) (o_size : Int32) (o_token : Int32) (o_from : Int32) (o_end : Int32) (o_value : Int32) (o_faultPlace : Int32) (o_faults : Int32) (o_depth : Int32) (o_counted : Int32) (o_at : Nat → Int32) (o_names : Nat → Int64) (o_text : Nat → Int32) (o_opened : Nat → Int32) (v1 : Int32) (v2 : Int32) (v3 : Int32) : Option (vS) :=
  if v1 = 19 then
  if ix (o_depth - 1) 3 then
  if ix (v3 + 4) 3097 then
  if ix (o_depth - 1) 3 then
  if ix ((2107 + (6 * (jat o_opened (o_depth - 1)))) + 4) 3097 then
  X12_weekStep_j285 F o_size o_token o_from o_end o_value o_faultPlace o_faults (o_depth - 1) o_counted (jput (jput o_at (v3 + 4) (jat o_opened (o_depth - 1))) ((2107 + (6 * (jat o_opened (o_depth - 1)))) + 4) v2) o_names o_text o_opened
  else none
  else none
  else none
  else none
  else
  X12_weekStep_j285 F o_size o_token o_from o_end o_value o_faultPlace o_faults o_depth o_counted o_at o_names o_text o_opened
def X12_weekStep_b153 (F : Nat) (o_size : Int32) (o_token : Int32) (o_from : Int32) (o_end : Int32) (o_value : Int32) (o_faultPlace : Int32) (o_faults : Int32) (o_depth : Int32) (o_counted : Int32) (o_names : Nat → Int64) (o_text : Nat → Int32) (o_opened : Nat → Int32) (v1 : Int32) (v2 : Int32) (v3 : Int32) (v4 : Int32) (st153 : Int32 × (Nat → Int32)) : Option ((Int32 × (Nat → Int32)) ⊕ (((Nat → Int32)))) :=
  if (6 : Int32) ≤ st153.1 then
  some (.inr st153.2)
  else
  if ix (v3 + st153.1) 3097 then
  some (.inl ((st153.1 + 1), (jput st153.2 (v3 + st153.1) 0)))
  else none
def X12_weekStep_j139 (F : Nat) (o_size : Int32) (o_token : Int32) (o_from : Int32) (o_end : Int32) (o_value : Int32) (o_faultPlace : Int32) (o_faults : Int32) (o_depth : Int32) (o_counted : Int32) (o_at : Nat → Int32) (o_names : Nat → Int64) (o_text : Nat → Int32) (o_opened : Nat → Int32) (v1 : Int32) (v2 : Int32) (v3 : Int32) (v4 : Int32) (k0 : Int32) (k1 : Int32) : Option (vS) :=
  if ix v3 3097 then
  (iter (X12_weekStep_b153 F o_size o_token o_from o_end o_value o_faultPlace o_faults o_depth (k1 + k0) o_names o_text o_opened v1 v2 v3 v4) F (1, (jput o_at v3 v1))).bind (fun (e153 : (Nat → Int32)) =>
    if ix 1989 3097 then
  if ix 1989 3097 then
  (X12_ahead F o_size o_token o_from o_end o_value o_text).bind fun u189 =>
  (X12_weekOrder F o_size u189.1 u189.2.1 u189.2.2.1 u189.2.2.2 o_faultPlace o_faults (jput e153 1989 ((jat e153 1989) + 1)) o_names o_text v1 v3).bind fun u195 =>
  if u195.1 = 0 then
  some (mkS [0, u195.2.1, u195.2.2.1, u195.2.2.2.1, u195.2.2.2.2.1, u195.2.2.2.2.2.1, u195.2.2.2.2.2.2.1, o_depth, (k1 + k0)] [] [u195.2.2.2.2.2.2.2, o_opened] [])
  else
  if v4 = 0 then
  X12_weekStep_j228 F o_size u195.2.1 u195.2.2.1 u195.2.2.2.1 u195.2.2.2.2.1 u195.2.2.2.2.2.1 u195.2.2.2.2.2.2.1 o_depth (k1 + k0) u195.2.2.2.2.2.2.2 o_names o_text o_opened v1 v2 v3
  else
  if ix o_depth 3 then
  X12_weekStep_j228 F o_size u195.2.1 u195.2.2.1 u195.2.2.2.1 u195.2.2.2.2.1 u195.2.2.2.2.2.1 u195.2.2.2.2.2.2.1 (o_depth + 1) (k1 + k0) u195.2.2.2.2.2.2.2 o_names o_text (jput o_opened o_depth v2) v1 v2 v3
  else none
  else none
  else none)
  else none
def X12_weekStep_j123 (F : Nat) (o_size : Int32) (o_token : Int32) (o_from : Int32) (o_end : Int32) (o_value : Int32) (o_faultPlace : Int32) (o_faults : Int32) (o_depth : Int32) (o_counted : Int32) (o_at : Nat → Int32) (o_names : Nat → Int64) (o_text : Nat → Int32) (o_opened : Nat → Int32) (v1 : Int32) (v2 : Int32) (v3 : Int32) (v4 : Int32) : Option (vS) :=
  if v1 = 19 then
  X12_weekStep_j139 F o_size o_token o_from o_end o_value o_faultPlace o_faults o_depth o_counted o_at o_names o_text o_opened v1 v2 v3 v4 0 o_counted
  else
  X12_weekStep_j139 F o_size o_token o_from o_end o_value o_faultPlace o_faults o_depth o_counted o_at o_names o_text o_opened v1 v2 v3 v4 1 o_counted
def X12_weekStep_j103 (F : Nat) (o_size : Int32) (o_token : Int32) (o_from : Int32) (o_end : Int32) (o_value : Int32) (o_faultPlace : Int32) (o_faults : Int32) (o_depth : Int32) (o_counted : Int32) (o_at : Nat → Int32) (o_names : Nat → Int64) (o_text : Nat → Int32) (o_opened : Nat → Int32) (v1 : Int32) (v2 : Int32) (v3 : Int32) (v4 : Int32) : Option (vS) :=
  if v4 = 0 then
  X12_weekStep_j123 F o_size o_token o_from o_end o_value o_faultPlace o_faults o_depth o_counted o_at o_names o_text o_opened v1 v2 v3 v4
  else
  if o_depth = 3 then
  (X12_fails o_token o_from o_faultPlace o_faults (7 : Int32)).bind fun u119 =>
  if isZ u119.1 then some (mkS [u119.1, o_token, o_from, o_end, o_value, u119.2.1, u119.2.2, o_depth, o_counted] [] [o_at, o_opened] []) else none
  else
  X12_weekStep_j123 F o_size o_token o_from o_end o_value o_faultPlace o_faults o_depth o_counted o_at o_names o_text o_opened v1 v2 v3 v4
def X12_weekStep_j81 (F : Nat) (o_size : Int32) (o_token : Int32) (o_from : Int32) (o_end : Int32) (o_value : Int32) (o_faultPlace : Int32) (o_faults : Int32) (o_depth : Int32) (o_counted : Int32) (o_at : Nat → Int32) (o_names : Nat → Int64) (o_text : Nat → Int32) (o_opened : Nat → Int32) (v1 : Int32) (v2 : Int32) (v3 : Int32) (v4 : Int32) : Option (vS) :=
  if v1 = 19 then
  X12_weekStep_j103 F o_size o_token o_from o_end o_value o_faultPlace o_faults o_depth o_counted o_at o_names o_text o_opened v1 v2 v3 v4
  else
  if o_counted = 30 then
  (X12_fails o_token o_from o_faultPlace o_faults (6 : Int32)).bind fun u99 =>
  if isZ u99.1 then some (mkS [u99.1, o_token, o_from, o_end, o_value, u99.2.1, u99.2.2, o_depth, o_counted] [] [o_at, o_opened] []) else none
  else
  X12_weekStep_j103 F o_size o_token o_from o_end o_value o_faultPlace o_faults o_depth o_counted o_at o_names o_text o_opened v1 v2 v3 v4
def X12_weekStep_j75 (F : Nat) (o_size : Int32) (o_token : Int32) (o_from : Int32) (o_end : Int32) (o_value : Int32) (o_faultPlace : Int32) (o_faults : Int32) (o_depth : Int32) (o_counted : Int32) (o_at : Nat → Int32) (o_names : Nat → Int64) (o_text : Nat → Int32) (o_opened : Nat → Int32) : Option (vS) :=
  (X12_fails o_token o_from o_faultPlace o_faults (2 : Int32)).bind fun u77 =>
  if isZ u77.1 then some (mkS [u77.1, o_token, o_from, o_end, o_value, u77.2.1, u77.2.2, o_depth, o_counted] [] [o_at, o_opened] []) else none
def X12_weekStep_j62 (F : Nat) (o_size : Int32) (o_token : Int32) (o_from : Int32) (o_end : Int32) (o_value : Int32) (o_faultPlace : Int32) (o_faults : Int32) (o_depth : Int32) (o_counted : Int32) (o_at : Nat → Int32) (o_names : Nat → Int64) (o_text : Nat → Int32) (o_opened : Nat → Int32) (v1 : Int32) (v2 : Int32) (v3 : Int32) (v4 : Int32) : Option (vS) :=
  if v1 = 19 then
  if o_depth = 0 then
  X12_weekStep_j75 F o_size o_token o_from o_end o_value o_faultPlace o_faults o_depth o_counted o_at o_names o_text o_opened
  else
  X12_weekStep_j81 F o_size o_token o_from o_end o_value o_faultPlace o_faults o_depth o_counted o_at o_names o_text o_opened v1 v2 v3 v4
  else
  X12_weekStep_j81 F o_size o_token o_from o_end o_value o_faultPlace o_faults o_depth o_counted o_at o_names o_text o_opened v1 v2 v3 v4
def X12_weekStep_j42 (F : Nat) (o_size : Int32) (o_token : Int32) (o_from : Int32) (o_end : Int32) (o_value : Int32) (o_faultPlace : Int32) (o_faults : Int32) (o_depth : Int32) (o_counted : Int32) (o_at : Nat → Int32) (o_names : Nat → Int64) (o_text : Nat → Int32) (o_opened : Nat → Int32) (v1 : Int32) (v2 : Int32) (v3 : Int32) (k0 : Int32) : Option (vS) :=
  if v1 = 11 then
  X12_weekStep_j62 F o_size o_token o_from o_end o_value o_faultPlace o_faults o_depth o_counted o_at o_names o_text o_opened v1 v2 v3 k0
  else
  if v1 < 14 then
  X12_weekStep_j75 F o_size o_token o_from o_end o_value o_faultPlace o_faults o_depth o_counted o_at o_names o_text o_opened
  else
  if (20 : Int32) < v1 then
  X12_weekStep_j75 F o_size o_token o_from o_end o_value o_faultPlace o_faults o_depth o_counted o_at o_names o_text o_opened
  else
  X12_weekStep_j62 F o_size o_token o_from o_end o_value o_faultPlace o_faults o_depth o_counted o_at o_names o_text o_opened v1 v2 v3 k0
def X12_weekStep_j37 (F : Nat) (o_size : Int32) (o_token : Int32) (o_from : Int32) (o_end : Int32) (o_value : Int32) (o_faultPlace : Int32) (o_faults : Int32) (o_depth : Int32) (o_counted : Int32) (o_at : Nat → Int32) (o_names : Nat → Int64) (o_text : Nat → Int32) (o_opened : Nat → Int32) (v1 : Int32) (v2 : Int32) (v3 : Int32) : Option (vS) :=
  X12_weekStep_j42 F o_size o_token o_from o_end o_value o_faultPlace o_faults o_depth o_counted o_at o_names o_text o_opened v1 v2 v3 1
def X12_weekStep (F : Nat) (o_size : Int32) (o_token : Int32) (o_from : Int32) (o_end : Int32) (o_value : Int32) (o_faultPlace : Int32) (o_faults : Int32) (o_depth : Int32) (o_counted : Int32) (o_at : Nat → Int32) (o_names : Nat → Int64) (o_text : Nat → Int32) (o_opened : Nat → Int32) : Option (vS) :=
  (X12_inWords F o_size o_token o_from o_end o_text).bind fun u3 =>
  if ix 1989 3097 then
  if u3 = 17 then
  X12_weekStep_j37 F o_size o_token o_from o_end o_value o_faultPlace o_faults o_depth o_counted o_at o_names o_text o_opened u3 (jat o_at 1989) (2107 + (6 * (jat o_at 1989)))
  else
  if u3 = 18 then
  X12_weekStep_j37 F o_size o_token o_from o_end o_value o_faultPlace o_faults o_depth o_counted o_at o_names o_text o_opened u3 (jat o_at 1989) (2107 + (6 * (jat o_at 1989)))
  else
  X12_weekStep_j42 F o_size o_token o_from o_end o_value o_faultPlace o_faults o_depth o_counted o_at o_names o_text o_opened u3 (jat o_at 1989) (2107 + (6 * (jat o_at 1989))) 0
  else none
abbrev wd_X12_weekStep (E : vE) (a_o a_o_at a_o_names a_o_sort a_o_trayMany a_o_trays a_o_tape a_o_text a_o_opened a_o_farBy a_o_attendsBy a_o_coveredBy a_o_cameBy a_o_cameThen a_o_fallsBy a_o_loops a_o_ran a_o_told1 : Nat) (o_status : Int32) (o_top : Int64) (o_bottom : Int64) (o_taped : Int32) (o_size : Int32) (o_token : Int32) (o_from : Int32) (o_end : Int32) (o_value : Int32) (o_faultKind : Int32) (o_faultPlace : Int32) (o_faults : Int32) (o_seen : Int32) (o_toldParts : Int32) (o_depth : Int32) (o_counted : Int32) (o_becameThen : Int32) (o_firstCorner : Int32) (o_drawn : Int32) (o_ranSteps : Int32) (o_isTold : Int32) (o_marks : Int32) (o_at : Nat → Int32) (o_names : Nat → Int64) (o_text : Nat → Int32) (o_opened : Nat → Int32) : va_W := [(a_o, .inr (12, [.ref a_o_at, .ref a_o_names, .int o_status, .long o_top, .long o_bottom, .ref a_o_sort, .ref a_o_trayMany, .ref a_o_trays, .ref a_o_tape, .ref a_o_text, .int o_taped, .int o_size, .int o_token, .int o_from, .int o_end, .int o_value, .int o_faultKind, .int o_faultPlace, .int o_faults, .int o_seen, .int o_toldParts, .ref a_o_opened, .int o_depth, .int o_counted, .ref a_o_farBy, .int o_becameThen, .ref a_o_attendsBy, .ref a_o_coveredBy, .ref a_o_cameBy, .ref a_o_cameThen, .int o_firstCorner, .ref a_o_fallsBy, .int o_drawn, .int o_ranSteps, .ref a_o_loops, .ref a_o_ran, .ref a_o_told1, .int o_isTold, .int o_marks])), (a_o_at, .inl (E.2.1, 3097, .inl o_at)), (a_o_names, .inl (E.2.2.1, 162, .inr (.inl o_names))), (a_o_text, .inl (E.2.2.2.1, 900, .inl o_text)), (a_o_opened, .inl (E.2.1, 3, .inl o_opened))]
set_option maxHeartbeats 4000000 in
set_option maxRecDepth 100000 in
theorem ct_X12_weekStep (l : Launch) (E : vE) (F : Nat) (a_o a_o_at a_o_names a_o_sort a_o_trayMany a_o_trays a_o_tape a_o_text a_o_opened a_o_farBy a_o_attendsBy a_o_coveredBy a_o_cameBy a_o_cameThen a_o_fallsBy a_o_loops a_o_ran a_o_told1 : Nat) (o_status : Int32) (o_top : Int64) (o_bottom : Int64) (o_taped : Int32) (o_size : Int32) (o_token : Int32) (o_from : Int32) (o_end : Int32) (o_value : Int32) (o_faultKind : Int32) (o_faultPlace : Int32) (o_faults : Int32) (o_seen : Int32) (o_toldParts : Int32) (o_depth : Int32) (o_counted : Int32) (o_becameThen : Int32) (o_firstCorner : Int32) (o_drawn : Int32) (o_ranSteps : Int32) (o_isTold : Int32) (o_marks : Int32) (o_at : Nat → Int32) (o_names : Nat → Int64) (o_text : Nat → Int32) (o_opened : Nat → Int32) (u : vS) (hf : X12_weekStep F o_size o_token o_from o_end o_value o_faultPlace o_faults o_depth o_counted o_at o_names o_text o_opened = some u) :
    CtI l yX12_weekStep cX12_weekStep 6 (some .boolean) 10 E [.ref a_o] (wd_X12_weekStep E a_o a_o_at a_o_names a_o_sort a_o_trayMany a_o_trays a_o_tape a_o_text a_o_opened a_o_farBy a_o_attendsBy a_o_coveredBy a_o_cameBy a_o_cameThen a_o_fallsBy a_o_loops a_o_ran a_o_told1 o_status o_top o_bottom o_taped o_size o_token o_from o_end o_value o_faultKind o_faultPlace o_faults o_seen o_toldParts o_depth o_counted o_becameThen o_firstCorner o_drawn o_ranSteps o_isTold o_marks o_at o_names o_text o_opened) (wd_X12_weekStep E a_o a_o_at a_o_names a_o_sort a_o_trayMany a_o_trays a_o_tape a_o_text a_o_opened a_o_farBy a_o_attendsBy a_o_coveredBy a_o_cameBy a_o_cameThen a_o_fallsBy a_o_loops a_o_ran a_o_told1 o_status o_top o_bottom o_taped o_size (u.1 1) (u.1 2) (u.1 3) (u.1 4) o_faultKind (u.1 5) (u.1 6) o_seen o_toldParts (u.1 7) (u.1 8) o_becameThen o_firstCorner o_drawn o_ranSteps o_isTold o_marks (u.2.2.1 0) o_names o_text (u.2.2.1 1)) (u.1 0) := by
  refine ctI (by decide) (Nat.le_of_ble_eq_true rfl) ?_
  intro p e s m below meth cd A ls aa QQ hq cx hP hD hS hl
  obtain ⟨⟨hx, hb, hml, hown, hts⟩, hr, hlocks, hK, hA, hX⟩ := id cx
  have hl : lv_has ls 6 [(0, .ref a_o)] := hl
  have hj285 : ∀ (o_token_j285 : Int32) (o_from_j285 : Int32) (o_end_j285 : Int32) (o_value_j285 : Int32) (o_faultPlace_j285 : Int32) (o_faults_j285 : Int32) (o_depth_j285 : Int32) (o_counted_j285 : Int32) (o_at_j285 : Nat → Int32) (o_opened_j285 : Nat → Int32) (H : Heap) (locs : List Loc) (ls : Array Slot), X12_weekStep_j285 F o_size o_token_j285 o_from_j285 o_end_j285 o_value_j285 o_faultPlace_j285 o_faults_j285 o_depth_j285 o_counted_j285 o_at_j285 o_names o_text o_opened_j285 = some u → va_P E.1 vwCl (wd_X12_weekStep E a_o a_o_at a_o_names a_o_sort a_o_trayMany a_o_trays a_o_tape a_o_text a_o_opened a_o_farBy a_o_attendsBy a_o_coveredBy a_o_cameBy a_o_cameThen a_o_fallsBy a_o_loops a_o_ran a_o_told1 o_status o_top o_bottom o_taped o_size o_token_j285 o_from_j285 o_end_j285 o_value_j285 o_faultKind o_faultPlace_j285 o_faults_j285 o_seen o_toldParts o_depth_j285 o_counted_j285 o_becameThen o_firstCorner o_drawn o_ranSteps o_isTold o_marks o_at_j285 o_names o_text o_opened_j285) H → va_D A (wd_X12_weekStep E a_o a_o_at a_o_names a_o_sort a_o_trayMany a_o_trays a_o_tape a_o_text a_o_opened a_o_farBy a_o_attendsBy a_o_coveredBy a_o_cameBy a_o_cameThen a_o_fallsBy a_o_loops a_o_ran a_o_told1 o_status o_top o_bottom o_taped o_size o_token_j285 o_from_j285 o_end_j285 o_value_j285 o_faultKind o_faultPlace_j285 o_faults_j285 o_seen o_toldParts o_depth_j285 o_counted_j285 o_becameThen o_firstCorner o_drawn o_ranSteps o_isTold o_marks o_at_j285 o_names o_text o_opened_j285) → va_S A s.heap H locs → lv_has ls 6 [(0, .ref a_o)] → W p l e (rmd 10) s m aa below meth cd H locs 0 0 QQ (F0 m 285 ls []) := by
    intro o_token_j285 o_from_j285 o_end_j285 o_value_j285 o_faultPlace_j285 o_faults_j285 o_depth_j285 o_counted_j285 o_at_j285 o_opened_j285 H locs ls hf hP hD hS hl
    unfold X12_weekStep_j285 at hf
    refine lv_aload_n hx hb dX12_weekStep_285 rfl (lv_at hl 0 rfl) ?_
    refine lv_bipush (v := 59) hx hb dX12_weekStep_286 (by decide) ?_
    obtain ⟨u288, hu288, hf⟩ := bd hf
    refine callVI (wn := (wd_X12_weekStep E a_o a_o_at a_o_names a_o_sort a_o_trayMany a_o_trays a_o_tape a_o_text a_o_opened a_o_farBy a_o_attendsBy a_o_coveredBy a_o_cameBy a_o_cameThen a_o_fallsBy a_o_loops a_o_ran a_o_told1 o_status o_top o_bottom o_taped o_size u288.2.1 u288.2.2.1 u288.2.2.2.1 u288.2.2.2.2.1 o_faultKind u288.2.2.2.2.2.1 u288.2.2.2.2.2.2 o_seen o_toldParts o_depth_j285 o_counted_j285 o_becameThen o_firstCorner o_drawn o_ranSteps o_isTold o_marks o_at_j285 o_names o_text o_opened_j285)) (n1 := 5) (ct_X12_wantSign l E F a_o a_o_at a_o_names a_o_sort a_o_trayMany a_o_trays a_o_tape a_o_text a_o_opened a_o_farBy a_o_attendsBy a_o_coveredBy a_o_cameBy a_o_cameThen a_o_fallsBy a_o_loops a_o_ran a_o_told1 o_status o_top o_bottom o_taped o_size o_token_j285 o_from_j285 o_end_j285 o_value_j285 o_faultKind o_faultPlace_j285 o_faults_j285 o_seen o_toldParts o_depth_j285 o_counted_j285 o_becameThen o_firstCorner o_drawn o_ranSteps o_isTold o_marks o_text (59 : Int32) u288 hu288) [0, 3] cal_X12_wantSign cav_X12_wantSign lk_X12_241 cx hP hD hS hl dX12_weekStep_288 rfl rfl rfl rfl (Nat.le_of_ble_eq_true rfl) ⟨Nat.le_of_ble_eq_true rfl, Nat.le_of_ble_eq_true rfl⟩ rfl (by decide +kernel) rfl [some 0, none, none, some 1, none] rfl (by decide +kernel) rfl (fun H locs hP hD hS => ?_)
    obtain ⟨hz, hf⟩ := ck hf
    obtain rfl := Option.some.inj hf
    subst hq
    exact retZ cx hz hP hD hS dX12_weekStep_291
  have hj228 : ∀ (v1_j228 : Int32) (v2_j228 : Int32) (v3_j228 : Int32) (o_token_j228 : Int32) (o_from_j228 : Int32) (o_end_j228 : Int32) (o_value_j228 : Int32) (o_faultPlace_j228 : Int32) (o_faults_j228 : Int32) (o_depth_j228 : Int32) (o_counted_j228 : Int32) (o_at_j228 : Nat → Int32) (o_opened_j228 : Nat → Int32) (H : Heap) (locs : List Loc) (ls : Array Slot), X12_weekStep_j228 F o_size o_token_j228 o_from_j228 o_end_j228 o_value_j228 o_faultPlace_j228 o_faults_j228 o_depth_j228 o_counted_j228 o_at_j228 o_names o_text o_opened_j228 v1_j228 v2_j228 v3_j228 = some u → va_P E.1 vwCl (wd_X12_weekStep E a_o a_o_at a_o_names a_o_sort a_o_trayMany a_o_trays a_o_tape a_o_text a_o_opened a_o_farBy a_o_attendsBy a_o_coveredBy a_o_cameBy a_o_cameThen a_o_fallsBy a_o_loops a_o_ran a_o_told1 o_status o_top o_bottom o_taped o_size o_token_j228 o_from_j228 o_end_j228 o_value_j228 o_faultKind o_faultPlace_j228 o_faults_j228 o_seen o_toldParts o_depth_j228 o_counted_j228 o_becameThen o_firstCorner o_drawn o_ranSteps o_isTold o_marks o_at_j228 o_names o_text o_opened_j228) H → va_D A (wd_X12_weekStep E a_o a_o_at a_o_names a_o_sort a_o_trayMany a_o_trays a_o_tape a_o_text a_o_opened a_o_farBy a_o_attendsBy a_o_coveredBy a_o_cameBy a_o_cameThen a_o_fallsBy a_o_loops a_o_ran a_o_told1 o_status o_top o_bottom o_taped o_size o_token_j228 o_from_j228 o_end_j228 o_value_j228 o_faultKind o_faultPlace_j228 o_faults_j228 o_seen o_toldParts o_depth_j228 o_counted_j228 o_becameThen o_firstCorner o_drawn o_ranSteps o_isTold o_marks o_at_j228 o_names o_text o_opened_j228) → va_S A s.heap H locs → lv_has ls 6 [(0, .ref a_o), (1, .int v1_j228), (2, .int v2_j228), (3, .int v3_j228)] → W p l e (rmd 10) s m aa below meth cd H locs 0 0 QQ (F0 m 228 ls []) := by
    intro v1_j228 v2_j228 v3_j228 o_token_j228 o_from_j228 o_end_j228 o_value_j228 o_faultPlace_j228 o_faults_j228 o_depth_j228 o_counted_j228 o_at_j228 o_opened_j228 H locs ls hf hP hD hS hl
    unfold X12_weekStep_j228 at hf
    refine lv_iload_n hx hb dX12_weekStep_228 rfl (lv_at hl 1 rfl) ?_
    refine lv_bipush (v := 19) hx hb dX12_weekStep_229 (by decide) ?_
    refine lv_icmp_ne (tgt := 285) hx hb dX12_weekStep_231 (by decide) (fun hc => ?_) (fun hc => ?_)
    · have hf := it_f hc hf
      exact hj285 _ _ _ _ _ _ _ _ _ _ _ _ _ hf hP hD hS (lv_sub hl [0] rfl)
    · have hf := it_t hc hf
      refine lv_aload_n hx hb dX12_weekStep_234 rfl (lv_at hl 0 rfl) ?_
      refine lv_dup hx hb dX12_weekStep_235 rfl ?_
      refine va_get (D := E.1) (ci := 12) (v := .int o_depth_j228) (C := RX12) (T := TX12) (N := 39) hx hb hts inX12 hown hK hP 0 rfl rfl 22 (by decide) (hts _ fl_X12_263) (fun _ h9 => h9) rfl dX12_weekStep_236 ?_
      refine lv_iconst (v := 1) hx hb dX12_weekStep_239 (by decide) ?_
      refine lv_isub hx hb dX12_weekStep_240 ?_
      refine va_put (D := E.1) (ci := 12) (v := .int (o_depth_j228 - 1)) (ty := .int) (C := RX12) (T := TX12) (N := 39) hx hb hts inX12 tyX12 tyX12_ok nmX12 hown hK hP hD hS 0 rfl rfl 22 (by decide) (hts _ fl_X12_263) (fun _ h9 => h9) rfl (by decide +kernel) rfl rfl (Nat.le_of_ble_eq_true rfl) dX12_weekStep_241 (fun H locs hP hD hS => ?_)
      have hP : va_P E.1 vwCl (wd_X12_weekStep E a_o a_o_at a_o_names a_o_sort a_o_trayMany a_o_trays a_o_tape a_o_text a_o_opened a_o_farBy a_o_attendsBy a_o_coveredBy a_o_cameBy a_o_cameThen a_o_fallsBy a_o_loops a_o_ran a_o_told1 o_status o_top o_bottom o_taped o_size o_token_j228 o_from_j228 o_end_j228 o_value_j228 o_faultKind o_faultPlace_j228 o_faults_j228 o_seen o_toldParts (o_depth_j228 - 1) o_counted_j228 o_becameThen o_firstCorner o_drawn o_ranSteps o_isTold o_marks o_at_j228 o_names o_text o_opened_j228) H := hP
      have hD : va_D A (wd_X12_weekStep E a_o a_o_at a_o_names a_o_sort a_o_trayMany a_o_trays a_o_tape a_o_text a_o_opened a_o_farBy a_o_attendsBy a_o_coveredBy a_o_cameBy a_o_cameThen a_o_fallsBy a_o_loops a_o_ran a_o_told1 o_status o_top o_bottom o_taped o_size o_token_j228 o_from_j228 o_end_j228 o_value_j228 o_faultKind o_faultPlace_j228 o_faults_j228 o_seen o_toldParts (o_depth_j228 - 1) o_counted_j228 o_becameThen o_firstCorner o_drawn o_ranSteps o_isTold o_marks o_at_j228 o_names o_text o_opened_j228) := hD
      refine lv_aload_n hx hb dX12_weekStep_244 rfl (lv_at hl 0 rfl) ?_
      refine va_get (D := E.1) (ci := 12) (v := .ref a_o_at) (C := RX12) (T := TX12) (N := 39) hx hb hts inX12 hown hK hP 0 rfl rfl 0 (by decide) (hts _ fl_X12_7) (fun _ h9 => h9) rfl dX12_weekStep_245 ?_
      refine lv_iload_n hx hb dX12_weekStep_248 rfl (lv_at hl 3 rfl) ?_
      refine lv_iconst (v := 4) hx hb dX12_weekStep_249 (by decide) ?_
      refine lv_iadd hx hb dX12_weekStep_250 ?_
      refine lv_aload_n hx hb dX12_weekStep_251 rfl (lv_at hl 0 rfl) ?_
      refine va_get (D := E.1) (ci := 12) (v := .ref a_o_opened) (C := RX12) (T := TX12) (N := 39) hx hb hts inX12 hown hK hP 0 rfl rfl 21 (by decide) (hts _ fl_X12_44) (fun _ h9 => h9) rfl dX12_weekStep_252 ?_
      refine lv_aload_n hx hb dX12_weekStep_255 rfl (lv_at hl 0 rfl) ?_
      refine va_get (D := E.1) (ci := 12) (v := .int (o_depth_j228 - 1)) (C := RX12) (T := TX12) (N := 39) hx hb hts inX12 hown hK hP 0 rfl rfl 22 (by decide) (hts _ fl_X12_263) (fun _ h9 => h9) rfl dX12_weekStep_256 ?_
      obtain ⟨hi, hf⟩ := ck hf
      refine r_iald 4 cx hP rfl hi dX12_weekStep_259 ?_
      obtain ⟨hi, hf⟩ := ck hf
      refine r_iast 1 cx hP hD hS rfl hi dX12_weekStep_260 (fun H locs hP hD hS => ?_)
      have hP : va_P E.1 vwCl (wd_X12_weekStep E a_o a_o_at a_o_names a_o_sort a_o_trayMany a_o_trays a_o_tape a_o_text a_o_opened a_o_farBy a_o_attendsBy a_o_coveredBy a_o_cameBy a_o_cameThen a_o_fallsBy a_o_loops a_o_ran a_o_told1 o_status o_top o_bottom o_taped o_size o_token_j228 o_from_j228 o_end_j228 o_value_j228 o_faultKind o_faultPlace_j228 o_faults_j228 o_seen o_toldParts (o_depth_j228 - 1) o_counted_j228 o_becameThen o_firstCorner o_drawn o_ranSteps o_isTold o_marks (jput o_at_j228 (v3_j228 + 4) (jat o_opened_j228 (o_depth_j228 - 1))) o_names o_text o_opened_j228) H := hP
      have hD : va_D A (wd_X12_weekStep E a_o a_o_at a_o_names a_o_sort a_o_trayMany a_o_trays a_o_tape a_o_text a_o_opened a_o_farBy a_o_attendsBy a_o_coveredBy a_o_cameBy a_o_cameThen a_o_fallsBy a_o_loops a_o_ran a_o_told1 o_status o_top o_bottom o_taped o_size o_token_j228 o_from_j228 o_end_j228 o_value_j228 o_faultKind o_faultPlace_j228 o_faults_j228 o_seen o_toldParts (o_depth_j228 - 1) o_counted_j228 o_becameThen o_firstCorner o_drawn o_ranSteps o_isTold o_marks (jput o_at_j228 (v3_j228 + 4) (jat o_opened_j228 (o_depth_j228 - 1))) o_names o_text o_opened_j228) := hD
      refine lv_aload_n hx hb dX12_weekStep_261 rfl (lv_at hl 0 rfl) ?_
      refine va_get (D := E.1) (ci := 12) (v := .ref a_o_at) (C := RX12) (T := TX12) (N := 39) hx hb hts inX12 hown hK hP 0 rfl rfl 0 (by decide) (hts _ fl_X12_7) (fun _ h9 => h9) rfl dX12_weekStep_262 ?_
      refine lv_sipush (v := 2107) hx hb dX12_weekStep_265 (by decide) ?_
      refine lv_bipush (v := 6) hx hb dX12_weekStep_268 (by decide) ?_
      refine lv_aload_n hx hb dX12_weekStep_270 rfl (lv_at hl 0 rfl) ?_
      refine va_get (D := E.1) (ci := 12) (v := .ref a_o_opened) (C := RX12) (T := TX12) (N := 39) hx hb hts inX12 hown hK hP 0 rfl rfl 21 (by decide) (hts _ fl_X12_44) (fun _ h9 => h9) rfl dX12_weekStep_271 ?_
      refine lv_aload_n hx hb dX12_weekStep_274 rfl (lv_at hl 0 rfl) ?_
      refine va_get (D := E.1) (ci := 12) (v := .int (o_depth_j228 - 1)) (C := RX12) (T := TX12) (N := 39) hx hb hts inX12 hown hK hP 0 rfl rfl 22 (by decide) (hts _ fl_X12_263) (fun _ h9 => h9) rfl dX12_weekStep_275 ?_
      obtain ⟨hi, hf⟩ := ck hf
      refine r_iald 4 cx hP rfl hi dX12_weekStep_278 ?_
      refine lv_imul hx hb dX12_weekStep_279 ?_
      refine lv_iadd hx hb dX12_weekStep_280 ?_
      refine lv_iconst (v := 4) hx hb dX12_weekStep_281 (by decide) ?_
      refine lv_iadd hx hb dX12_weekStep_282 ?_
      refine lv_iload_n hx hb dX12_weekStep_283 rfl (lv_at hl 2 rfl) ?_
      obtain ⟨hi, hf⟩ := ck hf
      refine r_iast 1 cx hP hD hS rfl hi dX12_weekStep_284 (fun H locs hP hD hS => ?_)
      have hP : va_P E.1 vwCl (wd_X12_weekStep E a_o a_o_at a_o_names a_o_sort a_o_trayMany a_o_trays a_o_tape a_o_text a_o_opened a_o_farBy a_o_attendsBy a_o_coveredBy a_o_cameBy a_o_cameThen a_o_fallsBy a_o_loops a_o_ran a_o_told1 o_status o_top o_bottom o_taped o_size o_token_j228 o_from_j228 o_end_j228 o_value_j228 o_faultKind o_faultPlace_j228 o_faults_j228 o_seen o_toldParts (o_depth_j228 - 1) o_counted_j228 o_becameThen o_firstCorner o_drawn o_ranSteps o_isTold o_marks (jput (jput o_at_j228 (v3_j228 + 4) (jat o_opened_j228 (o_depth_j228 - 1))) ((2107 + (6 * (jat o_opened_j228 (o_depth_j228 - 1)))) + 4) v2_j228) o_names o_text o_opened_j228) H := hP
      have hD : va_D A (wd_X12_weekStep E a_o a_o_at a_o_names a_o_sort a_o_trayMany a_o_trays a_o_tape a_o_text a_o_opened a_o_farBy a_o_attendsBy a_o_coveredBy a_o_cameBy a_o_cameThen a_o_fallsBy a_o_loops a_o_ran a_o_told1 o_status o_top o_bottom o_taped o_size o_token_j228 o_from_j228 o_end_j228 o_value_j228 o_faultKind o_faultPlace_j228 o_faults_j228 o_seen o_toldParts (o_depth_j228 - 1) o_counted_j228 o_becameThen o_firstCorner o_drawn o_ranSteps o_isTold o_marks (jput (jput o_at_j228 (v3_j228 + 4) (jat o_opened_j228 (o_depth_j228 - 1))) ((2107 + (6 * (jat o_opened_j228 (o_depth_j228 - 1)))) + 4) v2_j228) o_names o_text o_opened_j228) := hD
      exact hj285 _ _ _ _ _ _ _ _ _ _ _ _ _ hf hP hD hS (lv_sub hl [0] rfl)
  have hj139 : ∀ (v1_j139 : Int32) (v2_j139 : Int32) (v3_j139 : Int32) (v4_j139 : Int32) (o_token_j139 : Int32) (o_from_j139 : Int32) (o_end_j139 : Int32) (o_value_j139 : Int32) (o_faultPlace_j139 : Int32) (o_faults_j139 : Int32) (o_depth_j139 : Int32) (o_counted_j139 : Int32) (o_at_j139 : Nat → Int32) (o_opened_j139 : Nat → Int32) (k0_j139 : Int32) (k1_j139 : Int32) (H : Heap) (locs : List Loc) (ls : Array Slot), X12_weekStep_j139 F o_size o_token_j139 o_from_j139 o_end_j139 o_value_j139 o_faultPlace_j139 o_faults_j139 o_depth_j139 o_counted_j139 o_at_j139 o_names o_text o_opened_j139 v1_j139 v2_j139 v3_j139 v4_j139 k0_j139 k1_j139 = some u → va_P E.1 vwCl (wd_X12_weekStep E a_o a_o_at a_o_names a_o_sort a_o_trayMany a_o_trays a_o_tape a_o_text a_o_opened a_o_farBy a_o_attendsBy a_o_coveredBy a_o_cameBy a_o_cameThen a_o_fallsBy a_o_loops a_o_ran a_o_told1 o_status o_top o_bottom o_taped o_size o_token_j139 o_from_j139 o_end_j139 o_value_j139 o_faultKind o_faultPlace_j139 o_faults_j139 o_seen o_toldParts o_depth_j139 o_counted_j139 o_becameThen o_firstCorner o_drawn o_ranSteps o_isTold o_marks o_at_j139 o_names o_text o_opened_j139) H → va_D A (wd_X12_weekStep E a_o a_o_at a_o_names a_o_sort a_o_trayMany a_o_trays a_o_tape a_o_text a_o_opened a_o_farBy a_o_attendsBy a_o_coveredBy a_o_cameBy a_o_cameThen a_o_fallsBy a_o_loops a_o_ran a_o_told1 o_status o_top o_bottom o_taped o_size o_token_j139 o_from_j139 o_end_j139 o_value_j139 o_faultKind o_faultPlace_j139 o_faults_j139 o_seen o_toldParts o_depth_j139 o_counted_j139 o_becameThen o_firstCorner o_drawn o_ranSteps o_isTold o_marks o_at_j139 o_names o_text o_opened_j139) → va_S A s.heap H locs → lv_has ls 6 [(0, .ref a_o), (1, .int v1_j139), (2, .int v2_j139), (3, .int v3_j139), (4, .int v4_j139)] → W p l e (rmd 10) s m aa below meth cd H locs 0 0 QQ (F0 m 139 ls [.int k0_j139, .int k1_j139, .ref a_o]) := by
    intro v1_j139 v2_j139 v3_j139 v4_j139 o_token_j139 o_from_j139 o_end_j139 o_value_j139 o_faultPlace_j139 o_faults_j139 o_depth_j139 o_counted_j139 o_at_j139 o_opened_j139 k0_j139 k1_j139 H locs ls hf hP hD hS hl
    unfold X12_weekStep_j139 at hf
    refine lv_iadd hx hb dX12_weekStep_139 ?_
    refine va_put (D := E.1) (ci := 12) (v := .int (k1_j139 + k0_j139)) (ty := .int) (C := RX12) (T := TX12) (N := 39) hx hb hts inX12 tyX12 tyX12_ok nmX12 hown hK hP hD hS 0 rfl rfl 23 (by decide) (hts _ fl_X12_266) (fun _ h9 => h9) rfl (by decide +kernel) rfl rfl (Nat.le_of_ble_eq_true rfl) dX12_weekStep_140 (fun H locs hP hD hS => ?_)
    have hP : va_P E.1 vwCl (wd_X12_weekStep E a_o a_o_at a_o_names a_o_sort a_o_trayMany a_o_trays a_o_tape a_o_text a_o_opened a_o_farBy a_o_attendsBy a_o_coveredBy a_o_cameBy a_o_cameThen a_o_fallsBy a_o_loops a_o_ran a_o_told1 o_status o_top o_bottom o_taped o_size o_token_j139 o_from_j139 o_end_j139 o_value_j139 o_faultKind o_faultPlace_j139 o_faults_j139 o_seen o_toldParts o_depth_j139 (k1_j139 + k0_j139) o_becameThen o_firstCorner o_drawn o_ranSteps o_isTold o_marks o_at_j139 o_names o_text o_opened_j139) H := hP
    have hD : va_D A (wd_X12_weekStep E a_o a_o_at a_o_names a_o_sort a_o_trayMany a_o_trays a_o_tape a_o_text a_o_opened a_o_farBy a_o_attendsBy a_o_coveredBy a_o_cameBy a_o_cameThen a_o_fallsBy a_o_loops a_o_ran a_o_told1 o_status o_top o_bottom o_taped o_size o_token_j139 o_from_j139 o_end_j139 o_value_j139 o_faultKind o_faultPlace_j139 o_faults_j139 o_seen o_toldParts o_depth_j139 (k1_j139 + k0_j139) o_becameThen o_firstCorner o_drawn o_ranSteps o_isTold o_marks o_at_j139 o_names o_text o_opened_j139) := hD
    refine lv_aload_n hx hb dX12_weekStep_143 rfl (lv_at hl 0 rfl) ?_
    refine va_get (D := E.1) (ci := 12) (v := .ref a_o_at) (C := RX12) (T := TX12) (N := 39) hx hb hts inX12 hown hK hP 0 rfl rfl 0 (by decide) (hts _ fl_X12_7) (fun _ h9 => h9) rfl dX12_weekStep_144 ?_
    refine lv_iload_n hx hb dX12_weekStep_147 rfl (lv_at hl 3 rfl) ?_
    refine lv_iload_n hx hb dX12_weekStep_148 rfl (lv_at hl 1 rfl) ?_
    obtain ⟨hi, hf⟩ := ck hf
    refine r_iast 1 cx hP hD hS rfl hi dX12_weekStep_149 (fun H locs hP hD hS => ?_)
    have hP : va_P E.1 vwCl (wd_X12_weekStep E a_o a_o_at a_o_names a_o_sort a_o_trayMany a_o_trays a_o_tape a_o_text a_o_opened a_o_farBy a_o_attendsBy a_o_coveredBy a_o_cameBy a_o_cameThen a_o_fallsBy a_o_loops a_o_ran a_o_told1 o_status o_top o_bottom o_taped o_size o_token_j139 o_from_j139 o_end_j139 o_value_j139 o_faultKind o_faultPlace_j139 o_faults_j139 o_seen o_toldParts o_depth_j139 (k1_j139 + k0_j139) o_becameThen o_firstCorner o_drawn o_ranSteps o_isTold o_marks (jput o_at_j139 v3_j139 v1_j139) o_names o_text o_opened_j139) H := hP
    have hD : va_D A (wd_X12_weekStep E a_o a_o_at a_o_names a_o_sort a_o_trayMany a_o_trays a_o_tape a_o_text a_o_opened a_o_farBy a_o_attendsBy a_o_coveredBy a_o_cameBy a_o_cameThen a_o_fallsBy a_o_loops a_o_ran a_o_told1 o_status o_top o_bottom o_taped o_size o_token_j139 o_from_j139 o_end_j139 o_value_j139 o_faultKind o_faultPlace_j139 o_faults_j139 o_seen o_toldParts o_depth_j139 (k1_j139 + k0_j139) o_becameThen o_firstCorner o_drawn o_ranSteps o_isTold o_marks (jput o_at_j139 v3_j139 v1_j139) o_names o_text o_opened_j139) := hD
    refine lv_iconst (v := 1) hx hb dX12_weekStep_150 (by decide) ?_
    refine lv_istore (lv' := [(5, .int 1), (0, .ref a_o), (1, .int v1_j139), (2, .int v2_j139), (3, .int v3_j139), (4, .int v4_j139)]) hx hb dX12_weekStep_151 hl (by decide) rfl (fun ls hl => ?_)
    obtain ⟨e153, hit153, hf⟩ := bd hf
    refine iter_W (b := X12_weekStep_b153 F o_size o_token_j139 o_from_j139 o_end_j139 o_value_j139 o_faultPlace_j139 o_faults_j139 o_depth_j139 (k1_j139 + k0_j139) o_names o_text o_opened_j139 v1_j139 v2_j139 v3_j139 v4_j139) (P := fun st153 => ∀ (H : Heap) (locs : List Loc) (ls : Array Slot), va_P E.1 vwCl (wd_X12_weekStep E a_o a_o_at a_o_names a_o_sort a_o_trayMany a_o_trays a_o_tape a_o_text a_o_opened a_o_farBy a_o_attendsBy a_o_coveredBy a_o_cameBy a_o_cameThen a_o_fallsBy a_o_loops a_o_ran a_o_told1 o_status o_top o_bottom o_taped o_size o_token_j139 o_from_j139 o_end_j139 o_value_j139 o_faultKind o_faultPlace_j139 o_faults_j139 o_seen o_toldParts o_depth_j139 (k1_j139 + k0_j139) o_becameThen o_firstCorner o_drawn o_ranSteps o_isTold o_marks st153.2 o_names o_text o_opened_j139) H → va_D A (wd_X12_weekStep E a_o a_o_at a_o_names a_o_sort a_o_trayMany a_o_trays a_o_tape a_o_text a_o_opened a_o_farBy a_o_attendsBy a_o_coveredBy a_o_cameBy a_o_cameThen a_o_fallsBy a_o_loops a_o_ran a_o_told1 o_status o_top o_bottom o_taped o_size o_token_j139 o_from_j139 o_end_j139 o_value_j139 o_faultKind o_faultPlace_j139 o_faults_j139 o_seen o_toldParts o_depth_j139 (k1_j139 + k0_j139) o_becameThen o_firstCorner o_drawn o_ranSteps o_isTold o_marks st153.2 o_names o_text o_opened_j139) → va_S A s.heap H locs → lv_has ls 6 [(0, .ref a_o), (1, .int v1_j139), (2, .int v2_j139), (3, .int v3_j139), (4, .int v4_j139), (5, .int st153.1)] → W p l e (rmd 10) s m aa below meth cd H locs 0 0 QQ (F0 m 153 ls [])) (G := (fun (e153 : (Nat → Int32)) => ∀ (H : Heap) (locs : List Loc) (ls : Array Slot), va_P E.1 vwCl (wd_X12_weekStep E a_o a_o_at a_o_names a_o_sort a_o_trayMany a_o_trays a_o_tape a_o_text a_o_opened a_o_farBy a_o_attendsBy a_o_coveredBy a_o_cameBy a_o_cameThen a_o_fallsBy a_o_loops a_o_ran a_o_told1 o_status o_top o_bottom o_taped o_size o_token_j139 o_from_j139 o_end_j139 o_value_j139 o_faultKind o_faultPlace_j139 o_faults_j139 o_seen o_toldParts o_depth_j139 (k1_j139 + k0_j139) o_becameThen o_firstCorner o_drawn o_ranSteps o_isTold o_marks e153 o_names o_text o_opened_j139) H → va_D A (wd_X12_weekStep E a_o a_o_at a_o_names a_o_sort a_o_trayMany a_o_trays a_o_tape a_o_text a_o_opened a_o_farBy a_o_attendsBy a_o_coveredBy a_o_cameBy a_o_cameThen a_o_fallsBy a_o_loops a_o_ran a_o_told1 o_status o_top o_bottom o_taped o_size o_token_j139 o_from_j139 o_end_j139 o_value_j139 o_faultKind o_faultPlace_j139 o_faults_j139 o_seen o_toldParts o_depth_j139 (k1_j139 + k0_j139) o_becameThen o_firstCorner o_drawn o_ranSteps o_isTold o_marks e153 o_names o_text o_opened_j139) → va_S A s.heap H locs → lv_has ls 6 [(0, .ref a_o), (1, .int v1_j139), (2, .int v2_j139), (3, .int v3_j139), (4, .int v4_j139)] → W p l e (rmd 10) s m aa below meth cd H locs 0 0 QQ (F0 m 176 ls []))) ?_ F (1, (jput o_at_j139 v3_j139 v1_j139)) e153 hit153 ?_ _ _ _ hP hD hS (lv_sub hl [1, 2, 3, 4, 5, 0] rfl)
    · intro st153 r153 hf hk153 he153 H locs ls hP hD hS hl
      unfold X12_weekStep_b153 at hf
      refine lv_iload hx hb dX12_weekStep_153 (lv_at hl 5 rfl) ?_
      refine lv_bipush (v := 6) hx hb dX12_weekStep_155 (by decide) ?_
      refine lv_icmp_ge (tgt := 176) hx hb dX12_weekStep_157 (by decide) (fun hc => ?_) (fun hc => ?_)
      · have hf := it_t hc hf
        exact he153 _ (Option.some.inj hf).symm _ _ _ hP hD hS (lv_sub hl [0, 1, 2, 3, 4] rfl)
      · have hf := it_f hc hf
        refine lv_aload_n hx hb dX12_weekStep_160 rfl (lv_at hl 0 rfl) ?_
        refine va_get (D := E.1) (ci := 12) (v := .ref a_o_at) (C := RX12) (T := TX12) (N := 39) hx hb hts inX12 hown hK hP 0 rfl rfl 0 (by decide) (hts _ fl_X12_7) (fun _ h9 => h9) rfl dX12_weekStep_161 ?_
        refine lv_iload_n hx hb dX12_weekStep_164 rfl (lv_at hl 3 rfl) ?_
        refine lv_iload hx hb dX12_weekStep_165 (lv_at hl 5 rfl) ?_
        refine lv_iadd hx hb dX12_weekStep_167 ?_
        refine lv_iconst (v := 0) hx hb dX12_weekStep_168 (by decide) ?_
        obtain ⟨hi, hf⟩ := ck hf
        refine r_iast 1 cx hP hD hS rfl hi dX12_weekStep_169 (fun H locs hP hD hS => ?_)
        have hP : va_P E.1 vwCl (wd_X12_weekStep E a_o a_o_at a_o_names a_o_sort a_o_trayMany a_o_trays a_o_tape a_o_text a_o_opened a_o_farBy a_o_attendsBy a_o_coveredBy a_o_cameBy a_o_cameThen a_o_fallsBy a_o_loops a_o_ran a_o_told1 o_status o_top o_bottom o_taped o_size o_token_j139 o_from_j139 o_end_j139 o_value_j139 o_faultKind o_faultPlace_j139 o_faults_j139 o_seen o_toldParts o_depth_j139 (k1_j139 + k0_j139) o_becameThen o_firstCorner o_drawn o_ranSteps o_isTold o_marks (jput st153.2 (v3_j139 + st153.1) 0) o_names o_text o_opened_j139) H := hP
        have hD : va_D A (wd_X12_weekStep E a_o a_o_at a_o_names a_o_sort a_o_trayMany a_o_trays a_o_tape a_o_text a_o_opened a_o_farBy a_o_attendsBy a_o_coveredBy a_o_cameBy a_o_cameThen a_o_fallsBy a_o_loops a_o_ran a_o_told1 o_status o_top o_bottom o_taped o_size o_token_j139 o_from_j139 o_end_j139 o_value_j139 o_faultKind o_faultPlace_j139 o_faults_j139 o_seen o_toldParts o_depth_j139 (k1_j139 + k0_j139) o_becameThen o_firstCorner o_drawn o_ranSteps o_isTold o_marks (jput st153.2 (v3_j139 + st153.1) 0) o_names o_text o_opened_j139) := hD
        refine lv_iinc (v := (st153.1 + 1)) (lv' := [(5, .int (st153.1 + 1)), (0, .ref a_o), (1, .int v1_j139), (2, .int v2_j139), (3, .int v3_j139), (4, .int v4_j139)]) hx hb dX12_weekStep_170 hl (k := 5) rfl rfl (by decide) rfl (fun ls hl => ?_)
        refine lv_goto (tgt := 153) hx hb dX12_weekStep_173 (by decide) ?_
        exact hk153 _ (Option.some.inj hf).symm _ _ _ hP hD hS (lv_sub hl [1, 2, 3, 4, 5, 0] rfl)
    · refine fun H locs ls hP hD hS hl => ?_
      refine lv_aload_n hx hb dX12_weekStep_176 rfl (lv_at hl 0 rfl) ?_
      refine va_get (D := E.1) (ci := 12) (v := .ref a_o_at) (C := RX12) (T := TX12) (N := 39) hx hb hts inX12 hown hK hP 0 rfl rfl 0 (by decide) (hts _ fl_X12_7) (fun _ h9 => h9) rfl dX12_weekStep_177 ?_
      refine lv_sipush (v := 1989) hx hb dX12_weekStep_180 (by decide) ?_
      refine lv_dup2_11 hx hb dX12_weekStep_183 rfl rfl ?_
      obtain ⟨hi, hf⟩ := ck hf
      refine r_iald 1 cx hP rfl hi dX12_weekStep_184 ?_
      refine lv_iconst (v := 1) hx hb dX12_weekStep_185 (by decide) ?_
      refine lv_iadd hx hb dX12_weekStep_186 ?_
      obtain ⟨hi, hf⟩ := ck hf
      refine r_iast 1 cx hP hD hS rfl hi dX12_weekStep_187 (fun H locs hP hD hS => ?_)
      have hP : va_P E.1 vwCl (wd_X12_weekStep E a_o a_o_at a_o_names a_o_sort a_o_trayMany a_o_trays a_o_tape a_o_text a_o_opened a_o_farBy a_o_attendsBy a_o_coveredBy a_o_cameBy a_o_cameThen a_o_fallsBy a_o_loops a_o_ran a_o_told1 o_status o_top o_bottom o_taped o_size o_token_j139 o_from_j139 o_end_j139 o_value_j139 o_faultKind o_faultPlace_j139 o_faults_j139 o_seen o_toldParts o_depth_j139 (k1_j139 + k0_j139) o_becameThen o_firstCorner o_drawn o_ranSteps o_isTold o_marks (jput e153 1989 ((jat e153 1989) + 1)) o_names o_text o_opened_j139) H := hP
      have hD : va_D A (wd_X12_weekStep E a_o a_o_at a_o_names a_o_sort a_o_trayMany a_o_trays a_o_tape a_o_text a_o_opened a_o_farBy a_o_attendsBy a_o_coveredBy a_o_cameBy a_o_cameThen a_o_fallsBy a_o_loops a_o_ran a_o_told1 o_status o_top o_bottom o_taped o_size o_token_j139 o_from_j139 o_end_j139 o_value_j139 o_faultKind o_faultPlace_j139 o_faults_j139 o_seen o_toldParts o_depth_j139 (k1_j139 + k0_j139) o_becameThen o_firstCorner o_drawn o_ranSteps o_isTold o_marks (jput e153 1989 ((jat e153 1989) + 1)) o_names o_text o_opened_j139) := hD
      refine lv_aload_n hx hb dX12_weekStep_188 rfl (lv_at hl 0 rfl) ?_
      obtain ⟨u189, hu189, hf⟩ := bd hf
      refine callVV (wn := (wd_X12_weekStep E a_o a_o_at a_o_names a_o_sort a_o_trayMany a_o_trays a_o_tape a_o_text a_o_opened a_o_farBy a_o_attendsBy a_o_coveredBy a_o_cameBy a_o_cameThen a_o_fallsBy a_o_loops a_o_ran a_o_told1 o_status o_top o_bottom o_taped o_size u189.1 u189.2.1 u189.2.2.1 u189.2.2.2 o_faultKind o_faultPlace_j139 o_faults_j139 o_seen o_toldParts o_depth_j139 (k1_j139 + k0_j139) o_becameThen o_firstCorner o_drawn o_ranSteps o_isTold o_marks (jput e153 1989 ((jat e153 1989) + 1)) o_names o_text o_opened_j139)) (n1 := 5) (ct_X12_ahead l E F a_o a_o_at a_o_names a_o_sort a_o_trayMany a_o_trays a_o_tape a_o_text a_o_opened a_o_farBy a_o_attendsBy a_o_coveredBy a_o_cameBy a_o_cameThen a_o_fallsBy a_o_loops a_o_ran a_o_told1 o_status o_top o_bottom o_taped o_size o_token_j139 o_from_j139 o_end_j139 o_value_j139 o_faultKind o_faultPlace_j139 o_faults_j139 o_seen o_toldParts o_depth_j139 (k1_j139 + k0_j139) o_becameThen o_firstCorner o_drawn o_ranSteps o_isTold o_marks o_text u189 hu189) [0, 3] cal_X12_ahead cav_X12_ahead lk_X12_161 cx hP hD hS hl dX12_weekStep_189 rfl rfl rfl rfl (Nat.le_of_ble_eq_true rfl) ⟨Nat.le_of_ble_eq_true rfl, Nat.le_of_ble_eq_true rfl⟩ rfl (by decide +kernel) rfl [some 0, none, none, some 1, none] rfl (by decide +kernel) rfl (fun H locs hP hD hS => ?_)
      refine lv_aload_n hx hb dX12_weekStep_192 rfl (lv_at hl 0 rfl) ?_
      refine lv_iload_n hx hb dX12_weekStep_193 rfl (lv_at hl 1 rfl) ?_
      refine lv_iload_n hx hb dX12_weekStep_194 rfl (lv_at hl 3 rfl) ?_
      obtain ⟨u195, hu195, hf⟩ := bd hf
      refine callVI (wn := (wd_X12_weekStep E a_o a_o_at a_o_names a_o_sort a_o_trayMany a_o_trays a_o_tape a_o_text a_o_opened a_o_farBy a_o_attendsBy a_o_coveredBy a_o_cameBy a_o_cameThen a_o_fallsBy a_o_loops a_o_ran a_o_told1 o_status o_top o_bottom o_taped o_size u195.2.1 u195.2.2.1 u195.2.2.2.1 u195.2.2.2.2.1 o_faultKind u195.2.2.2.2.2.1 u195.2.2.2.2.2.2.1 o_seen o_toldParts o_depth_j139 (k1_j139 + k0_j139) o_becameThen o_firstCorner o_drawn o_ranSteps o_isTold o_marks u195.2.2.2.2.2.2.2 o_names o_text o_opened_j139)) (n1 := 5) (ct_X12_weekOrder l E F a_o a_o_at a_o_names a_o_sort a_o_trayMany a_o_trays a_o_tape a_o_text a_o_opened a_o_farBy a_o_attendsBy a_o_coveredBy a_o_cameBy a_o_cameThen a_o_fallsBy a_o_loops a_o_ran a_o_told1 o_status o_top o_bottom o_taped o_size u189.1 u189.2.1 u189.2.2.1 u189.2.2.2 o_faultKind o_faultPlace_j139 o_faults_j139 o_seen o_toldParts o_depth_j139 (k1_j139 + k0_j139) o_becameThen o_firstCorner o_drawn o_ranSteps o_isTold o_marks (jput e153 1989 ((jat e153 1989) + 1)) o_names o_text v1_j139 v3_j139 u195 hu195) [0, 1, 2, 3] cal_X12_weekOrder cav_X12_weekOrder lk_X12_269 cx hP hD hS hl dX12_weekStep_195 rfl rfl rfl rfl (Nat.le_of_ble_eq_true rfl) ⟨Nat.le_of_ble_eq_true rfl, Nat.le_of_ble_eq_true rfl⟩ rfl (by decide +kernel) rfl [some 0, some 1, some 2, some 3, none] rfl (by decide +kernel) rfl (fun H locs hP hD hS => ?_)
      refine lv_if_ne (tgt := 203) hx hb dX12_weekStep_198 (by decide) (fun hc => ?_) (fun hc => ?_)
      · have hf := it_f hc hf
        refine lv_iload hx hb dX12_weekStep_203 (lv_at hl 4 rfl) ?_
        refine lv_if_eq (tgt := 228) hx hb dX12_weekStep_205 (by decide) (fun hc => ?_) (fun hc => ?_)
        · have hf := it_t hc hf
          exact hj228 _ _ _ _ _ _ _ _ _ _ _ _ _ _ _ _ hf hP hD hS (lv_sub hl [0, 1, 2, 3] rfl)
        · have hf := it_f hc hf
          refine lv_aload_n hx hb dX12_weekStep_208 rfl (lv_at hl 0 rfl) ?_
          refine va_get (D := E.1) (ci := 12) (v := .ref a_o_opened) (C := RX12) (T := TX12) (N := 39) hx hb hts inX12 hown hK hP 0 rfl rfl 21 (by decide) (hts _ fl_X12_44) (fun _ h9 => h9) rfl dX12_weekStep_209 ?_
          refine lv_aload_n hx hb dX12_weekStep_212 rfl (lv_at hl 0 rfl) ?_
          refine va_get (D := E.1) (ci := 12) (v := .int o_depth_j139) (C := RX12) (T := TX12) (N := 39) hx hb hts inX12 hown hK hP 0 rfl rfl 22 (by decide) (hts _ fl_X12_263) (fun _ h9 => h9) rfl dX12_weekStep_213 ?_
          refine lv_iload_n hx hb dX12_weekStep_216 rfl (lv_at hl 2 rfl) ?_
          obtain ⟨hi, hf⟩ := ck hf
          refine r_iast 4 cx hP hD hS rfl hi dX12_weekStep_217 (fun H locs hP hD hS => ?_)
          have hP : va_P E.1 vwCl (wd_X12_weekStep E a_o a_o_at a_o_names a_o_sort a_o_trayMany a_o_trays a_o_tape a_o_text a_o_opened a_o_farBy a_o_attendsBy a_o_coveredBy a_o_cameBy a_o_cameThen a_o_fallsBy a_o_loops a_o_ran a_o_told1 o_status o_top o_bottom o_taped o_size u195.2.1 u195.2.2.1 u195.2.2.2.1 u195.2.2.2.2.1 o_faultKind u195.2.2.2.2.2.1 u195.2.2.2.2.2.2.1 o_seen o_toldParts o_depth_j139 (k1_j139 + k0_j139) o_becameThen o_firstCorner o_drawn o_ranSteps o_isTold o_marks u195.2.2.2.2.2.2.2 o_names o_text (jput o_opened_j139 o_depth_j139 v2_j139)) H := hP
          have hD : va_D A (wd_X12_weekStep E a_o a_o_at a_o_names a_o_sort a_o_trayMany a_o_trays a_o_tape a_o_text a_o_opened a_o_farBy a_o_attendsBy a_o_coveredBy a_o_cameBy a_o_cameThen a_o_fallsBy a_o_loops a_o_ran a_o_told1 o_status o_top o_bottom o_taped o_size u195.2.1 u195.2.2.1 u195.2.2.2.1 u195.2.2.2.2.1 o_faultKind u195.2.2.2.2.2.1 u195.2.2.2.2.2.2.1 o_seen o_toldParts o_depth_j139 (k1_j139 + k0_j139) o_becameThen o_firstCorner o_drawn o_ranSteps o_isTold o_marks u195.2.2.2.2.2.2.2 o_names o_text (jput o_opened_j139 o_depth_j139 v2_j139)) := hD
          refine lv_aload_n hx hb dX12_weekStep_218 rfl (lv_at hl 0 rfl) ?_
          refine lv_dup hx hb dX12_weekStep_219 rfl ?_
          refine va_get (D := E.1) (ci := 12) (v := .int o_depth_j139) (C := RX12) (T := TX12) (N := 39) hx hb hts inX12 hown hK hP 0 rfl rfl 22 (by decide) (hts _ fl_X12_263) (fun _ h9 => h9) rfl dX12_weekStep_220 ?_
          refine lv_iconst (v := 1) hx hb dX12_weekStep_223 (by decide) ?_
          refine lv_iadd hx hb dX12_weekStep_224 ?_
          refine va_put (D := E.1) (ci := 12) (v := .int (o_depth_j139 + 1)) (ty := .int) (C := RX12) (T := TX12) (N := 39) hx hb hts inX12 tyX12 tyX12_ok nmX12 hown hK hP hD hS 0 rfl rfl 22 (by decide) (hts _ fl_X12_263) (fun _ h9 => h9) rfl (by decide +kernel) rfl rfl (Nat.le_of_ble_eq_true rfl) dX12_weekStep_225 (fun H locs hP hD hS => ?_)
          have hP : va_P E.1 vwCl (wd_X12_weekStep E a_o a_o_at a_o_names a_o_sort a_o_trayMany a_o_trays a_o_tape a_o_text a_o_opened a_o_farBy a_o_attendsBy a_o_coveredBy a_o_cameBy a_o_cameThen a_o_fallsBy a_o_loops a_o_ran a_o_told1 o_status o_top o_bottom o_taped o_size u195.2.1 u195.2.2.1 u195.2.2.2.1 u195.2.2.2.2.1 o_faultKind u195.2.2.2.2.2.1 u195.2.2.2.2.2.2.1 o_seen o_toldParts (o_depth_j139 + 1) (k1_j139 + k0_j139) o_becameThen o_firstCorner o_drawn o_ranSteps o_isTold o_marks u195.2.2.2.2.2.2.2 o_names o_text (jput o_opened_j139 o_depth_j139 v2_j139)) H := hP
          have hD : va_D A (wd_X12_weekStep E a_o a_o_at a_o_names a_o_sort a_o_trayMany a_o_trays a_o_tape a_o_text a_o_opened a_o_farBy a_o_attendsBy a_o_coveredBy a_o_cameBy a_o_cameThen a_o_fallsBy a_o_loops a_o_ran a_o_told1 o_status o_top o_bottom o_taped o_size u195.2.1 u195.2.2.1 u195.2.2.2.1 u195.2.2.2.2.1 o_faultKind u195.2.2.2.2.2.1 u195.2.2.2.2.2.2.1 o_seen o_toldParts (o_depth_j139 + 1) (k1_j139 + k0_j139) o_becameThen o_firstCorner o_drawn o_ranSteps o_isTold o_marks u195.2.2.2.2.2.2.2 o_names o_text (jput o_opened_j139 o_depth_j139 v2_j139)) := hD
          exact hj228 _ _ _ _ _ _ _ _ _ _ _ _ _ _ _ _ hf hP hD hS (lv_sub hl [0, 1, 2, 3] rfl)
      · have hf := it_t hc hf
        refine lv_iconst (v := 0) hx hb dX12_weekStep_201 (by decide) ?_
        obtain rfl := Option.some.inj hf
        subst hq
        exact retZ cx rfl hP hD hS dX12_weekStep_202
  have hj123 : ∀ (v1_j123 : Int32) (v2_j123 : Int32) (v3_j123 : Int32) (v4_j123 : Int32) (o_token_j123 : Int32) (o_from_j123 : Int32) (o_end_j123 : Int32) (o_value_j123 : Int32) (o_faultPlace_j123 : Int32) (o_faults_j123 : Int32) (o_depth_j123 : Int32) (o_counted_j123 : Int32) (o_at_j123 : Nat → Int32) (o_opened_j123 : Nat → Int32) (H : Heap) (locs : List Loc) (ls : Array Slot), X12_weekStep_j123 F o_size o_token_j123 o_from_j123 o_end_j123 o_value_j123 o_faultPlace_j123 o_faults_j123 o_depth_j123 o_counted_j123 o_at_j123 o_names o_text o_opened_j123 v1_j123 v2_j123 v3_j123 v4_j123 = some u → va_P E.1 vwCl (wd_X12_weekStep E a_o a_o_at a_o_names a_o_sort a_o_trayMany a_o_trays a_o_tape a_o_text a_o_opened a_o_farBy a_o_attendsBy a_o_coveredBy a_o_cameBy a_o_cameThen a_o_fallsBy a_o_loops a_o_ran a_o_told1 o_status o_top o_bottom o_taped o_size o_token_j123 o_from_j123 o_end_j123 o_value_j123 o_faultKind o_faultPlace_j123 o_faults_j123 o_seen o_toldParts o_depth_j123 o_counted_j123 o_becameThen o_firstCorner o_drawn o_ranSteps o_isTold o_marks o_at_j123 o_names o_text o_opened_j123) H → va_D A (wd_X12_weekStep E a_o a_o_at a_o_names a_o_sort a_o_trayMany a_o_trays a_o_tape a_o_text a_o_opened a_o_farBy a_o_attendsBy a_o_coveredBy a_o_cameBy a_o_cameThen a_o_fallsBy a_o_loops a_o_ran a_o_told1 o_status o_top o_bottom o_taped o_size o_token_j123 o_from_j123 o_end_j123 o_value_j123 o_faultKind o_faultPlace_j123 o_faults_j123 o_seen o_toldParts o_depth_j123 o_counted_j123 o_becameThen o_firstCorner o_drawn o_ranSteps o_isTold o_marks o_at_j123 o_names o_text o_opened_j123) → va_S A s.heap H locs → lv_has ls 6 [(0, .ref a_o), (1, .int v1_j123), (2, .int v2_j123), (3, .int v3_j123), (4, .int v4_j123)] → W p l e (rmd 10) s m aa below meth cd H locs 0 0 QQ (F0 m 123 ls []) := by
    intro v1_j123 v2_j123 v3_j123 v4_j123 o_token_j123 o_from_j123 o_end_j123 o_value_j123 o_faultPlace_j123 o_faults_j123 o_depth_j123 o_counted_j123 o_at_j123 o_opened_j123 H locs ls hf hP hD hS hl
    unfold X12_weekStep_j123 at hf
    refine lv_aload_n hx hb dX12_weekStep_123 rfl (lv_at hl 0 rfl) ?_
    refine lv_dup hx hb dX12_weekStep_124 rfl ?_
    refine va_get (D := E.1) (ci := 12) (v := .int o_counted_j123) (C := RX12) (T := TX12) (N := 39) hx hb hts inX12 hown hK hP 0 rfl rfl 23 (by decide) (hts _ fl_X12_266) (fun _ h9 => h9) rfl dX12_weekStep_125 ?_
    refine lv_iload_n hx hb dX12_weekStep_128 rfl (lv_at hl 1 rfl) ?_
    refine lv_bipush (v := 19) hx hb dX12_weekStep_129 (by decide) ?_
    refine lv_icmp_ne (tgt := 138) hx hb dX12_weekStep_131 (by decide) (fun hc => ?_) (fun hc => ?_)
    · have hf := it_f hc hf
      refine lv_iconst (v := 1) hx hb dX12_weekStep_138 (by decide) ?_
      exact hj139 _ _ _ _ _ _ _ _ _ _ _ _ _ _ _ _ _ _ _ hf hP hD hS (lv_sub hl [0, 1, 2, 3, 4] rfl)
    · have hf := it_t hc hf
      refine lv_iconst (v := 0) hx hb dX12_weekStep_134 (by decide) ?_
      refine lv_goto (tgt := 139) hx hb dX12_weekStep_135 (by decide) ?_
      exact hj139 _ _ _ _ _ _ _ _ _ _ _ _ _ _ _ _ _ _ _ hf hP hD hS (lv_sub hl [0, 1, 2, 3, 4] rfl)
  have hj103 : ∀ (v1_j103 : Int32) (v2_j103 : Int32) (v3_j103 : Int32) (v4_j103 : Int32) (o_token_j103 : Int32) (o_from_j103 : Int32) (o_end_j103 : Int32) (o_value_j103 : Int32) (o_faultPlace_j103 : Int32) (o_faults_j103 : Int32) (o_depth_j103 : Int32) (o_counted_j103 : Int32) (o_at_j103 : Nat → Int32) (o_opened_j103 : Nat → Int32) (H : Heap) (locs : List Loc) (ls : Array Slot), X12_weekStep_j103 F o_size o_token_j103 o_from_j103 o_end_j103 o_value_j103 o_faultPlace_j103 o_faults_j103 o_depth_j103 o_counted_j103 o_at_j103 o_names o_text o_opened_j103 v1_j103 v2_j103 v3_j103 v4_j103 = some u → va_P E.1 vwCl (wd_X12_weekStep E a_o a_o_at a_o_names a_o_sort a_o_trayMany a_o_trays a_o_tape a_o_text a_o_opened a_o_farBy a_o_attendsBy a_o_coveredBy a_o_cameBy a_o_cameThen a_o_fallsBy a_o_loops a_o_ran a_o_told1 o_status o_top o_bottom o_taped o_size o_token_j103 o_from_j103 o_end_j103 o_value_j103 o_faultKind o_faultPlace_j103 o_faults_j103 o_seen o_toldParts o_depth_j103 o_counted_j103 o_becameThen o_firstCorner o_drawn o_ranSteps o_isTold o_marks o_at_j103 o_names o_text o_opened_j103) H → va_D A (wd_X12_weekStep E a_o a_o_at a_o_names a_o_sort a_o_trayMany a_o_trays a_o_tape a_o_text a_o_opened a_o_farBy a_o_attendsBy a_o_coveredBy a_o_cameBy a_o_cameThen a_o_fallsBy a_o_loops a_o_ran a_o_told1 o_status o_top o_bottom o_taped o_size o_token_j103 o_from_j103 o_end_j103 o_value_j103 o_faultKind o_faultPlace_j103 o_faults_j103 o_seen o_toldParts o_depth_j103 o_counted_j103 o_becameThen o_firstCorner o_drawn o_ranSteps o_isTold o_marks o_at_j103 o_names o_text o_opened_j103) → va_S A s.heap H locs → lv_has ls 6 [(0, .ref a_o), (1, .int v1_j103), (2, .int v2_j103), (3, .int v3_j103), (4, .int v4_j103)] → W p l e (rmd 10) s m aa below meth cd H locs 0 0 QQ (F0 m 103 ls []) := by
    intro v1_j103 v2_j103 v3_j103 v4_j103 o_token_j103 o_from_j103 o_end_j103 o_value_j103 o_faultPlace_j103 o_faults_j103 o_depth_j103 o_counted_j103 o_at_j103 o_opened_j103 H locs ls hf hP hD hS hl
    unfold X12_weekStep_j103 at hf
    refine lv_iload hx hb dX12_weekStep_103 (lv_at hl 4 rfl) ?_
    refine lv_if_eq (tgt := 123) hx hb dX12_weekStep_105 (by decide) (fun hc => ?_) (fun hc => ?_)
    · have hf := it_t hc hf
      exact hj123 _ _ _ _ _ _ _ _ _ _ _ _ _ _ _ _ _ hf hP hD hS (lv_sub hl [0, 1, 2, 3, 4] rfl)
    · have hf := it_f hc hf
      refine lv_aload_n hx hb dX12_weekStep_108 rfl (lv_at hl 0 rfl) ?_
      refine va_get (D := E.1) (ci := 12) (v := .int o_depth_j103) (C := RX12) (T := TX12) (N := 39) hx hb hts inX12 hown hK hP 0 rfl rfl 22 (by decide) (hts _ fl_X12_263) (fun _ h9 => h9) rfl dX12_weekStep_109 ?_
      refine lv_iconst (v := 3) hx hb dX12_weekStep_112 (by decide) ?_
      refine lv_icmp_ne (tgt := 123) hx hb dX12_weekStep_113 (by decide) (fun hc => ?_) (fun hc => ?_)
      · have hf := it_f hc hf
        exact hj123 _ _ _ _ _ _ _ _ _ _ _ _ _ _ _ _ _ hf hP hD hS (lv_sub hl [0, 1, 2, 3, 4] rfl)
      · have hf := it_t hc hf
        refine lv_aload_n hx hb dX12_weekStep_116 rfl (lv_at hl 0 rfl) ?_
        refine lv_bipush (v := 7) hx hb dX12_weekStep_117 (by decide) ?_
        obtain ⟨u119, hu119, hf⟩ := bd hf
        refine callVI (wn := (wd_X12_weekStep E a_o a_o_at a_o_names a_o_sort a_o_trayMany a_o_trays a_o_tape a_o_text a_o_opened a_o_farBy a_o_attendsBy a_o_coveredBy a_o_cameBy a_o_cameThen a_o_fallsBy a_o_loops a_o_ran a_o_told1 o_status o_top o_bottom o_taped o_size o_token_j103 o_from_j103 o_end_j103 o_value_j103 o_faultKind u119.2.1 u119.2.2 o_seen o_toldParts o_depth_j103 o_counted_j103 o_becameThen o_firstCorner o_drawn o_ranSteps o_isTold o_marks o_at_j103 o_names o_text o_opened_j103)) (n1 := 5) (ct_X12_fails l E a_o a_o_at a_o_names a_o_sort a_o_trayMany a_o_trays a_o_tape a_o_text a_o_opened a_o_farBy a_o_attendsBy a_o_coveredBy a_o_cameBy a_o_cameThen a_o_fallsBy a_o_loops a_o_ran a_o_told1 o_status o_top o_bottom o_taped o_size o_token_j103 o_from_j103 o_end_j103 o_value_j103 o_faultKind o_faultPlace_j103 o_faults_j103 o_seen o_toldParts o_depth_j103 o_counted_j103 o_becameThen o_firstCorner o_drawn o_ranSteps o_isTold o_marks (7 : Int32) u119 hu119) [0] cal_X12_fails cav_X12_fails lk_X12_167 cx hP hD hS hl dX12_weekStep_119 rfl rfl rfl rfl (Nat.le_of_ble_eq_true rfl) ⟨Nat.le_of_ble_eq_true rfl, Nat.le_of_ble_eq_true rfl⟩ rfl (by decide +kernel) rfl [some 0, none, none, none, none] rfl (by decide +kernel) rfl (fun H locs hP hD hS => ?_)
        obtain ⟨hz, hf⟩ := ck hf
        obtain rfl := Option.some.inj hf
        subst hq
        exact retZ cx hz hP hD hS dX12_weekStep_122
  have hj81 : ∀ (v1_j81 : Int32) (v2_j81 : Int32) (v3_j81 : Int32) (v4_j81 : Int32) (o_token_j81 : Int32) (o_from_j81 : Int32) (o_end_j81 : Int32) (o_value_j81 : Int32) (o_faultPlace_j81 : Int32) (o_faults_j81 : Int32) (o_depth_j81 : Int32) (o_counted_j81 : Int32) (o_at_j81 : Nat → Int32) (o_opened_j81 : Nat → Int32) (H : Heap) (locs : List Loc) (ls : Array Slot), X12_weekStep_j81 F o_size o_token_j81 o_from_j81 o_end_j81 o_value_j81 o_faultPlace_j81 o_faults_j81 o_depth_j81 o_counted_j81 o_at_j81 o_names o_text o_opened_j81 v1_j81 v2_j81 v3_j81 v4_j81 = some u → va_P E.1 vwCl (wd_X12_weekStep E a_o a_o_at a_o_names a_o_sort a_o_trayMany a_o_trays a_o_tape a_o_text a_o_opened a_o_farBy a_o_attendsBy a_o_coveredBy a_o_cameBy a_o_cameThen a_o_fallsBy a_o_loops a_o_ran a_o_told1 o_status o_top o_bottom o_taped o_size o_token_j81 o_from_j81 o_end_j81 o_value_j81 o_faultKind o_faultPlace_j81 o_faults_j81 o_seen o_toldParts o_depth_j81 o_counted_j81 o_becameThen o_firstCorner o_drawn o_ranSteps o_isTold o_marks o_at_j81 o_names o_text o_opened_j81) H → va_D A (wd_X12_weekStep E a_o a_o_at a_o_names a_o_sort a_o_trayMany a_o_trays a_o_tape a_o_text a_o_opened a_o_farBy a_o_attendsBy a_o_coveredBy a_o_cameBy a_o_cameThen a_o_fallsBy a_o_loops a_o_ran a_o_told1 o_status o_top o_bottom o_taped o_size o_token_j81 o_from_j81 o_end_j81 o_value_j81 o_faultKind o_faultPlace_j81 o_faults_j81 o_seen o_toldParts o_depth_j81 o_counted_j81 o_becameThen o_firstCorner o_drawn o_ranSteps o_isTold o_marks o_at_j81 o_names o_text o_opened_j81) → va_S A s.heap H locs → lv_has ls 6 [(0, .ref a_o), (1, .int v1_j81), (2, .int v2_j81), (3, .int v3_j81), (4, .int v4_j81)] → W p l e (rmd 10) s m aa below meth cd H locs 0 0 QQ (F0 m 81 ls []) := by
    intro v1_j81 v2_j81 v3_j81 v4_j81 o_token_j81 o_from_j81 o_end_j81 o_value_j81 o_faultPlace_j81 o_faults_j81 o_depth_j81 o_counted_j81 o_at_j81 o_opened_j81 H locs ls hf hP hD hS hl
    unfold X12_weekStep_j81 at hf
    refine lv_iload_n hx hb dX12_weekStep_81 rfl (lv_at hl 1 rfl) ?_
    refine lv_bipush (v := 19) hx hb dX12_weekStep_82 (by decide) ?_
    refine lv_icmp_eq (tgt := 103) hx hb dX12_weekStep_84 (by decide) (fun hc => ?_) (fun hc => ?_)
    · have hf := it_t hc hf
      exact hj103 _ _ _ _ _ _ _ _ _ _ _ _ _ _ _ _ _ hf hP hD hS (lv_sub hl [0, 1, 2, 3, 4] rfl)
    · have hf := it_f hc hf
      refine lv_aload_n hx hb dX12_weekStep_87 rfl (lv_at hl 0 rfl) ?_
      refine va_get (D := E.1) (ci := 12) (v := .int o_counted_j81) (C := RX12) (T := TX12) (N := 39) hx hb hts inX12 hown hK hP 0 rfl rfl 23 (by decide) (hts _ fl_X12_266) (fun _ h9 => h9) rfl dX12_weekStep_88 ?_
      refine lv_bipush (v := 30) hx hb dX12_weekStep_91 (by decide) ?_
      refine lv_icmp_ne (tgt := 103) hx hb dX12_weekStep_93 (by decide) (fun hc => ?_) (fun hc => ?_)
      · have hf := it_f hc hf
        exact hj103 _ _ _ _ _ _ _ _ _ _ _ _ _ _ _ _ _ hf hP hD hS (lv_sub hl [0, 1, 2, 3, 4] rfl)
      · have hf := it_t hc hf
        refine lv_aload_n hx hb dX12_weekStep_96 rfl (lv_at hl 0 rfl) ?_
        refine lv_bipush (v := 6) hx hb dX12_weekStep_97 (by decide) ?_
        obtain ⟨u99, hu99, hf⟩ := bd hf
        refine callVI (wn := (wd_X12_weekStep E a_o a_o_at a_o_names a_o_sort a_o_trayMany a_o_trays a_o_tape a_o_text a_o_opened a_o_farBy a_o_attendsBy a_o_coveredBy a_o_cameBy a_o_cameThen a_o_fallsBy a_o_loops a_o_ran a_o_told1 o_status o_top o_bottom o_taped o_size o_token_j81 o_from_j81 o_end_j81 o_value_j81 o_faultKind u99.2.1 u99.2.2 o_seen o_toldParts o_depth_j81 o_counted_j81 o_becameThen o_firstCorner o_drawn o_ranSteps o_isTold o_marks o_at_j81 o_names o_text o_opened_j81)) (n1 := 5) (ct_X12_fails l E a_o a_o_at a_o_names a_o_sort a_o_trayMany a_o_trays a_o_tape a_o_text a_o_opened a_o_farBy a_o_attendsBy a_o_coveredBy a_o_cameBy a_o_cameThen a_o_fallsBy a_o_loops a_o_ran a_o_told1 o_status o_top o_bottom o_taped o_size o_token_j81 o_from_j81 o_end_j81 o_value_j81 o_faultKind o_faultPlace_j81 o_faults_j81 o_seen o_toldParts o_depth_j81 o_counted_j81 o_becameThen o_firstCorner o_drawn o_ranSteps o_isTold o_marks (6 : Int32) u99 hu99) [0] cal_X12_fails cav_X12_fails lk_X12_167 cx hP hD hS hl dX12_weekStep_99 rfl rfl rfl rfl (Nat.le_of_ble_eq_true rfl) ⟨Nat.le_of_ble_eq_true rfl, Nat.le_of_ble_eq_true rfl⟩ rfl (by decide +kernel) rfl [some 0, none, none, none, none] rfl (by decide +kernel) rfl (fun H locs hP hD hS => ?_)
        obtain ⟨hz, hf⟩ := ck hf
        obtain rfl := Option.some.inj hf
        subst hq
        exact retZ cx hz hP hD hS dX12_weekStep_102
  have hj75 : ∀ (o_token_j75 : Int32) (o_from_j75 : Int32) (o_end_j75 : Int32) (o_value_j75 : Int32) (o_faultPlace_j75 : Int32) (o_faults_j75 : Int32) (o_depth_j75 : Int32) (o_counted_j75 : Int32) (o_at_j75 : Nat → Int32) (o_opened_j75 : Nat → Int32) (H : Heap) (locs : List Loc) (ls : Array Slot), X12_weekStep_j75 F o_size o_token_j75 o_from_j75 o_end_j75 o_value_j75 o_faultPlace_j75 o_faults_j75 o_depth_j75 o_counted_j75 o_at_j75 o_names o_text o_opened_j75 = some u → va_P E.1 vwCl (wd_X12_weekStep E a_o a_o_at a_o_names a_o_sort a_o_trayMany a_o_trays a_o_tape a_o_text a_o_opened a_o_farBy a_o_attendsBy a_o_coveredBy a_o_cameBy a_o_cameThen a_o_fallsBy a_o_loops a_o_ran a_o_told1 o_status o_top o_bottom o_taped o_size o_token_j75 o_from_j75 o_end_j75 o_value_j75 o_faultKind o_faultPlace_j75 o_faults_j75 o_seen o_toldParts o_depth_j75 o_counted_j75 o_becameThen o_firstCorner o_drawn o_ranSteps o_isTold o_marks o_at_j75 o_names o_text o_opened_j75) H → va_D A (wd_X12_weekStep E a_o a_o_at a_o_names a_o_sort a_o_trayMany a_o_trays a_o_tape a_o_text a_o_opened a_o_farBy a_o_attendsBy a_o_coveredBy a_o_cameBy a_o_cameThen a_o_fallsBy a_o_loops a_o_ran a_o_told1 o_status o_top o_bottom o_taped o_size o_token_j75 o_from_j75 o_end_j75 o_value_j75 o_faultKind o_faultPlace_j75 o_faults_j75 o_seen o_toldParts o_depth_j75 o_counted_j75 o_becameThen o_firstCorner o_drawn o_ranSteps o_isTold o_marks o_at_j75 o_names o_text o_opened_j75) → va_S A s.heap H locs → lv_has ls 6 [(0, .ref a_o)] → W p l e (rmd 10) s m aa below meth cd H locs 0 0 QQ (F0 m 75 ls []) := by
    intro o_token_j75 o_from_j75 o_end_j75 o_value_j75 o_faultPlace_j75 o_faults_j75 o_depth_j75 o_counted_j75 o_at_j75 o_opened_j75 H locs ls hf hP hD hS hl
    unfold X12_weekStep_j75 at hf
    refine lv_aload_n hx hb dX12_weekStep_75 rfl (lv_at hl 0 rfl) ?_
    refine lv_iconst (v := 2) hx hb dX12_weekStep_76 (by decide) ?_
    obtain ⟨u77, hu77, hf⟩ := bd hf
    refine callVI (wn := (wd_X12_weekStep E a_o a_o_at a_o_names a_o_sort a_o_trayMany a_o_trays a_o_tape a_o_text a_o_opened a_o_farBy a_o_attendsBy a_o_coveredBy a_o_cameBy a_o_cameThen a_o_fallsBy a_o_loops a_o_ran a_o_told1 o_status o_top o_bottom o_taped o_size o_token_j75 o_from_j75 o_end_j75 o_value_j75 o_faultKind u77.2.1 u77.2.2 o_seen o_toldParts o_depth_j75 o_counted_j75 o_becameThen o_firstCorner o_drawn o_ranSteps o_isTold o_marks o_at_j75 o_names o_text o_opened_j75)) (n1 := 5) (ct_X12_fails l E a_o a_o_at a_o_names a_o_sort a_o_trayMany a_o_trays a_o_tape a_o_text a_o_opened a_o_farBy a_o_attendsBy a_o_coveredBy a_o_cameBy a_o_cameThen a_o_fallsBy a_o_loops a_o_ran a_o_told1 o_status o_top o_bottom o_taped o_size o_token_j75 o_from_j75 o_end_j75 o_value_j75 o_faultKind o_faultPlace_j75 o_faults_j75 o_seen o_toldParts o_depth_j75 o_counted_j75 o_becameThen o_firstCorner o_drawn o_ranSteps o_isTold o_marks (2 : Int32) u77 hu77) [0] cal_X12_fails cav_X12_fails lk_X12_167 cx hP hD hS hl dX12_weekStep_77 rfl rfl rfl rfl (Nat.le_of_ble_eq_true rfl) ⟨Nat.le_of_ble_eq_true rfl, Nat.le_of_ble_eq_true rfl⟩ rfl (by decide +kernel) rfl [some 0, none, none, none, none] rfl (by decide +kernel) rfl (fun H locs hP hD hS => ?_)
    obtain ⟨hz, hf⟩ := ck hf
    obtain rfl := Option.some.inj hf
    subst hq
    exact retZ cx hz hP hD hS dX12_weekStep_80
  have hj62 : ∀ (v1_j62 : Int32) (v2_j62 : Int32) (v3_j62 : Int32) (v4_j62 : Int32) (o_token_j62 : Int32) (o_from_j62 : Int32) (o_end_j62 : Int32) (o_value_j62 : Int32) (o_faultPlace_j62 : Int32) (o_faults_j62 : Int32) (o_depth_j62 : Int32) (o_counted_j62 : Int32) (o_at_j62 : Nat → Int32) (o_opened_j62 : Nat → Int32) (H : Heap) (locs : List Loc) (ls : Array Slot), X12_weekStep_j62 F o_size o_token_j62 o_from_j62 o_end_j62 o_value_j62 o_faultPlace_j62 o_faults_j62 o_depth_j62 o_counted_j62 o_at_j62 o_names o_text o_opened_j62 v1_j62 v2_j62 v3_j62 v4_j62 = some u → va_P E.1 vwCl (wd_X12_weekStep E a_o a_o_at a_o_names a_o_sort a_o_trayMany a_o_trays a_o_tape a_o_text a_o_opened a_o_farBy a_o_attendsBy a_o_coveredBy a_o_cameBy a_o_cameThen a_o_fallsBy a_o_loops a_o_ran a_o_told1 o_status o_top o_bottom o_taped o_size o_token_j62 o_from_j62 o_end_j62 o_value_j62 o_faultKind o_faultPlace_j62 o_faults_j62 o_seen o_toldParts o_depth_j62 o_counted_j62 o_becameThen o_firstCorner o_drawn o_ranSteps o_isTold o_marks o_at_j62 o_names o_text o_opened_j62) H → va_D A (wd_X12_weekStep E a_o a_o_at a_o_names a_o_sort a_o_trayMany a_o_trays a_o_tape a_o_text a_o_opened a_o_farBy a_o_attendsBy a_o_coveredBy a_o_cameBy a_o_cameThen a_o_fallsBy a_o_loops a_o_ran a_o_told1 o_status o_top o_bottom o_taped o_size o_token_j62 o_from_j62 o_end_j62 o_value_j62 o_faultKind o_faultPlace_j62 o_faults_j62 o_seen o_toldParts o_depth_j62 o_counted_j62 o_becameThen o_firstCorner o_drawn o_ranSteps o_isTold o_marks o_at_j62 o_names o_text o_opened_j62) → va_S A s.heap H locs → lv_has ls 6 [(0, .ref a_o), (1, .int v1_j62), (2, .int v2_j62), (3, .int v3_j62), (4, .int v4_j62)] → W p l e (rmd 10) s m aa below meth cd H locs 0 0 QQ (F0 m 62 ls []) := by
    intro v1_j62 v2_j62 v3_j62 v4_j62 o_token_j62 o_from_j62 o_end_j62 o_value_j62 o_faultPlace_j62 o_faults_j62 o_depth_j62 o_counted_j62 o_at_j62 o_opened_j62 H locs ls hf hP hD hS hl
    unfold X12_weekStep_j62 at hf
    refine lv_iload_n hx hb dX12_weekStep_62 rfl (lv_at hl 1 rfl) ?_
    refine lv_bipush (v := 19) hx hb dX12_weekStep_63 (by decide) ?_
    refine lv_icmp_ne (tgt := 81) hx hb dX12_weekStep_65 (by decide) (fun hc => ?_) (fun hc => ?_)
    · have hf := it_f hc hf
      exact hj81 _ _ _ _ _ _ _ _ _ _ _ _ _ _ _ _ _ hf hP hD hS (lv_sub hl [0, 1, 2, 3, 4] rfl)
    · have hf := it_t hc hf
      refine lv_aload_n hx hb dX12_weekStep_68 rfl (lv_at hl 0 rfl) ?_
      refine va_get (D := E.1) (ci := 12) (v := .int o_depth_j62) (C := RX12) (T := TX12) (N := 39) hx hb hts inX12 hown hK hP 0 rfl rfl 22 (by decide) (hts _ fl_X12_263) (fun _ h9 => h9) rfl dX12_weekStep_69 ?_
      refine lv_if_ne (tgt := 81) hx hb dX12_weekStep_72 (by decide) (fun hc => ?_) (fun hc => ?_)
      · have hf := it_f hc hf
        exact hj81 _ _ _ _ _ _ _ _ _ _ _ _ _ _ _ _ _ hf hP hD hS (lv_sub hl [0, 1, 2, 3, 4] rfl)
      · have hf := it_t hc hf
        exact hj75 _ _ _ _ _ _ _ _ _ _ _ _ _ hf hP hD hS (lv_sub hl [0] rfl)
  have hj42 : ∀ (v1_j42 : Int32) (v2_j42 : Int32) (v3_j42 : Int32) (o_token_j42 : Int32) (o_from_j42 : Int32) (o_end_j42 : Int32) (o_value_j42 : Int32) (o_faultPlace_j42 : Int32) (o_faults_j42 : Int32) (o_depth_j42 : Int32) (o_counted_j42 : Int32) (o_at_j42 : Nat → Int32) (o_opened_j42 : Nat → Int32) (k0_j42 : Int32) (H : Heap) (locs : List Loc) (ls : Array Slot), X12_weekStep_j42 F o_size o_token_j42 o_from_j42 o_end_j42 o_value_j42 o_faultPlace_j42 o_faults_j42 o_depth_j42 o_counted_j42 o_at_j42 o_names o_text o_opened_j42 v1_j42 v2_j42 v3_j42 k0_j42 = some u → va_P E.1 vwCl (wd_X12_weekStep E a_o a_o_at a_o_names a_o_sort a_o_trayMany a_o_trays a_o_tape a_o_text a_o_opened a_o_farBy a_o_attendsBy a_o_coveredBy a_o_cameBy a_o_cameThen a_o_fallsBy a_o_loops a_o_ran a_o_told1 o_status o_top o_bottom o_taped o_size o_token_j42 o_from_j42 o_end_j42 o_value_j42 o_faultKind o_faultPlace_j42 o_faults_j42 o_seen o_toldParts o_depth_j42 o_counted_j42 o_becameThen o_firstCorner o_drawn o_ranSteps o_isTold o_marks o_at_j42 o_names o_text o_opened_j42) H → va_D A (wd_X12_weekStep E a_o a_o_at a_o_names a_o_sort a_o_trayMany a_o_trays a_o_tape a_o_text a_o_opened a_o_farBy a_o_attendsBy a_o_coveredBy a_o_cameBy a_o_cameThen a_o_fallsBy a_o_loops a_o_ran a_o_told1 o_status o_top o_bottom o_taped o_size o_token_j42 o_from_j42 o_end_j42 o_value_j42 o_faultKind o_faultPlace_j42 o_faults_j42 o_seen o_toldParts o_depth_j42 o_counted_j42 o_becameThen o_firstCorner o_drawn o_ranSteps o_isTold o_marks o_at_j42 o_names o_text o_opened_j42) → va_S A s.heap H locs → lv_has ls 6 [(0, .ref a_o), (1, .int v1_j42), (2, .int v2_j42), (3, .int v3_j42)] → W p l e (rmd 10) s m aa below meth cd H locs 0 0 QQ (F0 m 42 ls [.int k0_j42]) := by
    intro v1_j42 v2_j42 v3_j42 o_token_j42 o_from_j42 o_end_j42 o_value_j42 o_faultPlace_j42 o_faults_j42 o_depth_j42 o_counted_j42 o_at_j42 o_opened_j42 k0_j42 H locs ls hf hP hD hS hl
    unfold X12_weekStep_j42 at hf
    refine lv_istore (lv' := [(4, .int k0_j42), (0, .ref a_o), (1, .int v1_j42), (2, .int v2_j42), (3, .int v3_j42)]) hx hb dX12_weekStep_42 hl (by decide) rfl (fun ls hl => ?_)
    refine lv_iload_n hx hb dX12_weekStep_44 rfl (lv_at hl 2 rfl) ?_
    refine lv_bipush (v := 11) hx hb dX12_weekStep_45 (by decide) ?_
    refine lv_icmp_eq (tgt := 62) hx hb dX12_weekStep_47 (by decide) (fun hc => ?_) (fun hc => ?_)
    · have hf := it_t hc hf
      exact hj62 _ _ _ _ _ _ _ _ _ _ _ _ _ _ _ _ _ hf hP hD hS (lv_sub hl [1, 2, 3, 4, 0] rfl)
    · have hf := it_f hc hf
      refine lv_iload_n hx hb dX12_weekStep_50 rfl (lv_at hl 2 rfl) ?_
      refine lv_bipush (v := 14) hx hb dX12_weekStep_51 (by decide) ?_
      refine lv_icmp_lt (tgt := 75) hx hb dX12_weekStep_53 (by decide) (fun hc => ?_) (fun hc => ?_)
      · have hf := it_t hc hf
        exact hj75 _ _ _ _ _ _ _ _ _ _ _ _ _ hf hP hD hS (lv_sub hl [1] rfl)
      · have hf := it_f hc hf
        refine lv_iload_n hx hb dX12_weekStep_56 rfl (lv_at hl 2 rfl) ?_
        refine lv_bipush (v := 20) hx hb dX12_weekStep_57 (by decide) ?_
        refine lv_icmp_gt (tgt := 75) hx hb dX12_weekStep_59 (by decide) (fun hc => ?_) (fun hc => ?_)
        · have hf := it_t hc hf
          exact hj75 _ _ _ _ _ _ _ _ _ _ _ _ _ hf hP hD hS (lv_sub hl [1] rfl)
        · have hf := it_f hc hf
          exact hj62 _ _ _ _ _ _ _ _ _ _ _ _ _ _ _ _ _ hf hP hD hS (lv_sub hl [1, 2, 3, 4, 0] rfl)
  have hj37 : ∀ (v1_j37 : Int32) (v2_j37 : Int32) (v3_j37 : Int32) (o_token_j37 : Int32) (o_from_j37 : Int32) (o_end_j37 : Int32) (o_value_j37 : Int32) (o_faultPlace_j37 : Int32) (o_faults_j37 : Int32) (o_depth_j37 : Int32) (o_counted_j37 : Int32) (o_at_j37 : Nat → Int32) (o_opened_j37 : Nat → Int32) (H : Heap) (locs : List Loc) (ls : Array Slot), X12_weekStep_j37 F o_size o_token_j37 o_from_j37 o_end_j37 o_value_j37 o_faultPlace_j37 o_faults_j37 o_depth_j37 o_counted_j37 o_at_j37 o_names o_text o_opened_j37 v1_j37 v2_j37 v3_j37 = some u → va_P E.1 vwCl (wd_X12_weekStep E a_o a_o_at a_o_names a_o_sort a_o_trayMany a_o_trays a_o_tape a_o_text a_o_opened a_o_farBy a_o_attendsBy a_o_coveredBy a_o_cameBy a_o_cameThen a_o_fallsBy a_o_loops a_o_ran a_o_told1 o_status o_top o_bottom o_taped o_size o_token_j37 o_from_j37 o_end_j37 o_value_j37 o_faultKind o_faultPlace_j37 o_faults_j37 o_seen o_toldParts o_depth_j37 o_counted_j37 o_becameThen o_firstCorner o_drawn o_ranSteps o_isTold o_marks o_at_j37 o_names o_text o_opened_j37) H → va_D A (wd_X12_weekStep E a_o a_o_at a_o_names a_o_sort a_o_trayMany a_o_trays a_o_tape a_o_text a_o_opened a_o_farBy a_o_attendsBy a_o_coveredBy a_o_cameBy a_o_cameThen a_o_fallsBy a_o_loops a_o_ran a_o_told1 o_status o_top o_bottom o_taped o_size o_token_j37 o_from_j37 o_end_j37 o_value_j37 o_faultKind o_faultPlace_j37 o_faults_j37 o_seen o_toldParts o_depth_j37 o_counted_j37 o_becameThen o_firstCorner o_drawn o_ranSteps o_isTold o_marks o_at_j37 o_names o_text o_opened_j37) → va_S A s.heap H locs → lv_has ls 6 [(0, .ref a_o), (1, .int v1_j37), (2, .int v2_j37), (3, .int v3_j37)] → W p l e (rmd 10) s m aa below meth cd H locs 0 0 QQ (F0 m 37 ls []) := by
    intro v1_j37 v2_j37 v3_j37 o_token_j37 o_from_j37 o_end_j37 o_value_j37 o_faultPlace_j37 o_faults_j37 o_depth_j37 o_counted_j37 o_at_j37 o_opened_j37 H locs ls hf hP hD hS hl
    unfold X12_weekStep_j37 at hf
    refine lv_iconst (v := 1) hx hb dX12_weekStep_37 (by decide) ?_
    refine lv_goto (tgt := 42) hx hb dX12_weekStep_38 (by decide) ?_
    exact hj42 _ _ _ _ _ _ _ _ _ _ _ _ _ _ _ _ _ hf hP hD hS (lv_sub hl [0, 1, 2, 3] rfl)
  unfold X12_weekStep at hf
  refine lv_aload_n hx hb dX12_weekStep_0 rfl (lv_at hl 0 rfl) ?_
  refine va_ldcS hx hb hown hX.2.2.2.2.1 dX12_weekStep_1 ?_
  obtain ⟨u3, hu3, hf⟩ := bd hf
  refine keepVI (ct_X12_inWords l E F a_o a_o_at a_o_names a_o_sort a_o_trayMany a_o_trays a_o_tape a_o_text a_o_opened a_o_farBy a_o_attendsBy a_o_coveredBy a_o_cameBy a_o_cameThen a_o_fallsBy a_o_loops a_o_ran a_o_told1 o_status o_top o_bottom o_taped o_size o_token o_from o_end o_value o_faultKind o_faultPlace o_faults o_seen o_toldParts o_depth o_counted o_becameThen o_firstCorner o_drawn o_ranSteps o_isTold o_marks o_text u3 hu3) [0, 3] cal_X12_inWords cav_X12_inWords lk_X12_170 cx hP hD hS hl dX12_weekStep_3 rfl rfl rfl rfl (Nat.le_of_ble_eq_true rfl) ⟨Nat.le_of_ble_eq_true rfl, Nat.le_of_ble_eq_true rfl⟩ rfl (by decide) (fun H locs hP hS => ?_)
  refine lv_istore_n (lv' := [(1, .int u3), (0, .ref a_o)]) hx hb dX12_weekStep_6 rfl hl (by decide) rfl (fun ls hl => ?_)
  refine lv_aload_n hx hb dX12_weekStep_7 rfl (lv_at hl 1 rfl) ?_
  refine va_get (D := E.1) (ci := 12) (v := .ref a_o_at) (C := RX12) (T := TX12) (N := 39) hx hb hts inX12 hown hK hP 0 rfl rfl 0 (by decide) (hts _ fl_X12_7) (fun _ h9 => h9) rfl dX12_weekStep_8 ?_
  refine lv_sipush (v := 1989) hx hb dX12_weekStep_11 (by decide) ?_
  obtain ⟨hi, hf⟩ := ck hf
  refine r_iald 1 cx hP rfl hi dX12_weekStep_14 ?_
  refine lv_istore_n (lv' := [(2, .int (jat o_at 1989)), (1, .int u3), (0, .ref a_o)]) hx hb dX12_weekStep_15 rfl hl (by decide) rfl (fun ls hl => ?_)
  refine lv_sipush (v := 2107) hx hb dX12_weekStep_16 (by decide) ?_
  refine lv_bipush (v := 6) hx hb dX12_weekStep_19 (by decide) ?_
  refine lv_iload_n hx hb dX12_weekStep_21 rfl (lv_at hl 0 rfl) ?_
  refine lv_imul hx hb dX12_weekStep_22 ?_
  refine lv_iadd hx hb dX12_weekStep_23 ?_
  refine lv_istore_n (lv' := [(3, .int (2107 + (6 * (jat o_at 1989)))), (2, .int (jat o_at 1989)), (1, .int u3), (0, .ref a_o)]) hx hb dX12_weekStep_24 rfl hl (by decide) rfl (fun ls hl => ?_)
  refine lv_iload_n hx hb dX12_weekStep_25 rfl (lv_at hl 2 rfl) ?_
  refine lv_bipush (v := 17) hx hb dX12_weekStep_26 (by decide) ?_
  refine lv_icmp_eq (tgt := 37) hx hb dX12_weekStep_28 (by decide) (fun hc => ?_) (fun hc => ?_)
  · have hf := it_t hc hf
    exact hj37 _ _ _ _ _ _ _ _ _ _ _ _ _ _ _ _ hf hP hD hS (lv_sub hl [3, 2, 1, 0] rfl)
  · have hf := it_f hc hf
    refine lv_iload_n hx hb dX12_weekStep_31 rfl (lv_at hl 2 rfl) ?_
    refine lv_bipush (v := 18) hx hb dX12_weekStep_32 (by decide) ?_
    refine lv_icmp_ne (tgt := 41) hx hb dX12_weekStep_34 (by decide) (fun hc => ?_) (fun hc => ?_)
    · have hf := it_f hc hf
      refine lv_iconst (v := 0) hx hb dX12_weekStep_41 (by decide) ?_
      exact hj42 _ _ _ _ _ _ _ _ _ _ _ _ _ _ _ _ _ hf hP hD hS (lv_sub hl [3, 2, 1, 0] rfl)
    · have hf := it_t hc hf
      exact hj37 _ _ _ _ _ _ _ _ _ _ _ _ _ _ _ _ hf hP hD hS (lv_sub hl [3, 2, 1, 0] rfl)
