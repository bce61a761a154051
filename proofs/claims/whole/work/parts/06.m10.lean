def X12_overIn (F : Nat) (o_status : Int32) (o_becameThen : Int32) (o_at : Nat → Int32) (o_farBy : Nat → Int32) (v1 : Int32) : Option (Int32 × Int32 × Int32 × (Nat → Int32) × (Nat → Int32)) :=
  (X12_isHappening o_at v1).bind fun u2 =>
  if u2 = 0 then
  (X12_refuse o_status (1 : Int32)).bind fun u22 =>
  some (u22.1, u22.2, o_becameThen, o_at, o_farBy)
  else
  (X12_overOf F o_becameThen o_at o_farBy v1).bind fun u11 =>
  (X12_orNone o_status u11.1).bind fun u14 =>
  some (u14.1, u14.2, u11.2.1, u11.2.2.1, u11.2.2.2)
abbrev wd_X12_overIn (E : vE) (a_o a_o_at a_o_names a_o_sort a_o_trayMany a_o_trays a_o_tape a_o_text a_o_opened a_o_farBy a_o_attendsBy a_o_coveredBy a_o_cameBy a_o_cameThen a_o_fallsBy a_o_loops a_o_ran a_o_told1 : Nat) (o_status : Int32) (o_top : Int64) (o_bottom : Int64) (o_taped : Int32) (o_size : Int32) (o_token : Int32) (o_from : Int32) (o_end : Int32) (o_value : Int32) (o_faultKind : Int32) (o_faultPlace : Int32) (o_faults : Int32) (o_seen : Int32) (o_toldParts : Int32) (o_depth : Int32) (o_counted : Int32) (o_becameThen : Int32) (o_firstCorner : Int32) (o_drawn : Int32) (o_ranSteps : Int32) (o_isTold : Int32) (o_marks : Int32) (o_at : Nat → Int32) (o_farBy : Nat → Int32) : va_W := [(a_o, .inr (12, [.ref a_o_at, .ref a_o_names, .int o_status, .long o_top, .long o_bottom, .ref a_o_sort, .ref a_o_trayMany, .ref a_o_trays, .ref a_o_tape, .ref a_o_text, .int o_taped, .int o_size, .int o_token, .int o_from, .int o_end, .int o_value, .int o_faultKind, .int o_faultPlace, .int o_faults, .int o_seen, .int o_toldParts, .ref a_o_opened, .int o_depth, .int o_counted, .ref a_o_farBy, .int o_becameThen, .ref a_o_attendsBy, .ref a_o_coveredBy, .ref a_o_cameBy, .ref a_o_cameThen, .int o_firstCorner, .ref a_o_fallsBy, .int o_drawn, .int o_ranSteps, .ref a_o_loops, .ref a_o_ran, .ref a_o_told1, .int o_isTold, .int o_marks])), (a_o_at, .inl (E.2.1, 3097, .inl o_at)), (a_o_farBy, .inl (E.2.1, 64, .inl o_farBy))]
set_option maxHeartbeats 4000000 in
set_option maxRecDepth 100000 in
theorem ct_X12_overIn (l : Launch) (E : vE) (F : Nat) (a_o a_o_at a_o_names a_o_sort a_o_trayMany a_o_trays a_o_tape a_o_text a_o_opened a_o_farBy a_o_attendsBy a_o_coveredBy a_o_cameBy a_o_cameThen a_o_fallsBy a_o_loops a_o_ran a_o_told1 : Nat) (o_status : Int32) (o_top : Int64) (o_bottom : Int64) (o_taped : Int32) (o_size : Int32) (o_token : Int32) (o_from : Int32) (o_end : Int32) (o_value : Int32) (o_faultKind : Int32) (o_faultPlace : Int32) (o_faults : Int32) (o_seen : Int32) (o_toldParts : Int32) (o_depth : Int32) (o_counted : Int32) (o_becameThen : Int32) (o_firstCorner : Int32) (o_drawn : Int32) (o_ranSteps : Int32) (o_isTold : Int32) (o_marks : Int32) (o_at : Nat → Int32) (o_farBy : Nat → Int32) (v1 : Int32) (u : Int32 × Int32 × Int32 × (Nat → Int32) × (Nat → Int32)) (hf : X12_overIn F o_status o_becameThen o_at o_farBy v1 = some u) :
    CtI l yX12_overIn cX12_overIn 2 (some .int) 8 E [.ref a_o, .int v1] (wd_X12_overIn E a_o a_o_at a_o_names a_o_sort a_o_trayMany a_o_trays a_o_tape a_o_text a_o_opened a_o_farBy a_o_attendsBy a_o_coveredBy a_o_cameBy a_o_cameThen a_o_fallsBy a_o_loops a_o_ran a_o_told1 o_status o_top o_bottom o_taped o_size o_token o_from o_end o_value o_faultKind o_faultPlace o_faults o_seen o_toldParts o_depth o_counted o_becameThen o_firstCorner o_drawn o_ranSteps o_isTold o_marks o_at o_farBy) (wd_X12_overIn E a_o a_o_at a_o_names a_o_sort a_o_trayMany a_o_trays a_o_tape a_o_text a_o_opened a_o_farBy a_o_attendsBy a_o_coveredBy a_o_cameBy a_o_cameThen a_o_fallsBy a_o_loops a_o_ran a_o_told1 u.2.1 o_top o_bottom o_taped o_size o_token o_from o_end o_value o_faultKind o_faultPlace o_faults o_seen o_toldParts o_depth o_counted u.2.2.1 o_firstCorner o_drawn o_ranSteps o_isTold o_marks u.2.2.2.1 u.2.2.2.2) u.1 := by
  refine ctI (by decide) (Nat.le_of_ble_eq_true rfl) ?_
  intro p e s m below meth cd A ls aa QQ hq cx hP hD hS hl
  obtain ⟨⟨hx, hb, hml, hown, hts⟩, hr, hlocks, hK, hA, hX⟩ := id cx
  have hl : lv_has ls 2 [(0, .ref a_o), (1, .int v1)] := hl
  unfold X12_overIn at hf
  refine lv_aload_n hx hb dX12_overIn_0 rfl (lv_at hl 0 rfl) ?_
  refine lv_iload_n hx hb dX12_overIn_1 rfl (lv_at hl 1 rfl) ?_
  obtain ⟨u2, hu2, hf⟩ := bd hf
  refine keepVI (ct_X12_isHappening l E a_o a_o_at a_o_names a_o_sort a_o_trayMany a_o_trays a_o_tape a_o_text a_o_opened a_o_farBy a_o_attendsBy a_o_coveredBy a_o_cameBy a_o_cameThen a_o_fallsBy a_o_loops a_o_ran a_o_told1 o_status o_top o_bottom o_taped o_size o_token o_from o_end o_value o_faultKind o_faultPlace o_faults o_seen o_toldParts o_depth o_counted o_becameThen o_firstCorner o_drawn o_ranSteps o_isTold o_marks o_at v1 u2 hu2) [0, 1] cal_X12_isHappening cav_X12_isHappening lk_X12_296 cx hP hD hS hl dX12_overIn_2 rfl rfl rfl rfl (Nat.le_of_ble_eq_true rfl) ⟨Nat.le_of_ble_eq_true rfl, Nat.le_of_ble_eq_true rfl⟩ rfl (by decide) (fun H locs hP hS => ?_)
  refine lv_if_eq (tgt := 20) hx hb dX12_overIn_5 (by decide) (fun hc => ?_) (fun hc => ?_)
  · have hf := it_t hc hf
    refine lv_aload_n hx hb dX12_overIn_20 rfl (lv_at hl 0 rfl) ?_
    refine lv_iconst (v := 1) hx hb dX12_overIn_21 (by decide) ?_
    obtain ⟨u22, hu22, hf⟩ := bd hf
    refine callVI (wn := (wd_X12_overIn E a_o a_o_at a_o_names a_o_sort a_o_trayMany a_o_trays a_o_tape a_o_text a_o_opened a_o_farBy a_o_attendsBy a_o_coveredBy a_o_cameBy a_o_cameThen a_o_fallsBy a_o_loops a_o_ran a_o_told1 u22.2 o_top o_bottom o_taped o_size o_token o_from o_end o_value o_faultKind o_faultPlace o_faults o_seen o_toldParts o_depth o_counted o_becameThen o_firstCorner o_drawn o_ranSteps o_isTold o_marks o_at o_farBy)) (n1 := 3) (ct_X12_refuse l E a_o a_o_at a_o_names a_o_sort a_o_trayMany a_o_trays a_o_tape a_o_text a_o_opened a_o_farBy a_o_attendsBy a_o_coveredBy a_o_cameBy a_o_cameThen a_o_fallsBy a_o_loops a_o_ran a_o_told1 o_status o_top o_bottom o_taped o_size o_token o_from o_end o_value o_faultKind o_faultPlace o_faults o_seen o_toldParts o_depth o_counted o_becameThen o_firstCorner o_drawn o_ranSteps o_isTold o_marks (1 : Int32) u22 hu22) [0] cal_X12_refuse cav_X12_refuse lk_X12_85 cx hP hD hS hl dX12_overIn_22 rfl rfl rfl rfl (Nat.le_of_ble_eq_true rfl) ⟨Nat.le_of_ble_eq_true rfl, Nat.le_of_ble_eq_true rfl⟩ rfl (by decide +kernel) rfl [some 0, none, none] rfl (by decide +kernel) rfl (fun H locs hP hD hS => ?_)
    obtain rfl := Option.some.inj hf
    subst hq
    exact retI cx hP hD hS dX12_overIn_25
  · have hf := it_f hc hf
    refine lv_aload_n hx hb dX12_overIn_8 rfl (lv_at hl 0 rfl) ?_
    refine lv_aload_n hx hb dX12_overIn_9 rfl (lv_at hl 0 rfl) ?_
    refine lv_iload_n hx hb dX12_overIn_10 rfl (lv_at hl 1 rfl) ?_
    obtain ⟨u11, hu11, hf⟩ := bd hf
    refine callVI (wn := (wd_X12_overIn E a_o a_o_at a_o_names a_o_sort a_o_trayMany a_o_trays a_o_tape a_o_text a_o_opened a_o_farBy a_o_attendsBy a_o_coveredBy a_o_cameBy a_o_cameThen a_o_fallsBy a_o_loops a_o_ran a_o_told1 o_status o_top o_bottom o_taped o_size o_token o_from o_end o_value o_faultKind o_faultPlace o_faults o_seen o_toldParts o_depth o_counted u11.2.1 o_firstCorner o_drawn o_ranSteps o_isTold o_marks u11.2.2.1 u11.2.2.2)) (n1 := 3) (ct_X12_overOf l E F a_o a_o_at a_o_names a_o_sort a_o_trayMany a_o_trays a_o_tape a_o_text a_o_opened a_o_farBy a_o_attendsBy a_o_coveredBy a_o_cameBy a_o_cameThen a_o_fallsBy a_o_loops a_o_ran a_o_told1 o_status o_top o_bottom o_taped o_size o_token o_from o_end o_value o_faultKind o_faultPlace o_faults o_seen o_toldParts o_depth o_counted o_becameThen o_firstCorner o_drawn o_ranSteps o_isTold o_marks o_at o_farBy v1 u11 hu11) [0, 1, 2] cal_X12_overOf cav_X12_overOf lk_X12_396 cx hP hD hS hl dX12_overIn_11 rfl rfl rfl rfl (Nat.le_of_ble_eq_true rfl) ⟨Nat.le_of_ble_eq_true rfl, Nat.le_of_ble_eq_true rfl⟩ rfl (by decide +kernel) rfl [some 0, some 1, some 2] rfl (by decide +kernel) rfl (fun H locs hP hD hS => ?_)
    obtain ⟨u14, hu14, hf⟩ := bd hf
    refine callVI (wn := (wd_X12_overIn E a_o a_o_at a_o_names a_o_sort a_o_trayMany a_o_trays a_o_tape a_o_text a_o_opened a_o_farBy a_o_attendsBy a_o_coveredBy a_o_cameBy a_o_cameThen a_o_fallsBy a_o_loops a_o_ran a_o_told1 u14.2 o_top o_bottom o_taped o_size o_token o_from o_end o_value o_faultKind o_faultPlace o_faults o_seen o_toldParts o_depth o_counted u11.2.1 o_firstCorner o_drawn o_ranSteps o_isTold o_marks u11.2.2.1 u11.2.2.2)) (n1 := 3) (ct_X12_orNone l E a_o a_o_at a_o_names a_o_sort a_o_trayMany a_o_trays a_o_tape a_o_text a_o_opened a_o_farBy a_o_attendsBy a_o_coveredBy a_o_cameBy a_o_cameThen a_o_fallsBy a_o_loops a_o_ran a_o_told1 o_status o_top o_bottom o_taped o_size o_token o_from o_end o_value o_faultKind o_faultPlace o_faults o_seen o_toldParts o_depth o_counted u11.2.1 o_firstCorner o_drawn o_ranSteps o_isTold o_marks u11.1 u14 hu14) [0] cal_X12_orNone cav_X12_orNone lk_X12_324 cx hP hD hS hl dX12_overIn_14 rfl rfl rfl rfl (Nat.le_of_ble_eq_true rfl) ⟨Nat.le_of_ble_eq_true rfl, Nat.le_of_ble_eq_true rfl⟩ rfl (by decide +kernel) rfl [some 0, none, none] rfl (by decide +kernel) rfl (fun H locs hP hD hS => ?_)
    refine lv_goto (tgt := 25) hx hb dX12_overIn_17 (by decide) ?_
    obtain rfl := Option.some.inj hf
    subst hq
    exact retI cx hP hD hS dX12_overIn_25
def X12_becomes (F : Nat) (o_status : Int32) (o_becameThen : Int32) (o_at : Nat → Int32) (o_farBy : Nat → Int32) (v1 : Int32) : Option (Int32 × Int32 × Int32 × (Nat → Int32) × (Nat → Int32)) :=
  (X12_isHappening o_at v1).bind fun u2 =>
  if u2 = 0 then
  (X12_refuse o_status (1 : Int32)).bind fun u10 =>
  some (u10.1, u10.2, o_becameThen, o_at, o_farBy)
  else
  (X12_overOf F o_becameThen o_at o_farBy v1).bind fun u16 =>
  if u16.1 = (-1) then
  (X12_refuse o_status (6 : Int32)).bind fun u26 =>
  some (u26.1, u26.2, u16.2.1, u16.2.2.1, u16.2.2.2)
  else
  (X12_gives o_status u16.2.1).bind fun u37 =>
  some (u37.1, u37.2, u16.2.1, u16.2.2.1, u16.2.2.2)
abbrev wd_X12_becomes (E : vE) (a_o a_o_at a_o_names a_o_sort a_o_trayMany a_o_trays a_o_tape a_o_text a_o_opened a_o_farBy a_o_attendsBy a_o_coveredBy a_o_cameBy a_o_cameThen a_o_fallsBy a_o_loops a_o_ran a_o_told1 : Nat) (o_status : Int32) (o_top : Int64) (o_bottom : Int64) (o_taped : Int32) (o_size : Int32) (o_token : Int32) (o_from : Int32) (o_end : Int32) (o_value : Int32) (o_faultKind : Int32) (o_faultPlace : Int32) (o_faults : Int32) (o_seen : Int32) (o_toldParts : Int32) (o_depth : Int32) (o_counted : Int32) (o_becameThen : Int32) (o_firstCorner : Int32) (o_drawn : Int32) (o_ranSteps : Int32) (o_isTold : Int32) (o_marks : Int32) (o_at : Nat → Int32) (o_farBy : Nat → Int32) : va_W := [(a_o, .inr (12, [.ref a_o_at, .ref a_o_names, .int o_status, .long o_top, .long o_bottom, .ref a_o_sort, .ref a_o_trayMany, .ref a_o_trays, .ref a_o_tape, .ref a_o_text, .int o_taped, .int o_size, .int o_token, .int o_from, .int o_end, .int o_value, .int o_faultKind, .int o_faultPlace, .int o_faults, .int o_seen, .int o_toldParts, .ref a_o_opened, .int o_depth, .int o_counted, .ref a_o_farBy, .int o_becameThen, .ref a_o_attendsBy, .ref a_o_coveredBy, .ref a_o_cameBy, .ref a_o_cameThen, .int o_firstCorner, .ref a_o_fallsBy, .int o_drawn, .int o_ranSteps, .ref a_o_loops, .ref a_o_ran, .ref a_o_told1, .int o_isTold, .int o_marks])), (a_o_at, .inl (E.2.1, 3097, .inl o_at)), (a_o_farBy, .inl (E.2.1, 64, .inl o_farBy))]
set_option maxHeartbeats 4000000 in
set_option maxRecDepth 100000 in
theorem ct_X12_becomes (l : Launch) (E : vE) (F : Nat) (a_o a_o_at a_o_names a_o_sort a_o_trayMany a_o_trays a_o_tape a_o_text a_o_opened a_o_farBy a_o_attendsBy a_o_coveredBy a_o_cameBy a_o_cameThen a_o_fallsBy a_o_loops a_o_ran a_o_told1 : Nat) (o_status : Int32) (o_top : Int64) (o_bottom : Int64) (o_taped : Int32) (o_size : Int32) (o_token : Int32) (o_from : Int32) (o_end : Int32) (o_value : Int32) (o_faultKind : Int32) (o_faultPlace : Int32) (o_faults : Int32) (o_seen : Int32) (o_toldParts : Int32) (o_depth : Int32) (o_counted : Int32) (o_becameThen : Int32) (o_firstCorner : Int32) (o_drawn : Int32) (o_ranSteps : Int32) (o_isTold : Int32) (o_marks : Int32) (o_at : Nat → Int32) (o_farBy : Nat → Int32) (v1 : Int32) (u : Int32 × Int32 × Int32 × (Nat → Int32) × (Nat → Int32)) (hf : X12_becomes F o_status o_becameThen o_at o_farBy v1 = some u) :
    CtI l yX12_becomes cX12_becomes 2 (some .int) 8 E [.ref a_o, .int v1] (wd_X12_becomes E a_o a_o_at a_o_names a_o_sort a_o_trayMany a_o_trays a_o_tape a_o_text a_o_opened a_o_farBy a_o_attendsBy a_o_coveredBy a_o_cameBy a_o_cameThen a_o_fallsBy a_o_loops a_o_ran a_o_told1 o_status o_top o_bottom o_taped o_size o_token o_from o_end o_value o_faultKind o_faultPlace o_faults o_seen o_toldParts o_depth o_counted o_becameThen o_firstCorner o_drawn o_ranSteps o_isTold o_marks o_at o_farBy) (wd_X12_becomes E a_o a_o_at a_o_names a_o_sort a_o_trayMany a_o_trays a_o_tape a_o_text a_o_opened a_o_farBy a_o_attendsBy a_o_coveredBy a_o_cameBy a_o_cameThen a_o_fallsBy a_o_loops a_o_ran a_o_told1 u.2.1 o_top o_bottom o_taped o_size o_token o_from o_end o_value o_faultKind o_faultPlace o_faults o_seen o_toldParts o_depth o_counted u.2.2.1 o_firstCorner o_drawn o_ranSteps o_isTold o_marks u.2.2.2.1 u.2.2.2.2) u.1 := by
  refine ctI (by decide) (Nat.le_of_ble_eq_true rfl) ?_
  intro p e s m below meth cd A ls aa QQ hq cx hP hD hS hl
  obtain ⟨⟨hx, hb, hml, hown, hts⟩, hr, hlocks, hK, hA, hX⟩ := id cx
  have hl : lv_has ls 2 [(0, .ref a_o), (1, .int v1)] := hl
  unfold X12_becomes at hf
  refine lv_aload_n hx hb dX12_becomes_0 rfl (lv_at hl 0 rfl) ?_
  refine lv_iload_n hx hb dX12_becomes_1 rfl (lv_at hl 1 rfl) ?_
  obtain ⟨u2, hu2, hf⟩ := bd hf
  refine keepVI (ct_X12_isHappening l E a_o a_o_at a_o_names a_o_sort a_o_trayMany a_o_trays a_o_tape a_o_text a_o_opened a_o_farBy a_o_attendsBy a_o_coveredBy a_o_cameBy a_o_cameThen a_o_fallsBy a_o_loops a_o_ran a_o_told1 o_status o_top o_bottom o_taped o_size o_token o_from o_end o_value o_faultKind o_faultPlace o_faults o_seen o_toldParts o_depth o_counted o_becameThen o_firstCorner o_drawn o_ranSteps o_isTold o_marks o_at v1 u2 hu2) [0, 1] cal_X12_isHappening cav_X12_isHappening lk_X12_296 cx hP hD hS hl dX12_becomes_2 rfl rfl rfl rfl (Nat.le_of_ble_eq_true rfl) ⟨Nat.le_of_ble_eq_true rfl, Nat.le_of_ble_eq_true rfl⟩ rfl (by decide) (fun H locs hP hS => ?_)
  refine lv_if_ne (tgt := 14) hx hb dX12_becomes_5 (by decide) (fun hc => ?_) (fun hc => ?_)
  · have hf := it_f hc hf
    refine lv_aload_n hx hb dX12_becomes_14 rfl (lv_at hl 0 rfl) ?_
    refine lv_iload_n hx hb dX12_becomes_15 rfl (lv_at hl 1 rfl) ?_
    obtain ⟨u16, hu16, hf⟩ := bd hf
    refine callVI (wn := (wd_X12_becomes E a_o a_o_at a_o_names a_o_sort a_o_trayMany a_o_trays a_o_tape a_o_text a_o_opened a_o_farBy a_o_attendsBy a_o_coveredBy a_o_cameBy a_o_cameThen a_o_fallsBy a_o_loops a_o_ran a_o_told1 o_status o_top o_bottom o_taped o_size o_token o_from o_end o_value o_faultKind o_faultPlace o_faults o_seen o_toldParts o_depth o_counted u16.2.1 o_firstCorner o_drawn o_ranSteps o_isTold o_marks u16.2.2.1 u16.2.2.2)) (n1 := 3) (ct_X12_overOf l E F a_o a_o_at a_o_names a_o_sort a_o_trayMany a_o_trays a_o_tape a_o_text a_o_opened a_o_farBy a_o_attendsBy a_o_coveredBy a_o_cameBy a_o_cameThen a_o_fallsBy a_o_loops a_o_ran a_o_told1 o_status o_top o_bottom o_taped o_size o_token o_from o_end o_value o_faultKind o_faultPlace o_faults o_seen o_toldParts o_depth o_counted o_becameThen o_firstCorner o_drawn o_ranSteps o_isTold o_marks o_at o_farBy v1 u16 hu16) [0, 1, 2] cal_X12_overOf cav_X12_overOf lk_X12_396 cx hP hD hS hl dX12_becomes_16 rfl rfl rfl rfl (Nat.le_of_ble_eq_true rfl) ⟨Nat.le_of_ble_eq_true rfl, Nat.le_of_ble_eq_true rfl⟩ rfl (by decide +kernel) rfl [some 0, some 1, some 2] rfl (by decide +kernel) rfl (fun H locs hP hD hS => ?_)
    refine lv_iconst (v := (-1)) hx hb dX12_becomes_19 (by decide) ?_
    refine lv_icmp_ne (tgt := 32) hx hb dX12_becomes_20 (by decide) (fun hc => ?_) (fun hc => ?_)
    · have hf := it_f hc hf
      refine lv_aload_n hx hb dX12_becomes_32 rfl (lv_at hl 0 rfl) ?_
      refine lv_aload_n hx hb dX12_becomes_33 rfl (lv_at hl 0 rfl) ?_
      refine va_get (D := E.1) (ci := 12) (v := .int u16.2.1) (C := RX12) (T := TX12) (N := 39) hx hb hts inX12 hown hK hP 0 rfl rfl 25 (by decide) (hts _ fl_X12_393) (fun _ h9 => h9) rfl dX12_becomes_34 ?_
      obtain ⟨u37, hu37, hf⟩ := bd hf
      refine callVI (wn := (wd_X12_becomes E a_o a_o_at a_o_names a_o_sort a_o_trayMany a_o_trays a_o_tape a_o_text a_o_opened a_o_farBy a_o_attendsBy a_o_coveredBy a_o_cameBy a_o_cameThen a_o_fallsBy a_o_loops a_o_ran a_o_told1 u37.2 o_top o_bottom o_taped o_size o_token o_from o_end o_value o_faultKind o_faultPlace o_faults o_seen o_toldParts o_depth o_counted u16.2.1 o_firstCorner o_drawn o_ranSteps o_isTold o_marks u16.2.2.1 u16.2.2.2)) (n1 := 3) (ct_X12_gives l E a_o a_o_at a_o_names a_o_sort a_o_trayMany a_o_trays a_o_tape a_o_text a_o_opened a_o_farBy a_o_attendsBy a_o_coveredBy a_o_cameBy a_o_cameThen a_o_fallsBy a_o_loops a_o_ran a_o_told1 o_status o_top o_bottom o_taped o_size o_token o_from o_end o_value o_faultKind o_faultPlace o_faults o_seen o_toldParts o_depth o_counted u16.2.1 o_firstCorner o_drawn o_ranSteps o_isTold o_marks u16.2.1 u37 hu37) [0] cal_X12_gives cav_X12_gives lk_X12_89 cx hP hD hS hl dX12_becomes_37 rfl rfl rfl rfl (Nat.le_of_ble_eq_true rfl) ⟨Nat.le_of_ble_eq_true rfl, Nat.le_of_ble_eq_true rfl⟩ rfl (by decide +kernel) rfl [some 0, none, none] rfl (by decide +kernel) rfl (fun H locs hP hD hS => ?_)
      obtain rfl := Option.some.inj hf
      subst hq
      exact retI cx hP hD hS dX12_becomes_40
    · have hf := it_t hc hf
      refine lv_aload_n hx hb dX12_becomes_23 rfl (lv_at hl 0 rfl) ?_
      refine lv_bipush (v := 6) hx hb dX12_becomes_24 (by decide) ?_
      obtain ⟨u26, hu26, hf⟩ := bd hf
      refine callVI (wn := (wd_X12_becomes E a_o a_o_at a_o_names a_o_sort a_o_trayMany a_o_trays a_o_tape a_o_text a_o_opened a_o_farBy a_o_attendsBy a_o_coveredBy a_o_cameBy a_o_cameThen a_o_fallsBy a_o_loops a_o_ran a_o_told1 u26.2 o_top o_bottom o_taped o_size o_token o_from o_end o_value o_faultKind o_faultPlace o_faults o_seen o_toldParts o_depth o_counted u16.2.1 o_firstCorner o_drawn o_ranSteps o_isTold o_marks u16.2.2.1 u16.2.2.2)) (n1 := 3) (ct_X12_refuse l E a_o a_o_at a_o_names a_o_sort a_o_trayMany a_o_trays a_o_tape a_o_text a_o_opened a_o_farBy a_o_attendsBy a_o_coveredBy a_o_cameBy a_o_cameThen a_o_fallsBy a_o_loops a_o_ran a_o_told1 o_status o_top o_bottom o_taped o_size o_token o_from o_end o_value o_faultKind o_faultPlace o_faults o_seen o_toldParts o_depth o_counted u16.2.1 o_firstCorner o_drawn o_ranSteps o_isTold o_marks (6 : Int32) u26 hu26) [0] cal_X12_refuse cav_X12_refuse lk_X12_85 cx hP hD hS hl dX12_becomes_26 rfl rfl rfl rfl (Nat.le_of_ble_eq_true rfl) ⟨Nat.le_of_ble_eq_true rfl, Nat.le_of_ble_eq_true rfl⟩ rfl (by decide +kernel) rfl [some 0, none, none] rfl (by decide +kernel) rfl (fun H locs hP hD hS => ?_)
      refine lv_goto (tgt := 40) hx hb dX12_becomes_29 (by decide) ?_
      obtain rfl := Option.some.inj hf
      subst hq
      exact retI cx hP hD hS dX12_becomes_40
  · have hf := it_t hc hf
    refine lv_aload_n hx hb dX12_becomes_8 rfl (lv_at hl 0 rfl) ?_
    refine lv_iconst (v := 1) hx hb dX12_becomes_9 (by decide) ?_
    obtain ⟨u10, hu10, hf⟩ := bd hf
    refine callVI (wn := (wd_X12_becomes E a_o a_o_at a_o_names a_o_sort a_o_trayMany a_o_trays a_o_tape a_o_text a_o_opened a_o_farBy a_o_attendsBy a_o_coveredBy a_o_cameBy a_o_cameThen a_o_fallsBy a_o_loops a_o_ran a_o_told1 u10.2 o_top o_bottom o_taped o_size o_token o_from o_end o_value o_faultKind o_faultPlace o_faults o_seen o_toldParts o_depth o_counted o_becameThen o_firstCorner o_drawn o_ranSteps o_isTold o_marks o_at o_farBy)) (n1 := 3) (ct_X12_refuse l E a_o a_o_at a_o_names a_o_sort a_o_trayMany a_o_trays a_o_tape a_o_text a_o_opened a_o_farBy a_o_attendsBy a_o_coveredBy a_o_cameBy a_o_cameThen a_o_fallsBy a_o_loops a_o_ran a_o_told1 o_status o_top o_bottom o_taped o_size o_token o_from o_end o_value o_faultKind o_faultPlace o_faults o_seen o_toldParts o_depth o_counted o_becameThen o_firstCorner o_drawn o_ranSteps o_isTold o_marks (1 : Int32) u10 hu10) [0] cal_X12_refuse cav_X12_refuse lk_X12_85 cx hP hD hS hl dX12_becomes_10 rfl rfl rfl rfl (Nat.le_of_ble_eq_true rfl) ⟨Nat.le_of_ble_eq_true rfl, Nat.le_of_ble_eq_true rfl⟩ rfl (by decide +kernel) rfl [some 0, none, none] rfl (by decide +kernel) rfl (fun H locs hP hD hS => ?_)
    obtain rfl := Option.some.inj hf
    subst hq
    exact retI cx hP hD hS dX12_becomes_13
def X12_wagesIn_j33 (F : Nat) (o_status : Int32) (o_at : Nat → Int32) (o_farBy : Nat → Int32) : Option (Int32 × Int32 × (Nat → Int32) × (Nat → Int32)) :=
  (X12_refuse o_status (1 : Int32)).bind fun u35 =>
  some (u35.1, u35.2, o_at, o_farBy)
def X12_wagesIn (F : Nat) (o_status : Int32) (o_at : Nat → Int32) (o_farBy : Nat → Int32) (v1 : Int32) (v2 : Int32) : Option (Int32 × Int32 × (Nat → Int32) × (Nat → Int32)) :=
  (X12_isExtra o_at v1).bind fun u2 =>
  if u2 = 0 then
  X12_wagesIn_j33 F o_status o_at o_farBy
  else
  (X12_isSpan v2).bind fun u9 =>
  if u9 = 0 then
  X12_wagesIn_j33 F o_status o_at o_farBy
  else
  (X12_extraRow v1).bind fun u18 =>
  (X12_isIn0 F o_at o_farBy (u18 + 3) v2).bind fun u24 =>
  (X12_gives o_status u24.1).bind fun u27 =>
  some (u27.1, u27.2, u24.2.1, u24.2.2)
abbrev wd_X12_wagesIn (E : vE) (a_o a_o_at a_o_names a_o_sort a_o_trayMany a_o_trays a_o_tape a_o_text a_o_opened a_o_farBy a_o_attendsBy a_o_coveredBy a_o_cameBy a_o_cameThen a_o_fallsBy a_o_loops a_o_ran a_o_told1 : Nat) (o_status : Int32) (o_top : Int64) (o_bottom : Int64) (o_taped : Int32) (o_size : Int32) (o_token : Int32) (o_from : Int32) (o_end : Int32) (o_value : Int32) (o_faultKind : Int32) (o_faultPlace : Int32) (o_faults : Int32) (o_seen : Int32) (o_toldParts : Int32) (o_depth : Int32) (o_counted : Int32) (o_becameThen : Int32) (o_firstCorner : Int32) (o_drawn : Int32) (o_ranSteps : Int32) (o_isTold : Int32) (o_marks : Int32) (o_at : Nat → Int32) (o_farBy : Nat → Int32) : va_W := [(a_o, .inr (12, [.ref a_o_at, .ref a_o_names, .int o_status, .long o_top, .long o_bottom, .ref a_o_sort, .ref a_o_trayMany, .ref a_o_trays, .ref a_o_tape, .ref a_o_text, .int o_taped, .int o_size, .int o_token, .int o_from, .int o_end, .int o_value, .int o_faultKind, .int o_faultPlace, .int o_faults, .int o_seen, .int o_toldParts, .ref a_o_opened, .int o_depth, .int o_counted, .ref a_o_farBy, .int o_becameThen, .ref a_o_attendsBy, .ref a_o_coveredBy, .ref a_o_cameBy, .ref a_o_cameThen, .int o_firstCorner, .ref a_o_fallsBy, .int o_drawn, .int o_ranSteps, .ref a_o_loops, .ref a_o_ran, .ref a_o_told1, .int o_isTold, .int o_marks])), (a_o_at, .inl (E.2.1, 3097, .inl o_at)), (a_o_farBy, .inl (E.2.1, 64, .inl o_farBy))]
set_option maxHeartbeats 4000000 in
set_option maxRecDepth 100000 in
theorem ct_X12_wagesIn (l : Launch) (E : vE) (F : Nat) (a_o a_o_at a_o_names a_o_sort a_o_trayMany a_o_trays a_o_tape a_o_text a_o_opened a_o_farBy a_o_attendsBy a_o_coveredBy a_o_cameBy a_o_cameThen a_o_fallsBy a_o_loops a_o_ran a_o_told1 : Nat) (o_status : Int32) (o_top : Int64) (o_bottom : Int64) (o_taped : Int32) (o_size : Int32) (o_token : Int32) (o_from : Int32) (o_end : Int32) (o_value : Int32) (o_faultKind : Int32) (o_faultPlace : Int32) (o_faults : Int32) (o_seen : Int32) (o_toldParts : Int32) (o_depth : Int32) (o_counted : Int32) (o_becameThen : Int32) (o_firstCorner : Int32) (o_drawn : Int32) (o_ranSteps : Int32) (o_isTold : Int32) (o_marks : Int32) (o_at : Nat → Int32) (o_farBy : Nat → Int32) (v1 : Int32) (v2 : Int32) (u : Int32 × Int32 × (Nat → Int32) × (Nat → Int32)) (hf : X12_wagesIn F o_status o_at o_farBy v1 v2 = some u) :
    CtI l yX12_wagesIn cX12_wagesIn 3 (some .int) 9 E [.ref a_o, .int v1, .int v2] (wd_X12_wagesIn E a_o a_o_at a_o_names a_o_sort a_o_trayMany a_o_trays a_o_tape a_o_text a_o_opened a_o_farBy a_o_attendsBy a_o_coveredBy a_o_cameBy a_o_cameThen a_o_fallsBy a_o_loops a_o_ran a_o_told1 o_status o_top o_bottom o_taped o_size o_token o_from o_end o_value o_faultKind o_faultPlace o_faults o_seen o_toldParts o_depth o_counted o_becameThen o_firstCorner o_drawn o_ranSteps o_isTold o_marks o_at o_farBy) (wd_X12_wagesIn E a_o a_o_at a_o_names a_o_sort a_o_trayMany a_o_trays a_o_tape a_o_text a_o_opened a_o_farBy a_o_attendsBy a_o_coveredBy a_o_cameBy a_o_cameThen a_o_fallsBy a_o_loops a_o_ran a_o_told1 u.2.1 o_top o_bottom o_taped o_size o_token o_from o_end o_value o_faultKind o_faultPlace o_faults o_seen o_toldParts o_depth o_counted o_becameThen o_firstCorner o_drawn o_ranSteps o_isTold o_marks u.2.2.1 u.2.2.2) u.1 := by
  refine ctI (by decide) (Nat.le_of_ble_eq_true rfl) ?_
  intro p e s m below meth cd A ls aa QQ hq cx hP hD hS hl
  obtain ⟨⟨hx, hb, hml, hown, hts⟩, hr, hlocks, hK, hA, hX⟩ := id cx
  have hl : lv_has ls 3 [(0, .ref a_o), (1, .int v1), (2, .int v2)] := hl
  have hj33 : ∀ (o_status_j33 : Int32) (o_at_j33 : Nat → Int32) (o_farBy_j33 : Nat → Int32) (H : Heap) (locs : List Loc) (ls : Array Slot), X12_wagesIn_j33 F o_status_j33 o_at_j33 o_farBy_j33 = some u → va_P E.1 vwCl (wd_X12_wagesIn E a_o a_o_at a_o_names a_o_sort a_o_trayMany a_o_trays a_o_tape a_o_text a_o_opened a_o_farBy a_o_attendsBy a_o_coveredBy a_o_cameBy a_o_cameThen a_o_fallsBy a_o_loops a_o_ran a_o_told1 o_status_j33 o_top o_bottom o_taped o_size o_token o_from o_end o_value o_faultKind o_faultPlace o_faults o_seen o_toldParts o_depth o_counted o_becameThen o_firstCorner o_drawn o_ranSteps o_isTold o_marks o_at_j33 o_farBy_j33) H → va_D A (wd_X12_wagesIn E a_o a_o_at a_o_names a_o_sort a_o_trayMany a_o_trays a_o_tape a_o_text a_o_opened a_o_farBy a_o_attendsBy a_o_coveredBy a_o_cameBy a_o_cameThen a_o_fallsBy a_o_loops a_o_ran a_o_told1 o_status_j33 o_top o_bottom o_taped o_size o_token o_from o_end o_value o_faultKind o_faultPlace o_faults o_seen o_toldParts o_depth o_counted o_becameThen o_firstCorner o_drawn o_ranSteps o_isTold o_marks o_at_j33 o_farBy_j33) → va_S A s.heap H locs → lv_has ls 3 [(0, .ref a_o)] → W p l e (rmd 9) s m aa below meth cd H locs 0 0 QQ (F0 m 33 ls []) := by
    intro o_status_j33 o_at_j33 o_farBy_j33 H locs ls hf hP hD hS hl
    unfold X12_wagesIn_j33 at hf
    refine lv_aload_n hx hb dX12_wagesIn_33 rfl (lv_at hl 0 rfl) ?_
    refine lv_iconst (v := 1) hx hb dX12_wagesIn_34 (by decide) ?_
    obtain ⟨u35, hu35, hf⟩ := bd hf
    refine callVI (wn := (wd_X12_wagesIn E a_o a_o_at a_o_names a_o_sort a_o_trayMany a_o_trays a_o_tape a_o_text a_o_opened a_o_farBy a_o_attendsBy a_o_coveredBy a_o_cameBy a_o_cameThen a_o_fallsBy a_o_loops a_o_ran a_o_told1 u35.2 o_top o_bottom o_taped o_size o_token o_from o_end o_value o_faultKind o_faultPlace o_faults o_seen o_toldParts o_depth o_counted o_becameThen o_firstCorner o_drawn o_ranSteps o_isTold o_marks o_at_j33 o_farBy_j33)) (n1 := 3) (ct_X12_refuse l E a_o a_o_at a_o_names a_o_sort a_o_trayMany a_o_trays a_o_tape a_o_text a_o_opened a_o_farBy a_o_attendsBy a_o_coveredBy a_o_cameBy a_o_cameThen a_o_fallsBy a_o_loops a_o_ran a_o_told1 o_status_j33 o_top o_bottom o_taped o_size o_token o_from o_end o_value o_faultKind o_faultPlace o_faults o_seen o_toldParts o_depth o_counted o_becameThen o_firstCorner o_drawn o_ranSteps o_isTold o_marks (1 : Int32) u35 hu35) [0] cal_X12_refuse cav_X12_refuse lk_X12_85 cx hP hD hS hl dX12_wagesIn_35 rfl rfl rfl rfl (Nat.le_of_ble_eq_true rfl) ⟨Nat.le_of_ble_eq_true rfl, Nat.le_of_ble_eq_true rfl⟩ rfl (by decide +kernel) rfl [some 0, none, none] rfl (by decide +kernel) rfl (fun H locs hP hD hS => ?_)
    obtain rfl := Option.some.inj hf
    subst hq
    exact retI cx hP hD hS dX12_wagesIn_38
  unfold X12_wagesIn at hf
  refine lv_aload_n hx hb dX12_wagesIn_0 rfl (lv_at hl 0 rfl) ?_
  refine lv_iload_n hx hb dX12_wagesIn_1 rfl (lv_at hl 1 rfl) ?_
  obtain ⟨u2, hu2, hf⟩ := bd hf
  refine keepVI (ct_X12_isExtra l E a_o a_o_at a_o_names a_o_sort a_o_trayMany a_o_trays a_o_tape a_o_text a_o_opened a_o_farBy a_o_attendsBy a_o_coveredBy a_o_cameBy a_o_cameThen a_o_fallsBy a_o_loops a_o_ran a_o_told1 o_status o_top o_bottom o_taped o_size o_token o_from o_end o_value o_faultKind o_faultPlace o_faults o_seen o_toldParts o_depth o_counted o_becameThen o_firstCorner o_drawn o_ranSteps o_isTold o_marks o_at v1 u2 hu2) [0, 1] cal_X12_isExtra cav_X12_isExtra lk_X12_293 cx hP hD hS hl dX12_wagesIn_2 rfl rfl rfl rfl (Nat.le_of_ble_eq_true rfl) ⟨Nat.le_of_ble_eq_true rfl, Nat.le_of_ble_eq_true rfl⟩ rfl (by decide) (fun H locs hP hS => ?_)
  refine lv_if_eq (tgt := 33) hx hb dX12_wagesIn_5 (by decide) (fun hc => ?_) (fun hc => ?_)
  · have hf := it_t hc hf
    exact hj33 _ _ _ _ _ _ hf hP hD hS (lv_sub hl [0] rfl)
  · have hf := it_f hc hf
    refine lv_iload_n hx hb dX12_wagesIn_8 rfl (lv_at hl 2 rfl) ?_
    obtain ⟨u9, hu9, hf⟩ := bd hf
    refine keepSI (ct_X12_isSpan l E v2 u9 hu9) [] cal_X12_isSpan sta_X12_isSpan lk_X12_387 cx hP hD hS hl dX12_wagesIn_9 rfl rfl (Nat.le_of_ble_eq_true rfl) ⟨Nat.le_of_ble_eq_true rfl, Nat.le_of_ble_eq_true rfl⟩ rfl (by decide) (fun H locs hP hS => ?_)
    refine lv_if_eq (tgt := 33) hx hb dX12_wagesIn_12 (by decide) (fun hc => ?_) (fun hc => ?_)
    · have hf := it_t hc hf
      exact hj33 _ _ _ _ _ _ hf hP hD hS (lv_sub hl [0] rfl)
    · have hf := it_f hc hf
      refine lv_aload_n hx hb dX12_wagesIn_15 rfl (lv_at hl 0 rfl) ?_
      refine lv_aload_n hx hb dX12_wagesIn_16 rfl (lv_at hl 0 rfl) ?_
      refine lv_iload_n hx hb dX12_wagesIn_17 rfl (lv_at hl 1 rfl) ?_
      obtain ⟨u18, hu18, hf⟩ := bd hf
      refine keepSI (ct_X12_extraRow l E v1 u18 hu18) [] cal_X12_extraRow sta_X12_extraRow lk_X12_211 cx hP hD hS hl dX12_wagesIn_18 rfl rfl (Nat.le_of_ble_eq_true rfl) ⟨Nat.le_of_ble_eq_true rfl, Nat.le_of_ble_eq_true rfl⟩ rfl (by decide) (fun H locs hP hS => ?_)
      refine lv_iconst (v := 3) hx hb dX12_wagesIn_21 (by decide) ?_
      refine lv_iadd hx hb dX12_wagesIn_22 ?_
      refine lv_iload_n hx hb dX12_wagesIn_23 rfl (lv_at hl 2 rfl) ?_
      obtain ⟨u24, hu24, hf⟩ := bd hf
      refine callVI (wn := (wd_X12_wagesIn E a_o a_o_at a_o_names a_o_sort a_o_trayMany a_o_trays a_o_tape a_o_text a_o_opened a_o_farBy a_o_attendsBy a_o_coveredBy a_o_cameBy a_o_cameThen a_o_fallsBy a_o_loops a_o_ran a_o_told1 o_status o_top o_bottom o_taped o_size o_token o_from o_end o_value o_faultKind o_faultPlace o_faults o_seen o_toldParts o_depth o_counted o_becameThen o_firstCorner o_drawn o_ranSteps o_isTold o_marks u24.2.1 u24.2.2)) (n1 := 3) (ct_X12_isIn0 l E F a_o a_o_at a_o_names a_o_sort a_o_trayMany a_o_trays a_o_tape a_o_text a_o_opened a_o_farBy a_o_attendsBy a_o_coveredBy a_o_cameBy a_o_cameThen a_o_fallsBy a_o_loops a_o_ran a_o_told1 o_status o_top o_bottom o_taped o_size o_token o_from o_end o_value o_faultKind o_faultPlace o_faults o_seen o_toldParts o_depth o_counted o_becameThen o_firstCorner o_drawn o_ranSteps o_isTold o_marks o_at o_farBy (u18 + 3) v2 u24 hu24) [0, 1, 2] cal_X12_isIn0 cav_X12_isIn0 lk_X12_390 cx hP hD hS hl dX12_wagesIn_24 rfl rfl rfl rfl (Nat.le_of_ble_eq_true rfl) ⟨Nat.le_of_ble_eq_true rfl, Nat.le_of_ble_eq_true rfl⟩ rfl (by decide +kernel) rfl [some 0, some 1, some 2] rfl (by decide +kernel) rfl (fun H locs hP hD hS => ?_)
      obtain ⟨u27, hu27, hf⟩ := bd hf
      refine callVI (wn := (wd_X12_wagesIn E a_o a_o_at a_o_names a_o_sort a_o_trayMany a_o_trays a_o_tape a_o_text a_o_opened a_o_farBy a_o_attendsBy a_o_coveredBy a_o_cameBy a_o_cameThen a_o_fallsBy a_o_loops a_o_ran a_o_told1 u27.2 o_top o_bottom o_taped o_size o_token o_from o_end o_value o_faultKind o_faultPlace o_faults o_seen o_toldParts o_depth o_counted o_becameThen o_firstCorner o_drawn o_ranSteps o_isTold o_marks u24.2.1 u24.2.2)) (n1 := 3) (ct_X12_gives l E a_o a_o_at a_o_names a_o_sort a_o_trayMany a_o_trays a_o_tape a_o_text a_o_opened a_o_farBy a_o_attendsBy a_o_coveredBy a_o_cameBy a_o_cameThen a_o_fallsBy a_o_loops a_o_ran a_o_told1 o_status o_top o_bottom o_taped o_size o_token o_from o_end o_value o_faultKind o_faultPlace o_faults o_seen o_toldParts o_depth o_counted o_becameThen o_firstCorner o_drawn o_ranSteps o_isTold o_marks u24.1 u27 hu27) [0] cal_X12_gives cav_X12_gives lk_X12_89 cx hP hD hS hl dX12_wagesIn_27 rfl rfl rfl rfl (Nat.le_of_ble_eq_true rfl) ⟨Nat.le_of_ble_eq_true rfl, Nat.le_of_ble_eq_true rfl⟩ rfl (by decide +kernel) rfl [some 0, none, none] rfl (by decide +kernel) rfl (fun H locs hP hD hS => ?_)
      refine lv_goto (tgt := 38) hx hb dX12_wagesIn_30 (by decide) ?_
      obtain rfl := Option.some.inj hf
      subst hq
      exact retI cx hP hD hS dX12_wagesIn_38
def X12_warnedIn_j33 (F : Nat) (o_status : Int32) (o_at : Nat → Int32) (o_farBy : Nat → Int32) : Option (Int32 × Int32 × (Nat → Int32) × (Nat → Int32)) :=
  (X12_refuse o_status (1 : Int32)).bind fun u35 =>
  some (u35.1, u35.2, o_at, o_farBy)
def X12_warnedIn (F : Nat) (o_status : Int32) (o_at : Nat → Int32) (o_farBy : Nat → Int32) (v1 : Int32) (v2 : Int32) : Option (Int32 × Int32 × (Nat → Int32) × (Nat → Int32)) :=
  (X12_isWatcher o_at v1).bind fun u2 =>
  if u2 = 0 then
  X12_warnedIn_j33 F o_status o_at o_farBy
  else
  (X12_isSpan v2).bind fun u9 =>
  if u9 = 0 then
  X12_warnedIn_j33 F o_status o_at o_farBy
  else
  (X12_watcherRow v1).bind fun u18 =>
  (X12_isIn0 F o_at o_farBy (u18 + 2) v2).bind fun u24 =>
  (X12_gives o_status u24.1).bind fun u27 =>
  some (u27.1, u27.2, u24.2.1, u24.2.2)
abbrev wd_X12_warnedIn (E : vE) (a_o a_o_at a_o_names a_o_sort a_o_trayMany a_o_trays a_o_tape a_o_text a_o_opened a_o_farBy a_o_attendsBy a_o_coveredBy a_o_cameBy a_o_cameThen a_o_fallsBy a_o_loops a_o_ran a_o_told1 : Nat) (o_status : Int32) (o_top : Int64) (o_bottom : Int64) (o_taped : Int32) (o_size : Int32) (o_token : Int32) (o_from : Int32) (o_end : Int32) (o_value : Int32) (o_faultKind : Int32) (o_faultPlace : Int32) (o_faults : Int32) (o_seen : Int32) (o_toldParts : Int32) (o_depth : Int32) (o_counted : Int32) (o_becameThen : Int32) (o_firstCorner : Int32) (o_drawn : Int32) (o_ranSteps : Int32) (o_isTold : Int32) (o_marks : Int32) (o_at : Nat → Int32) (o_farBy : Nat → Int32) : va_W := [(a_o, .inr (12, [.ref a_o_at, .ref a_o_names, .int o_status, .long o_top, .long o_bottom, .ref a_o_sort, .ref a_o_trayMany, .ref a_o_trays, .ref a_o_tape, .ref a_o_text, .int o_taped, .int o_size, .int o_token, .int o_from, .int o_end, .int o_value, .int o_faultKind, .int o_faultPlace, .int o_faults, .int o_seen, .int o_toldParts, .ref a_o_opened, .int o_depth, .int o_counted, .ref a_o_farBy, .int o_becameThen, .ref a_o_attendsBy, .ref a_o_coveredBy, .ref a_o_cameBy, .ref a_o_cameThen, .int o_firstCorner, .ref a_o_fallsBy, .int o_drawn, .int o_ranSteps, .ref a_o_loops, .ref a_o_ran, .ref a_o_told1, .int o_isTold, .int o_marks])), (a_o_at, .inl (E.2.1, 3097, .inl o_at)), (a_o_farBy, .inl (E.2.1, 64, .inl o_farBy))]
set_option maxHeartbeats 4000000 in
set_option maxRecDepth 100000 in
theorem ct_X12_warnedIn (l : Launch) (E : vE) (F : Nat) (a_o a_o_at a_o_names a_o_sort a_o_trayMany a_o_trays a_o_tape a_o_text a_o_opened a_o_farBy a_o_attendsBy a_o_coveredBy a_o_cameBy a_o_cameThen a_o_fallsBy a_o_loops a_o_ran a_o_told1 : Nat) (o_status : Int32) (o_top : Int64) (o_bottom : Int64) (o_taped : Int32) (o_size : Int32) (o_token : Int32) (o_from : Int32) (o_end : Int32) (o_value : Int32) (o_faultKind : Int32) (o_faultPlace : Int32) (o_faults : Int32) (o_seen : Int32) (o_toldParts : Int32) (o_depth : Int32) (o_counted : Int32) (o_becameThen : Int32) (o_firstCorner : Int32) (o_drawn : Int32) (o_ranSteps : Int32) (o_isTold : Int32) (o_marks : Int32) (o_at : Nat → Int32) (o_farBy : Nat → Int32) (v1 : Int32) (v2 : Int32) (u : Int32 × Int32 × (Nat → Int32) × (Nat → Int32)) (hf : X12_warnedIn F o_status o_at o_farBy v1 v2 = some u) :
    CtI l yX12_warnedIn cX12_warnedIn 3 (some .int) 9 E [.ref a_o, .int v1, .int v2] (wd_X12_warnedIn E a_o a_o_at a_o_names a_o_sort a_o_trayMany a_o_trays a_o_tape a_o_text a_o_opened a_o_farBy a_o_attendsBy a_o_coveredBy a_o_cameBy a_o_cameThen a_o_fallsBy a_o_loops a_o_ran a_o_told1 o_status o_top o_bottom o_taped o_size o_token o_from o_end o_value o_faultKind o_faultPlace o_faults o_seen o_toldParts o_depth o_counted o_becameThen o_firstCorner o_drawn o_ranSteps o_isTold o_marks o_at o_farBy) (wd_X12_warnedIn E a_o a_o_at a_o_names a_o_sort a_o_trayMany a_o_trays a_o_tape a_o_text a_o_opened a_o_farBy a_o_attendsBy a_o_coveredBy a_o_cameBy a_o_cameThen a_o_fallsBy a_o_loops a_o_ran a_o_told1 u.2.1 o_top o_bottom o_taped o_size o_token o_from o_end o_value o_faultKind o_faultPlace o_faults o_seen o_toldParts o_depth o_counted o_becameThen o_firstCorner o_drawn o_ranSteps o_isTold o_marks u.2.2.1 u.2.2.2) u.1 := by
  refine ctI (by decide) (Nat.le_of_ble_eq_true rfl) ?_
  intro p e s m below meth cd A ls aa QQ hq cx hP hD hS hl
  obtain ⟨⟨hx, hb, hml, hown, hts⟩, hr, hlocks, hK, hA, hX⟩ := id cx
  have hl : lv_has ls 3 [(0, .ref a_o), (1, .int v1), (2, .int v2)] := hl
  have hj33 : ∀ (o_status_j33 : Int32) (o_at_j33 : Nat → Int32) (o_farBy_j33 : Nat → Int32) (H : Heap) (locs : List Loc) (ls : Array Slot), X12_warnedIn_j33 F o_status_j33 o_at_j33 o_farBy_j33 = some u → va_P E.1 vwCl (wd_X12_warnedIn E a_o a_o_at a_o_names a_o_sort a_o_trayMany a_o_trays a_o_tape a_o_text a_o_opened a_o_farBy a_o_attendsBy a_o_coveredBy a_o_cameBy a_o_cameThen a_o_fallsBy a_o_loops a_o_ran a_o_told1 o_status_j33 o_top o_bottom o_taped o_size o_token o_from o_end o_value o_faultKind o_faultPlace o_faults o_seen o_toldParts o_depth o_counted o_becameThen o_firstCorner o_drawn o_ranSteps o_isTold o_marks o_at_j33 o_farBy_j33) H → va_D A (wd_X12_warnedIn E a_o a_o_at a_o_names a_o_sort a_o_trayMany a_o_trays a_o_tape a_o_text a_o_opened a_o_farBy a_o_attendsBy a_o_coveredBy a_o_cameBy a_o_cameThen a_o_fallsBy a_o_loops a_o_ran a_o_told1 o_status_j33 o_top o_bottom o_taped o_size o_token o_from o_end o_value o_faultKind o_faultPlace o_faults o_seen o_toldParts o_depth o_counted o_becameThen o_firstCorner o_drawn o_ranSteps o_isTold o_marks o_at_j33 o_farBy_j33) → va_S A s.heap H locs → lv_has ls 3 [(0, .ref a_o)] → W p l e (rmd 9) s m aa below meth cd H locs 0 0 QQ (F0 m 33 ls []) := by
    intro o_status_j33 o_at_j33 o_farBy_j33 H locs ls hf hP hD hS hl
    unfold X12_warnedIn_j33 at hf
    refine lv_aload_n hx hb dX12_warnedIn_33 rfl (lv_at hl 0 rfl) ?_
    refine lv_iconst (v := 1) hx hb dX12_warnedIn_34 (by decide) ?_
    obtain ⟨u35, hu35, hf⟩ := bd hf
    refine callVI (wn := (wd_X12_warnedIn E a_o a_o_at a_o_names a_o_sort a_o_trayMany a_o_trays a_o_tape a_o_text a_o_opened a_o_farBy a_o_attendsBy a_o_coveredBy a_o_cameBy a_o_cameThen a_o_fallsBy a_o_loops a_o_ran a_o_told1 u35.2 o_top o_bottom o_taped o_size o_token o_from o_end o_value o_faultKind o_faultPlace o_faults o_seen o_toldParts o_depth o_counted o_becameThen o_firstCorner o_drawn o_ranSteps o_isTold o_marks o_at_j33 o_farBy_j33)) (n1 := 3) (ct_X12_refuse l E a_o a_o_at a_o_names a_o_sort a_o_trayMany a_o_trays a_o_tape a_o_text a_o_opened a_o_farBy a_o_attendsBy a_o_coveredBy a_o_cameBy a_o_cameThen a_o_fallsBy a_o_loops a_o_ran a_o_told1 o_status_j33 o_top o_bottom o_taped o_size o_token o_from o_end o_value o_faultKind o_faultPlace o_faults o_seen o_toldParts o_depth o_counted o_becameThen o_firstCorner o_drawn o_ranSteps o_isTold o_marks (1 : Int32) u35 hu35) [0] cal_X12_refuse cav_X12_refuse lk_X12_85 cx hP hD hS hl dX12_warnedIn_35 rfl rfl rfl rfl (Nat.le_of_ble_eq_true rfl) ⟨Nat.le_of_ble_eq_true rfl, Nat.le_of_ble_eq_true rfl⟩ rfl (by decide +kernel) rfl [some 0, none, none] rfl (by decide +kernel) rfl (fun H locs hP hD hS => ?_)
    obtain rfl := Option.some.inj hf
    subst hq
    exact retI cx hP hD hS dX12_warnedIn_38
  unfold X12_warnedIn at hf
  refine lv_aload_n hx hb dX12_warnedIn_0 rfl (lv_at hl 0 rfl) ?_
  refine lv_iload_n hx hb dX12_warnedIn_1 rfl (lv_at hl 1 rfl) ?_
  obtain ⟨u2, hu2, hf⟩ := bd hf
  refine keepVI (ct_X12_isWatcher l E a_o a_o_at a_o_names a_o_sort a_o_trayMany a_o_trays a_o_tape a_o_text a_o_opened a_o_farBy a_o_attendsBy a_o_coveredBy a_o_cameBy a_o_cameThen a_o_fallsBy a_o_loops a_o_ran a_o_told1 o_status o_top o_bottom o_taped o_size o_token o_from o_end o_value o_faultKind o_faultPlace o_faults o_seen o_toldParts o_depth o_counted o_becameThen o_firstCorner o_drawn o_ranSteps o_isTold o_marks o_at v1 u2 hu2) [0, 1] cal_X12_isWatcher cav_X12_isWatcher lk_X12_305 cx hP hD hS hl dX12_warnedIn_2 rfl rfl rfl rfl (Nat.le_of_ble_eq_true rfl) ⟨Nat.le_of_ble_eq_true rfl, Nat.le_of_ble_eq_true rfl⟩ rfl (by decide) (fun H locs hP hS => ?_)
  refine lv_if_eq (tgt := 33) hx hb dX12_warnedIn_5 (by decide) (fun hc => ?_) (fun hc => ?_)
  · have hf := it_t hc hf
    exact hj33 _ _ _ _ _ _ hf hP hD hS (lv_sub hl [0] rfl)
  · have hf := it_f hc hf
    refine lv_iload_n hx hb dX12_warnedIn_8 rfl (lv_at hl 2 rfl) ?_
    obtain ⟨u9, hu9, hf⟩ := bd hf
    refine keepSI (ct_X12_isSpan l E v2 u9 hu9) [] cal_X12_isSpan sta_X12_isSpan lk_X12_387 cx hP hD hS hl dX12_warnedIn_9 rfl rfl (Nat.le_of_ble_eq_true rfl) ⟨Nat.le_of_ble_eq_true rfl, Nat.le_of_ble_eq_true rfl⟩ rfl (by decide) (fun H locs hP hS => ?_)
    refine lv_if_eq (tgt := 33) hx hb dX12_warnedIn_12 (by decide) (fun hc => ?_) (fun hc => ?_)
    · have hf := it_t hc hf
      exact hj33 _ _ _ _ _ _ hf hP hD hS (lv_sub hl [0] rfl)
    · have hf := it_f hc hf
      refine lv_aload_n hx hb dX12_warnedIn_15 rfl (lv_at hl 0 rfl) ?_
      refine lv_aload_n hx hb dX12_warnedIn_16 rfl (lv_at hl 0 rfl) ?_
      refine lv_iload_n hx hb dX12_warnedIn_17 rfl (lv_at hl 1 rfl) ?_
      obtain ⟨u18, hu18, hf⟩ := bd hf
      refine keepSI (ct_X12_watcherRow l E v1 u18 hu18) [] cal_X12_watcherRow sta_X12_watcherRow lk_X12_217 cx hP hD hS hl dX12_warnedIn_18 rfl rfl (Nat.le_of_ble_eq_true rfl) ⟨Nat.le_of_ble_eq_true rfl, Nat.le_of_ble_eq_true rfl⟩ rfl (by decide) (fun H locs hP hS => ?_)
      refine lv_iconst (v := 2) hx hb dX12_warnedIn_21 (by decide) ?_
      refine lv_iadd hx hb dX12_warnedIn_22 ?_
      refine lv_iload_n hx hb dX12_warnedIn_23 rfl (lv_at hl 2 rfl) ?_
      obtain ⟨u24, hu24, hf⟩ := bd hf
      refine callVI (wn := (wd_X12_warnedIn E a_o a_o_at a_o_names a_o_sort a_o_trayMany a_o_trays a_o_tape a_o_text a_o_opened a_o_farBy a_o_attendsBy a_o_coveredBy a_o_cameBy a_o_cameThen a_o_fallsBy a_o_loops a_o_ran a_o_told1 o_status o_top o_bottom o_taped o_size o_token o_from o_end o_value o_faultKind o_faultPlace o_faults o_seen o_toldParts o_depth o_counted o_becameThen o_firstCorner o_drawn o_ranSteps o_isTold o_marks u24.2.1 u24.2.2)) (n1 := 3) (ct_X12_isIn0 l E F a_o a_o_at a_o_names a_o_sort a_o_trayMany a_o_trays a_o_tape a_o_text a_o_opened a_o_farBy a_o_attendsBy a_o_coveredBy a_o_cameBy a_o_cameThen a_o_fallsBy a_o_loops a_o_ran a_o_told1 o_status o_top o_bottom o_taped o_size o_token o_from o_end o_value o_faultKind o_faultPlace o_faults o_seen o_toldParts o_depth o_counted o_becameThen o_firstCorner o_drawn o_ranSteps o_isTold o_marks o_at o_farBy (u18 + 2) v2 u24 hu24) [0, 1, 2] cal_X12_isIn0 cav_X12_isIn0 lk_X12_390 cx hP hD hS hl dX12_warnedIn_24 rfl rfl rfl rfl (Nat.le_of_ble_eq_true rfl) ⟨Nat.le_of_ble_eq_true rfl, Nat.le_of_ble_eq_true rfl⟩ rfl (by decide +kernel) rfl [some 0, some 1, some 2] rfl (by decide +kernel) rfl (fun H locs hP hD hS => ?_)
      obtain ⟨u27, hu27, hf⟩ := bd hf
      refine callVI (wn := (wd_X12_warnedIn E a_o a_o_at a_o_names a_o_sort a_o_trayMany a_o_trays a_o_tape a_o_text a_o_opened a_o_farBy a_o_attendsBy a_o_coveredBy a_o_cameBy a_o_cameThen a_o_fallsBy a_o_loops a_o_ran a_o_told1 u27.2 o_top o_bottom o_taped o_size o_token o_from o_end o_value o_faultKind o_faultPlace o_faults o_seen o_toldParts o_depth o_counted o_becameThen o_firstCorner o_drawn o_ranSteps o_isTold o_marks u24.2.1 u24.2.2)) (n1 := 3) (ct_X12_gives l E a_o a_o_at a_o_names a_o_sort a_o_trayMany a_o_trays a_o_tape a_o_text a_o_opened a_o_farBy a_o_attendsBy a_o_coveredBy a_o_cameBy a_o_cameThen a_o_fallsBy a_o_loops a_o_ran a_o_told1 o_status o_top o_bottom o_taped o_size o_token o_from o_end o_value o_faultKind o_faultPlace o_faults o_seen o_toldParts o_depth o_counted o_becameThen o_firstCorner o_drawn o_ranSteps o_isTold o_marks u24.1 u27 hu27) [0] cal_X12_gives cav_X12_gives lk_X12_89 cx hP hD hS hl dX12_warnedIn_27 rfl rfl rfl rfl (Nat.le_of_ble_eq_true rfl) ⟨Nat.le_of_ble_eq_true rfl, Nat.le_of_ble_eq_true rfl⟩ rfl (by decide +kernel) rfl [some 0, none, none] rfl (by decide +kernel) rfl (fun H locs hP hD hS => ?_)
      refine lv_goto (tgt := 38) hx hb dX12_warnedIn_30 (by decide) ?_
      obtain rfl := Option.some.inj hf
      subst hq
      exact retI cx hP hD hS dX12_warnedIn_38
def X12_ahead0_j46 (F : Nat) (o_at : Nat → Int32) (v2 : Int32) (k0 : Int32) (k1 : Int32) : Option ((Int32 × Int32) ⊕ ((Int32))) :=
  some (.inl ((k1 ||| k0), (v2 + 1)))
def X12_ahead0_j45 (F : Nat) (o_at : Nat → Int32) (v2 : Int32) (k0 : Int32) : Option ((Int32 × Int32) ⊕ ((Int32))) :=
  X12_ahead0_j46 F o_at v2 0 k0
def X12_ahead0_b4 (F : Nat) (o_at : Nat → Int32) (st4 : Int32 × Int32) : Option ((Int32 × Int32) ⊕ ((Int32))) :=
  if ix 3 3097 then
  if (jat o_at 3) ≤ st4.2 then
  some (.inr st4.1)
  else
  (X12_isToCome o_at st4.2).bind fun u17 =>
  if u17 = 0 then
  X12_ahead0_j45 F o_at st4.2 st4.1
  else
  (X12_happeningOf o_at st4.2 (1 : Int32)).bind fun u26 =>
  if ix 8 3097 then
  if u26 < (jat o_at 8) then
  X12_ahead0_j45 F o_at st4.2 st4.1
  else
  X12_ahead0_j46 F o_at st4.2 (jshl 1 st4.2) st4.1
  else none
  else none
def X12_ahead0 (F : Nat) (o_at : Nat → Int32) : Option (Int32) :=
  (iter (X12_ahead0_b4 F o_at) F (0, 0)).bind (fun (e4 : Int32) =>
    some e4)
abbrev wd_X12_ahead0 (E : vE) (a_o a_o_at a_o_names a_o_sort a_o_trayMany a_o_trays a_o_tape a_o_text a_o_opened a_o_farBy a_o_attendsBy a_o_coveredBy a_o_cameBy a_o_cameThen a_o_fallsBy a_o_loops a_o_ran a_o_told1 : Nat) (o_status : Int32) (o_top : Int64) (o_bottom : Int64) (o_taped : Int32) (o_size : Int32) (o_token : Int32) (o_from : Int32) (o_end : Int32) (o_value : Int32) (o_faultKind : Int32) (o_faultPlace : Int32) (o_faults : Int32) (o_seen : Int32) (o_toldParts : Int32) (o_depth : Int32) (o_counted : Int32) (o_becameThen : Int32) (o_firstCorner : Int32) (o_drawn : Int32) (o_ranSteps : Int32) (o_isTold : Int32) (o_marks : Int32) (o_at : Nat → Int32) : va_W := [(a_o, .inr (12, [.ref a_o_at, .ref a_o_names, .int o_status, .long o_top, .long o_bottom, .ref a_o_sort, .ref a_o_trayMany, .ref a_o_trays, .ref a_o_tape, .ref a_o_text, .int o_taped, .int o_size, .int o_token, .int o_from, .int o_end, .int o_value, .int o_faultKind, .int o_faultPlace, .int o_faults, .int o_seen, .int o_toldParts, .ref a_o_opened, .int o_depth, .int o_counted, .ref a_o_farBy, .int o_becameThen, .ref a_o_attendsBy, .ref a_o_coveredBy, .ref a_o_cameBy, .ref a_o_cameThen, .int o_firstCorner, .ref a_o_fallsBy, .int o_drawn, .int o_ranSteps, .ref a_o_loops, .ref a_o_ran, .ref a_o_told1, .int o_isTold, .int o_marks])), (a_o_at, .inl (E.2.1, 3097, .inl o_at))]
set_option maxHeartbeats 4000000 in
set_option maxRecDepth 100000 in
theorem ct_X12_ahead0 (l : Launch) (E : vE) (F : Nat) (a_o a_o_at a_o_names a_o_sort a_o_trayMany a_o_trays a_o_tape a_o_text a_o_opened a_o_farBy a_o_attendsBy a_o_coveredBy a_o_cameBy a_o_cameThen a_o_fallsBy a_o_loops a_o_ran a_o_told1 : Nat) (o_status : Int32) (o_top : Int64) (o_bottom : Int64) (o_taped : Int32) (o_size : Int32) (o_token : Int32) (o_from : Int32) (o_end : Int32) (o_value : Int32) (o_faultKind : Int32) (o_faultPlace : Int32) (o_faults : Int32) (o_seen : Int32) (o_toldParts : Int32) (o_depth : Int32) (o_counted : Int32) (o_becameThen : Int32) (o_firstCorner : Int32) (o_drawn : Int32) (o_ranSteps : Int32) (o_isTold : Int32) (o_marks : Int32) (o_at : Nat → Int32) (u : Int32) (hf : X12_ahead0 F o_at = some u) :
    CtI l yX12_ahead0 cX12_ahead0 3 (some .int) 3 E [.ref a_o] (wd_X12_ahead0 E a_o a_o_at a_o_names a_o_sort a_o_trayMany a_o_trays a_o_tape a_o_text a_o_opened a_o_farBy a_o_attendsBy a_o_coveredBy a_o_cameBy a_o_cameThen a_o_fallsBy a_o_loops a_o_ran a_o_told1 o_status o_top o_bottom o_taped o_size o_token o_from o_end o_value o_faultKind o_faultPlace o_faults o_seen o_toldParts o_depth o_counted o_becameThen o_firstCorner o_drawn o_ranSteps o_isTold o_marks o_at) (wd_X12_ahead0 E a_o a_o_at a_o_names a_o_sort a_o_trayMany a_o_trays a_o_tape a_o_text a_o_opened a_o_farBy a_o_attendsBy a_o_coveredBy a_o_cameBy a_o_cameThen a_o_fallsBy a_o_loops a_o_ran a_o_told1 o_status o_top o_bottom o_taped o_size o_token o_from o_end o_value o_faultKind o_faultPlace o_faults o_seen o_toldParts o_depth o_counted o_becameThen o_firstCorner o_drawn o_ranSteps o_isTold o_marks o_at) u := by
  refine ctI (by decide) (Nat.le_of_ble_eq_true rfl) ?_
  intro p e s m below meth cd A ls aa QQ hq cx hP hD hS hl
  obtain ⟨⟨hx, hb, hml, hown, hts⟩, hr, hlocks, hK, hA, hX⟩ := id cx
  have hl : lv_has ls 3 [(0, .ref a_o)] := hl
  unfold X12_ahead0 at hf
  refine lv_iconst (v := 0) hx hb dX12_ahead0_0 (by decide) ?_
  refine lv_istore_n (lv' := [(1, .int 0), (0, .ref a_o)]) hx hb dX12_ahead0_1 rfl hl (by decide) rfl (fun ls hl => ?_)
  refine lv_iconst (v := 0) hx hb dX12_ahead0_2 (by decide) ?_
  refine lv_istore_n (lv' := [(2, .int 0), (1, .int 0), (0, .ref a_o)]) hx hb dX12_ahead0_3 rfl hl (by decide) rfl (fun ls hl => ?_)
  obtain ⟨e4, hit4, hf⟩ := bd hf
  refine iter_W (b := X12_ahead0_b4 F o_at) (P := fun st4 => ∀ (H : Heap) (locs : List Loc) (ls : Array Slot), va_P E.1 vwCl (wd_X12_ahead0 E a_o a_o_at a_o_names a_o_sort a_o_trayMany a_o_trays a_o_tape a_o_text a_o_opened a_o_farBy a_o_attendsBy a_o_coveredBy a_o_cameBy a_o_cameThen a_o_fallsBy a_o_loops a_o_ran a_o_told1 o_status o_top o_bottom o_taped o_size o_token o_from o_end o_value o_faultKind o_faultPlace o_faults o_seen o_toldParts o_depth o_counted o_becameThen o_firstCorner o_drawn o_ranSteps o_isTold o_marks o_at) H → va_D A (wd_X12_ahead0 E a_o a_o_at a_o_names a_o_sort a_o_trayMany a_o_trays a_o_tape a_o_text a_o_opened a_o_farBy a_o_attendsBy a_o_coveredBy a_o_cameBy a_o_cameThen a_o_fallsBy a_o_loops a_o_ran a_o_told1 o_status o_top o_bottom o_taped o_size o_token o_from o_end o_value o_faultKind o_faultPlace o_faults o_seen o_toldParts o_depth o_counted o_becameThen o_firstCorner o_drawn o_ranSteps o_isTold o_marks o_at) → va_S A s.heap H locs → lv_has ls 3 [(0, .ref a_o), (1, .int st4.1), (2, .int st4.2)] → W p l e (rmd 3) s m aa below meth cd H locs 0 0 QQ (F0 m 4 ls [])) (G := (fun (e4 : Int32) => ∀ (H : Heap) (locs : List Loc) (ls : Array Slot), va_P E.1 vwCl (wd_X12_ahead0 E a_o a_o_at a_o_names a_o_sort a_o_trayMany a_o_trays a_o_tape a_o_text a_o_opened a_o_farBy a_o_attendsBy a_o_coveredBy a_o_cameBy a_o_cameThen a_o_fallsBy a_o_loops a_o_ran a_o_told1 o_status o_top o_bottom o_taped o_size o_token o_from o_end o_value o_faultKind o_faultPlace o_faults o_seen o_toldParts o_depth o_counted o_becameThen o_firstCorner o_drawn o_ranSteps o_isTold o_marks o_at) H → va_D A (wd_X12_ahead0 E a_o a_o_at a_o_names a_o_sort a_o_trayMany a_o_trays a_o_tape a_o_text a_o_opened a_o_farBy a_o_attendsBy a_o_coveredBy a_o_cameBy a_o_cameThen a_o_fallsBy a_o_loops a_o_ran a_o_told1 o_status o_top o_bottom o_taped o_size o_token o_from o_end o_value o_faultKind o_faultPlace o_faults o_seen o_toldParts o_depth o_counted o_becameThen o_firstCorner o_drawn o_ranSteps o_isTold o_marks o_at) → va_S A s.heap H locs → lv_has ls 3 [(1, .int e4)] → W p l e (rmd 3) s m aa below meth cd H locs 0 0 QQ (F0 m 54 ls []))) ?_ F (0, 0) e4 hit4 ?_ _ _ _ hP hD hS (lv_sub hl [2, 1, 0] rfl)
  · intro st4 r4 hf hk4 he4 H locs ls hP hD hS hl
    have hj46 : ∀ (v2_j46 : Int32) (k0_j46 : Int32) (k1_j46 : Int32) (H : Heap) (locs : List Loc) (ls : Array Slot), X12_ahead0_j46 F o_at v2_j46 k0_j46 k1_j46 = some r4 → va_P E.1 vwCl (wd_X12_ahead0 E a_o a_o_at a_o_names a_o_sort a_o_trayMany a_o_trays a_o_tape a_o_text a_o_opened a_o_farBy a_o_attendsBy a_o_coveredBy a_o_cameBy a_o_cameThen a_o_fallsBy a_o_loops a_o_ran a_o_told1 o_status o_top o_bottom o_taped o_size o_token o_from o_end o_value o_faultKind o_faultPlace o_faults o_seen o_toldParts o_depth o_counted o_becameThen o_firstCorner o_drawn o_ranSteps o_isTold o_marks o_at) H → va_D A (wd_X12_ahead0 E a_o a_o_at a_o_names a_o_sort a_o_trayMany a_o_trays a_o_tape a_o_text a_o_opened a_o_farBy a_o_attendsBy a_o_coveredBy a_o_cameBy a_o_cameThen a_o_fallsBy a_o_loops a_o_ran a_o_told1 o_status o_top o_bottom o_taped o_size o_token o_from o_end o_value o_faultKind o_faultPlace o_faults o_seen o_toldParts o_depth o_counted o_becameThen o_firstCorner o_drawn o_ranSteps o_isTold o_marks o_at) → va_S A s.heap H locs → lv_has ls 3 [(0, .ref a_o), (2, .int v2_j46)] → W p l e (rmd 3) s m aa below meth cd H locs 0 0 QQ (F0 m 46 ls [.int k0_j46, .int k1_j46]) := by
      intro v2_j46 k0_j46 k1_j46 H locs ls hf hP hD hS hl
      unfold X12_ahead0_j46 at hf
      refine lv_ior hx hb dX12_ahead0_46 ?_
      refine lv_istore_n (lv' := [(1, .int (k1_j46 ||| k0_j46)), (0, .ref a_o), (2, .int v2_j46)]) hx hb dX12_ahead0_47 rfl hl (by decide) rfl (fun ls hl => ?_)
      refine lv_iinc (v := (v2_j46 + 1)) (lv' := [(2, .int (v2_j46 + 1)), (1, .int (k1_j46 ||| k0_j46)), (0, .ref a_o)]) hx hb dX12_ahead0_48 hl (k := 2) rfl rfl (by decide) rfl (fun ls hl => ?_)
      refine lv_goto (tgt := 4) hx hb dX12_ahead0_51 (by decide) ?_
      exact hk4 _ (Option.some.inj hf).symm _ _ _ hP hD hS (lv_sub hl [2, 1, 0] rfl)
    have hj45 : ∀ (v2_j45 : Int32) (k0_j45 : Int32) (H : Heap) (locs : List Loc) (ls : Array Slot), X12_ahead0_j45 F o_at v2_j45 k0_j45 = some r4 → va_P E.1 vwCl (wd_X12_ahead0 E a_o a_o_at a_o_names a_o_sort a_o_trayMany a_o_trays a_o_tape a_o_text a_o_opened a_o_farBy a_o_attendsBy a_o_coveredBy a_o_cameBy a_o_cameThen a_o_fallsBy a_o_loops a_o_ran a_o_told1 o_status o_top o_bottom o_taped o_size o_token o_from o_end o_value o_faultKind o_faultPlace o_faults o_seen o_toldParts o_depth o_counted o_becameThen o_firstCorner o_drawn o_ranSteps o_isTold o_marks o_at) H → va_D A (wd_X12_ahead0 E a_o a_o_at a_o_names a_o_sort a_o_trayMany a_o_trays a_o_tape a_o_text a_o_opened a_o_farBy a_o_attendsBy a_o_coveredBy a_o_cameBy a_o_cameThen a_o_fallsBy a_o_loops a_o_ran a_o_told1 o_status o_top o_bottom o_taped o_size o_token o_from o_end o_value o_faultKind o_faultPlace o_faults o_seen o_toldParts o_depth o_counted o_becameThen o_firstCorner o_drawn o_ranSteps o_isTold o_marks o_at) → va_S A s.heap H locs → lv_has ls 3 [(0, .ref a_o), (2, .int v2_j45)] → W p l e (rmd 3) s m aa below meth cd H locs 0 0 QQ (F0 m 45 ls [.int k0_j45]) := by
      intro v2_j45 k0_j45 H locs ls hf hP hD hS hl
      unfold X12_ahead0_j45 at hf
      refine lv_iconst (v := 0) hx hb dX12_ahead0_45 (by decide) ?_
      exact hj46 _ _ _ _ _ _ hf hP hD hS (lv_sub hl [0, 1] rfl)
    unfold X12_ahead0_b4 at hf
    refine lv_iload_n hx hb dX12_ahead0_4 rfl (lv_at hl 2 rfl) ?_
    refine lv_aload_n hx hb dX12_ahead0_5 rfl (lv_at hl 0 rfl) ?_
    refine va_get (D := E.1) (ci := 12) (v := .ref a_o_at) (C := RX12) (T := TX12) (N := 39) hx hb hts inX12 hown hK hP 0 rfl rfl 0 (by decide) (hts _ fl_X12_7) (fun _ h9 => h9) rfl dX12_ahead0_6 ?_
    refine lv_iconst (v := 3) hx hb dX12_ahead0_9 (by decide) ?_
    obtain ⟨hi, hf⟩ := ck hf
    refine r_iald 1 cx hP rfl hi dX12_ahead0_10 ?_
    refine lv_icmp_ge (tgt := 54) hx hb dX12_ahead0_11 (by decide) (fun hc => ?_) (fun hc => ?_)
    · have hf := it_t hc hf
      exact he4 _ (Option.some.inj hf).symm _ _ _ hP hD hS (lv_sub hl [1] rfl)
    · have hf := it_f hc hf
      refine lv_iload_n hx hb dX12_ahead0_14 rfl (lv_at hl 1 rfl) ?_
      refine lv_aload_n hx hb dX12_ahead0_15 rfl (lv_at hl 0 rfl) ?_
      refine lv_iload_n hx hb dX12_ahead0_16 rfl (lv_at hl 2 rfl) ?_
      obtain ⟨u17, hu17, hf⟩ := bd hf
      refine keepVI (ct_X12_isToCome l E a_o a_o_at a_o_names a_o_sort a_o_trayMany a_o_trays a_o_tape a_o_text a_o_opened a_o_farBy a_o_attendsBy a_o_coveredBy a_o_cameBy a_o_cameThen a_o_fallsBy a_o_loops a_o_ran a_o_told1 o_status o_top o_bottom o_taped o_size o_token o_from o_end o_value o_faultKind o_faultPlace o_faults o_seen o_toldParts o_depth o_counted o_becameThen o_firstCorner o_drawn o_ranSteps o_isTold o_marks o_at st4.2 u17 hu17) [0, 1] cal_X12_isToCome cav_X12_isToCome lk_X12_333 cx hP hD hS hl dX12_ahead0_17 rfl rfl rfl rfl (Nat.le_of_ble_eq_true rfl) ⟨Nat.le_of_ble_eq_true rfl, Nat.le_of_ble_eq_true rfl⟩ rfl (by decide) (fun H locs hP hS => ?_)
      refine lv_if_eq (tgt := 45) hx hb dX12_ahead0_20 (by decide) (fun hc => ?_) (fun hc => ?_)
      · have hf := it_t hc hf
        exact hj45 _ _ _ _ _ hf hP hD hS (lv_sub hl [0, 2] rfl)
      · have hf := it_f hc hf
        refine lv_aload_n hx hb dX12_ahead0_23 rfl (lv_at hl 0 rfl) ?_
        refine lv_iload_n hx hb dX12_ahead0_24 rfl (lv_at hl 2 rfl) ?_
        refine lv_iconst (v := 1) hx hb dX12_ahead0_25 (by decide) ?_
        obtain ⟨u26, hu26, hf⟩ := bd hf
        refine keepVI (ct_X12_happeningOf l E a_o a_o_at a_o_names a_o_sort a_o_trayMany a_o_trays a_o_tape a_o_text a_o_opened a_o_farBy a_o_attendsBy a_o_coveredBy a_o_cameBy a_o_cameThen a_o_fallsBy a_o_loops a_o_ran a_o_told1 o_status o_top o_bottom o_taped o_size o_token o_from o_end o_value o_faultKind o_faultPlace o_faults o_seen o_toldParts o_depth o_counted o_becameThen o_firstCorner o_drawn o_ranSteps o_isTold o_marks o_at st4.2 (1 : Int32) u26 hu26) [0, 1] cal_X12_happeningOf cav_X12_happeningOf lk_X12_278 cx hP hD hS hl dX12_ahead0_26 rfl rfl rfl rfl (Nat.le_of_ble_eq_true rfl) ⟨Nat.le_of_ble_eq_true rfl, Nat.le_of_ble_eq_true rfl⟩ rfl (by decide) (fun H locs hP hS => ?_)
        refine lv_aload_n hx hb dX12_ahead0_29 rfl (lv_at hl 0 rfl) ?_
        refine va_get (D := E.1) (ci := 12) (v := .ref a_o_at) (C := RX12) (T := TX12) (N := 39) hx hb hts inX12 hown hK hP 0 rfl rfl 0 (by decide) (hts _ fl_X12_7) (fun _ h9 => h9) rfl dX12_ahead0_30 ?_
        refine lv_bipush (v := 8) hx hb dX12_ahead0_33 (by decide) ?_
        obtain ⟨hi, hf⟩ := ck hf
        refine r_iald 1 cx hP rfl hi dX12_ahead0_35 ?_
        refine lv_icmp_lt (tgt := 45) hx hb dX12_ahead0_36 (by decide) (fun hc => ?_) (fun hc => ?_)
        · have hf := it_t hc hf
          exact hj45 _ _ _ _ _ hf hP hD hS (lv_sub hl [0, 2] rfl)
        · have hf := it_f hc hf
          refine lv_iconst (v := 1) hx hb dX12_ahead0_39 (by decide) ?_
          refine lv_iload_n hx hb dX12_ahead0_40 rfl (lv_at hl 2 rfl) ?_
          refine r_ishl hx hb dX12_ahead0_41 ?_
          refine lv_goto (tgt := 46) hx hb dX12_ahead0_42 (by decide) ?_
          exact hj46 _ _ _ _ _ _ hf hP hD hS (lv_sub hl [0, 2] rfl)
  · refine fun H locs ls hP hD hS hl => ?_
    refine lv_iload_n hx hb dX12_ahead0_54 rfl (lv_at hl 0 rfl) ?_
    obtain rfl := Option.some.inj hf
    subst hq
    exact retI cx hP hD hS dX12_ahead0_55
def X12_canAttend_b43 (F : Nat) (o_at : Nat → Int32) (o_farBy : Nat → Int32) (st43 : Int32 × Int32 × Int32) : Option ((Int32 × Int32 × Int32) ⊕ ((Unit) ⊕ (Unit))) :=
  if st43.2.2 = 0 then
  some (.inr (.inr (())))
  else
  (X12_soonestOf F o_at st43.2.2).bind fun u51 =>
  (X12_happeningOf o_at u51 (1 : Int32)).bind fun u71 =>
  (X12_happeningOf o_at u51 (0 : Int32)).bind fun u88 =>
  if ix ((8 * st43.1) + u88) 64 then
  if (jat o_farBy ((8 * st43.1) + u88)) ≤ (u71 - st43.2.1) then
  (X12_happeningOf o_at u51 (0 : Int32)).bind fun u107 =>
  some (.inl (u107, u71, (st43.2.2 &&& ((jshl 1 u51) ^^^ (-1)))))
  else
  some (.inr (.inl (())))
  else none
def X12_canAttend_j35 (F : Nat) (o_at : Nat → Int32) (o_farBy : Nat → Int32) (v2 : Int32) (v3 : Int32) (k0 : Int32) (k1 : Int32) : Option (Int32) :=
  (iter (X12_canAttend_b43 F o_at o_farBy) F (v3, ((k1 + k0) - 1), v2)).bind (Sum.elim (fun (e43 : Unit) =>
    some 0) (fun (e43 : Unit) =>
    some 1))
def X12_canAttend (F : Nat) (o_at : Nat → Int32) (o_farBy : Nat → Int32) (v1 : Int32) (v2 : Int32) : Option (Int32) :=
  (X12_extraOf o_at v1 (0 : Int32)).bind fun u3 =>
  if ¬ 10 = (0 : Int32) then
  if ix 8 3097 then
  (X12_doesStand o_at v1).bind fun u19 =>
  if u19 = 0 then
  (X12_extraOf o_at v1 (1 : Int32)).bind fun u32 =>
  X12_canAttend_j35 F o_at o_farBy v2 (jrem u3 10) u32 (jat o_at 8)
  else
  X12_canAttend_j35 F o_at o_farBy v2 (jrem u3 10) 0 (jat o_at 8)
  else none
  else none
abbrev wd_X12_canAttend (E : vE) (a_o a_o_at a_o_names a_o_sort a_o_trayMany a_o_trays a_o_tape a_o_text a_o_opened a_o_farBy a_o_attendsBy a_o_coveredBy a_o_cameBy a_o_cameThen a_o_fallsBy a_o_loops a_o_ran a_o_told1 : Nat) (o_status : Int32) (o_top : Int64) (o_bottom : Int64) (o_taped : Int32) (o_size : Int32) (o_token : Int32) (o_from : Int32) (o_end : Int32) (o_value : Int32) (o_faultKind : Int32) (o_faultPlace : Int32) (o_faults : Int32) (o_seen : Int32) (o_toldParts : Int32) (o_depth : Int32) (o_counted : Int32) (o_becameThen : Int32) (o_firstCorner : Int32) (o_drawn : Int32) (o_ranSteps : Int32) (o_isTold : Int32) (o_marks : Int32) (o_at : Nat → Int32) (o_farBy : Nat → Int32) : va_W := [(a_o, .inr (12, [.ref a_o_at, .ref a_o_names, .int o_status, .long o_top, .long o_bottom, .ref a_o_sort, .ref a_o_trayMany, .ref a_o_trays, .ref a_o_tape, .ref a_o_text, .int o_taped, .int o_size, .int o_token, .int o_from, .int o_end, .int o_value, .int o_faultKind, .int o_faultPlace, .int o_faults, .int o_seen, .int o_toldParts, .ref a_o_opened, .int o_depth, .int o_counted, .ref a_o_farBy, .int o_becameThen, .ref a_o_attendsBy, .ref a_o_coveredBy, .ref a_o_cameBy, .ref a_o_cameThen, .int o_firstCorner, .ref a_o_fallsBy, .int o_drawn, .int o_ranSteps, .ref a_o_loops, .ref a_o_ran, .ref a_o_told1, .int o_isTold, .int o_marks])), (a_o_at, .inl (E.2.1, 3097, .inl o_at)), (a_o_farBy, .inl (E.2.1, 64, .inl o_farBy))]
set_option maxHeartbeats 4000000 in
set_option maxRecDepth 100000 in
theorem ct_X12_canAttend (l : Launch) (E : vE) (F : Nat) (a_o a_o_at a_o_names a_o_sort a_o_trayMany a_o_trays a_o_tape a_o_text a_o_opened a_o_farBy a_o_attendsBy a_o_coveredBy a_o_cameBy a_o_cameThen a_o_fallsBy a_o_loops a_o_ran a_o_told1 : Nat) (o_status : Int32) (o_top : Int64) (o_bottom : Int64) (o_taped : Int32) (o_size : Int32) (o_token : Int32) (o_from : Int32) (o_end : Int32) (o_value : Int32) (o_faultKind : Int32) (o_faultPlace : Int32) (o_faults : Int32) (o_seen : Int32) (o_toldParts : Int32) (o_depth : Int32) (o_counted : Int32) (o_becameThen : Int32) (o_firstCorner : Int32) (o_drawn : Int32) (o_ranSteps : Int32) (o_isTold : Int32) (o_marks : Int32) (o_at : Nat → Int32) (o_farBy : Nat → Int32) (v1 : Int32) (v2 : Int32) (u : Int32) (hf : X12_canAttend F o_at o_farBy v1 v2 = some u) :
    CtI l yX12_canAttend cX12_canAttend 8 (some .boolean) 4 E [.ref a_o, .int v1, .int v2] (wd_X12_canAttend E a_o a_o_at a_o_names a_o_sort a_o_trayMany a_o_trays a_o_tape a_o_text a_o_opened a_o_farBy a_o_attendsBy a_o_coveredBy a_o_cameBy a_o_cameThen a_o_fallsBy a_o_loops a_o_ran a_o_told1 o_status o_top o_bottom o_taped o_size o_token o_from o_end o_value o_faultKind o_faultPlace o_faults o_seen o_toldParts o_depth o_counted o_becameThen o_firstCorner o_drawn o_ranSteps o_isTold o_marks o_at o_farBy) (wd_X12_canAttend E a_o a_o_at a_o_names a_o_sort a_o_trayMany a_o_trays a_o_tape a_o_text a_o_opened a_o_farBy a_o_attendsBy a_o_coveredBy a_o_cameBy a_o_cameThen a_o_fallsBy a_o_loops a_o_ran a_o_told1 o_status o_top o_bottom o_taped o_size o_token o_from o_end o_value o_faultKind o_faultPlace o_faults o_seen o_toldParts o_depth o_counted o_becameThen o_firstCorner o_drawn o_ranSteps o_isTold o_marks o_at o_farBy) u := by
  refine ctI (by decide) (Nat.le_of_ble_eq_true rfl) ?_
  intro p e s m below meth cd A ls aa QQ hq cx hP hD hS hl
  obtain ⟨⟨hx, hb, hml, hown, hts⟩, hr, hlocks, hK, hA, hX⟩ := id cx
  have hl : lv_has ls 8 [(0, .ref a_o), (1, .int v1), (2, .int v2)] := hl
  have hj35 : ∀ (v3_j35 : Int32) (k0_j35 : Int32) (k1_j35 : Int32) (H : Heap) (locs : List Loc) (ls : Array Slot), X12_canAttend_j35 F o_at o_farBy v2 v3_j35 k0_j35 k1_j35 = some u → va_P E.1 vwCl (wd_X12_canAttend E a_o a_o_at a_o_names a_o_sort a_o_trayMany a_o_trays a_o_tape a_o_text a_o_opened a_o_farBy a_o_attendsBy a_o_coveredBy a_o_cameBy a_o_cameThen a_o_fallsBy a_o_loops a_o_ran a_o_told1 o_status o_top o_bottom o_taped o_size o_token o_from o_end o_value o_faultKind o_faultPlace o_faults o_seen o_toldParts o_depth o_counted o_becameThen o_firstCorner o_drawn o_ranSteps o_isTold o_marks o_at o_farBy) H → va_D A (wd_X12_canAttend E a_o a_o_at a_o_names a_o_sort a_o_trayMany a_o_trays a_o_tape a_o_text a_o_opened a_o_farBy a_o_attendsBy a_o_coveredBy a_o_cameBy a_o_cameThen a_o_fallsBy a_o_loops a_o_ran a_o_told1 o_status o_top o_bottom o_taped o_size o_token o_from o_end o_value o_faultKind o_faultPlace o_faults o_seen o_toldParts o_depth o_counted o_becameThen o_firstCorner o_drawn o_ranSteps o_isTold o_marks o_at o_farBy) → va_S A s.heap H locs → lv_has ls 8 [(0, .ref a_o), (2, .int v2), (3, .int v3_j35)] → W p l e (rmd 4) s m aa below meth cd H locs 0 0 QQ (F0 m 35 ls [.int k0_j35, .int k1_j35]) := by
    intro v3_j35 k0_j35 k1_j35 H locs ls hf hP hD hS hl
    unfold X12_canAttend_j35 at hf
    refine lv_iadd hx hb dX12_canAttend_35 ?_
    refine lv_iconst (v := 1) hx hb dX12_canAttend_36 (by decide) ?_
    refine lv_isub hx hb dX12_canAttend_37 ?_
    refine lv_istore (lv' := [(4, .int ((k1_j35 + k0_j35) - 1)), (0, .ref a_o), (2, .int v2), (3, .int v3_j35)]) hx hb dX12_canAttend_38 hl (by decide) rfl (fun ls hl => ?_)
    refine lv_iload_n hx hb dX12_canAttend_40 rfl (lv_at hl 2 rfl) ?_
    refine lv_istore (lv' := [(5, .int v2), (4, .int ((k1_j35 + k0_j35) - 1)), (0, .ref a_o), (2, .int v2), (3, .int v3_j35)]) hx hb dX12_canAttend_41 hl (by decide) rfl (fun ls hl => ?_)
    obtain ⟨e43, hit43, hf⟩ := bd hf
    refine iter_W (b := X12_canAttend_b43 F o_at o_farBy) (P := fun st43 => ∀ (H : Heap) (locs : List Loc) (ls : Array Slot), va_P E.1 vwCl (wd_X12_canAttend E a_o a_o_at a_o_names a_o_sort a_o_trayMany a_o_trays a_o_tape a_o_text a_o_opened a_o_farBy a_o_attendsBy a_o_coveredBy a_o_cameBy a_o_cameThen a_o_fallsBy a_o_loops a_o_ran a_o_told1 o_status o_top o_bottom o_taped o_size o_token o_from o_end o_value o_faultKind o_faultPlace o_faults o_seen o_toldParts o_depth o_counted o_becameThen o_firstCorner o_drawn o_ranSteps o_isTold o_marks o_at o_farBy) H → va_D A (wd_X12_canAttend E a_o a_o_at a_o_names a_o_sort a_o_trayMany a_o_trays a_o_tape a_o_text a_o_opened a_o_farBy a_o_attendsBy a_o_coveredBy a_o_cameBy a_o_cameThen a_o_fallsBy a_o_loops a_o_ran a_o_told1 o_status o_top o_bottom o_taped o_size o_token o_from o_end o_value o_faultKind o_faultPlace o_faults o_seen o_toldParts o_depth o_counted o_becameThen o_firstCorner o_drawn o_ranSteps o_isTold o_marks o_at o_farBy) → va_S A s.heap H locs → lv_has ls 8 [(0, .ref a_o), (3, .int st43.1), (4, .int st43.2.1), (5, .int st43.2.2)] → W p l e (rmd 4) s m aa below meth cd H locs 0 0 QQ (F0 m 43 ls [])) (G := (Sum.elim (fun (e43 : Unit) => ∀ (H : Heap) (locs : List Loc) (ls : Array Slot), va_P E.1 vwCl (wd_X12_canAttend E a_o a_o_at a_o_names a_o_sort a_o_trayMany a_o_trays a_o_tape a_o_text a_o_opened a_o_farBy a_o_attendsBy a_o_coveredBy a_o_cameBy a_o_cameThen a_o_fallsBy a_o_loops a_o_ran a_o_told1 o_status o_top o_bottom o_taped o_size o_token o_from o_end o_value o_faultKind o_faultPlace o_faults o_seen o_toldParts o_depth o_counted o_becameThen o_firstCorner o_drawn o_ranSteps o_isTold o_marks o_at o_farBy) H → va_D A (wd_X12_canAttend E a_o a_o_at a_o_names a_o_sort a_o_trayMany a_o_trays a_o_tape a_o_text a_o_opened a_o_farBy a_o_attendsBy a_o_coveredBy a_o_cameBy a_o_cameThen a_o_fallsBy a_o_loops a_o_ran a_o_told1 o_status o_top o_bottom o_taped o_size o_token o_from o_end o_value o_faultKind o_faultPlace o_faults o_seen o_toldParts o_depth o_counted o_becameThen o_firstCorner o_drawn o_ranSteps o_isTold o_marks o_at o_farBy) → va_S A s.heap H locs → lv_has ls 8 [] → W p l e (rmd 4) s m aa below meth cd H locs 0 0 QQ (F0 m 101 ls [])) (fun (e43 : Unit) => ∀ (H : Heap) (locs : List Loc) (ls : Array Slot), va_P E.1 vwCl (wd_X12_canAttend E a_o a_o_at a_o_names a_o_sort a_o_trayMany a_o_trays a_o_tape a_o_text a_o_opened a_o_farBy a_o_attendsBy a_o_coveredBy a_o_cameBy a_o_cameThen a_o_fallsBy a_o_loops a_o_ran a_o_told1 o_status o_top o_bottom o_taped o_size o_token o_from o_end o_value o_faultKind o_faultPlace o_faults o_seen o_toldParts o_depth o_counted o_becameThen o_firstCorner o_drawn o_ranSteps o_isTold o_marks o_at o_farBy) H → va_D A (wd_X12_canAttend E a_o a_o_at a_o_names a_o_sort a_o_trayMany a_o_trays a_o_tape a_o_text a_o_opened a_o_farBy a_o_attendsBy a_o_coveredBy a_o_cameBy a_o_cameThen a_o_fallsBy a_o_loops a_o_ran a_o_told1 o_status o_top o_bottom o_taped o_size o_token o_from o_end o_value o_faultKind o_faultPlace o_faults o_seen o_toldParts o_depth o_counted o_becameThen o_firstCorner o_drawn o_ranSteps o_isTold o_marks o_at o_farBy) → va_S A s.heap H locs → lv_has ls 8 [] → W p l e (rmd 4) s m aa below meth cd H locs 0 0 QQ (F0 m 118 ls [])))) ?_ F (v3_j35, ((k1_j35 + k0_j35) - 1), v2) e43 hit43 ?_ _ _ _ hP hD hS (lv_sub hl [2, 4, 1, 0] rfl)
    · intro st43 r43 hf hk43 he43 H locs ls hP hD hS hl
      unfold X12_canAttend_b43 at hf
      refine lv_iload hx hb dX12_canAttend_43 (lv_at hl 3 rfl) ?_
      refine lv_if_eq (tgt := 118) hx hb dX12_canAttend_45 (by decide) (fun hc => ?_) (fun hc => ?_)
      · have hf := it_t hc hf
        exact he43 _ (Option.some.inj hf).symm _ _ _ hP hD hS (lv_sub hl [] rfl)
      · have hf := it_f hc hf
        refine lv_aload_n hx hb dX12_canAttend_48 rfl (lv_at hl 0 rfl) ?_
        refine lv_iload hx hb dX12_canAttend_49 (lv_at hl 3 rfl) ?_
        obtain ⟨u51, hu51, hf⟩ := bd hf
        refine keepVI (ct_X12_soonestOf l E F a_o a_o_at a_o_names a_o_sort a_o_trayMany a_o_trays a_o_tape a_o_text a_o_opened a_o_farBy a_o_attendsBy a_o_coveredBy a_o_cameBy a_o_cameThen a_o_fallsBy a_o_loops a_o_ran a_o_told1 o_status o_top o_bottom o_taped o_size o_token o_from o_end o_value o_faultKind o_faultPlace o_faults o_seen o_toldParts o_depth o_counted o_becameThen o_firstCorner o_drawn o_ranSteps o_isTold o_marks o_at st43.2.2 u51 hu51) [0, 1] cal_X12_soonestOf cav_X12_soonestOf lk_X12_336 cx hP hD hS hl dX12_canAttend_51 rfl rfl rfl rfl (Nat.le_of_ble_eq_true rfl) ⟨Nat.le_of_ble_eq_true rfl, Nat.le_of_ble_eq_true rfl⟩ rfl (by decide) (fun H locs hP hS => ?_)
        refine lv_istore (lv' := [(6, .int u51), (0, .ref a_o), (3, .int st43.1), (4, .int st43.2.1), (5, .int st43.2.2)]) hx hb dX12_canAttend_54 hl (by decide) rfl (fun ls hl => ?_)
        refine lv_iload hx hb dX12_canAttend_56 (lv_at hl 4 rfl) ?_
        refine lv_iconst (v := 1) hx hb dX12_canAttend_58 (by decide) ?_
        refine lv_iload hx hb dX12_canAttend_59 (lv_at hl 0 rfl) ?_
        refine r_ishl hx hb dX12_canAttend_61 ?_
        refine lv_iconst (v := (-1)) hx hb dX12_canAttend_62 (by decide) ?_
        refine lv_ixor hx hb dX12_canAttend_63 ?_
        refine lv_iand hx hb dX12_canAttend_64 ?_
        refine lv_istore (lv' := [(5, .int (st43.2.2 &&& ((jshl 1 u51) ^^^ (-1)))), (6, .int u51), (0, .ref a_o), (3, .int st43.1), (4, .int st43.2.1)]) hx hb dX12_canAttend_65 hl (by decide) rfl (fun ls hl => ?_)
        refine lv_aload_n hx hb dX12_canAttend_67 rfl (lv_at hl 2 rfl) ?_
        refine lv_iload hx hb dX12_canAttend_68 (lv_at hl 1 rfl) ?_
        refine lv_iconst (v := 1) hx hb dX12_canAttend_70 (by decide) ?_
        obtain ⟨u71, hu71, hf⟩ := bd hf
        refine keepVI (ct_X12_happeningOf l E a_o a_o_at a_o_names a_o_sort a_o_trayMany a_o_trays a_o_tape a_o_text a_o_opened a_o_farBy a_o_attendsBy a_o_coveredBy a_o_cameBy a_o_cameThen a_o_fallsBy a_o_loops a_o_ran a_o_told1 o_status o_top o_bottom o_taped o_size o_token o_from o_end o_value o_faultKind o_faultPlace o_faults o_seen o_toldParts o_depth o_counted o_becameThen o_firstCorner o_drawn o_ranSteps o_isTold o_marks o_at u51 (1 : Int32) u71 hu71) [0, 1] cal_X12_happeningOf cav_X12_happeningOf lk_X12_278 cx hP hD hS hl dX12_canAttend_71 rfl rfl rfl rfl (Nat.le_of_ble_eq_true rfl) ⟨Nat.le_of_ble_eq_true rfl, Nat.le_of_ble_eq_true rfl⟩ rfl (by decide) (fun H locs hP hS => ?_)
        refine lv_istore (lv' := [(7, .int u71), (5, .int (st43.2.2 &&& ((jshl 1 u51) ^^^ (-1)))), (6, .int u51), (0, .ref a_o), (3, .int st43.1), (4, .int st43.2.1)]) hx hb dX12_canAttend_74 hl (by decide) rfl (fun ls hl => ?_)
        refine lv_aload_n hx hb dX12_canAttend_76 rfl (lv_at hl 3 rfl) ?_
        refine va_get (D := E.1) (ci := 12) (v := .ref a_o_farBy) (C := RX12) (T := TX12) (N := 39) hx hb hts inX12 hown hK hP 0 rfl rfl 24 (by decide) (hts _ fl_X12_47) (fun _ h9 => h9) rfl dX12_canAttend_77 ?_
        refine lv_bipush (v := 8) hx hb dX12_canAttend_80 (by decide) ?_
        refine lv_iload_n hx hb dX12_canAttend_82 rfl (lv_at hl 4 rfl) ?_
        refine lv_imul hx hb dX12_canAttend_83 ?_
        refine lv_aload_n hx hb dX12_canAttend_84 rfl (lv_at hl 3 rfl) ?_
        refine lv_iload hx hb dX12_canAttend_85 (lv_at hl 2 rfl) ?_
        refine lv_iconst (v := 0) hx hb dX12_canAttend_87 (by decide) ?_
        obtain ⟨u88, hu88, hf⟩ := bd hf
        refine keepVI (ct_X12_happeningOf l E a_o a_o_at a_o_names a_o_sort a_o_trayMany a_o_trays a_o_tape a_o_text a_o_opened a_o_farBy a_o_attendsBy a_o_coveredBy a_o_cameBy a_o_cameThen a_o_fallsBy a_o_loops a_o_ran a_o_told1 o_status o_top o_bottom o_taped o_size o_token o_from o_end o_value o_faultKind o_faultPlace o_faults o_seen o_toldParts o_depth o_counted o_becameThen o_firstCorner o_drawn o_ranSteps o_isTold o_marks o_at u51 (0 : Int32) u88 hu88) [0, 1] cal_X12_happeningOf cav_X12_happeningOf lk_X12_278 cx hP hD hS hl dX12_canAttend_88 rfl rfl rfl rfl (Nat.le_of_ble_eq_true rfl) ⟨Nat.le_of_ble_eq_true rfl, Nat.le_of_ble_eq_true rfl⟩ rfl (by decide) (fun H locs hP hS => ?_)
        refine lv_iadd hx hb dX12_canAttend_91 ?_
        obtain ⟨hi, hf⟩ := ck hf
        refine r_iald 2 cx hP rfl hi dX12_canAttend_92 ?_
        refine lv_iload hx hb dX12_canAttend_93 (lv_at hl 0 rfl) ?_
        refine lv_iload hx hb dX12_canAttend_95 (lv_at hl 5 rfl) ?_
        refine lv_isub hx hb dX12_canAttend_97 ?_
        refine lv_icmp_le (tgt := 103) hx hb dX12_canAttend_98 (by decide) (fun hc => ?_) (fun hc => ?_)
        · have hf := it_t hc hf
          refine lv_aload_n hx hb dX12_canAttend_103 rfl (lv_at hl 3 rfl) ?_
          refine lv_iload hx hb dX12_canAttend_104 (lv_at hl 2 rfl) ?_
          refine lv_iconst (v := 0) hx hb dX12_canAttend_106 (by decide) ?_
          obtain ⟨u107, hu107, hf⟩ := bd hf
          refine keepVI (ct_X12_happeningOf l E a_o a_o_at a_o_names a_o_sort a_o_trayMany a_o_trays a_o_tape a_o_text a_o_opened a_o_farBy a_o_attendsBy a_o_coveredBy a_o_cameBy a_o_cameThen a_o_fallsBy a_o_loops a_o_ran a_o_told1 o_status o_top o_bottom o_taped o_size o_token o_from o_end o_value o_faultKind o_faultPlace o_faults o_seen o_toldParts o_depth o_counted o_becameThen o_firstCorner o_drawn o_ranSteps o_isTold o_marks o_at u51 (0 : Int32) u107 hu107) [0, 1] cal_X12_happeningOf cav_X12_happeningOf lk_X12_278 cx hP hD hS hl dX12_canAttend_107 rfl rfl rfl rfl (Nat.le_of_ble_eq_true rfl) ⟨Nat.le_of_ble_eq_true rfl, Nat.le_of_ble_eq_true rfl⟩ rfl (by decide) (fun H locs hP hS => ?_)
          refine lv_istore_n (lv' := [(3, .int u107), (7, .int u71), (5, .int (st43.2.2 &&& ((jshl 1 u51) ^^^ (-1)))), (6, .int u51), (0, .ref a_o), (4, .int st43.2.1)]) hx hb dX12_canAttend_110 rfl hl (by decide) rfl (fun ls hl => ?_)
          refine lv_iload hx hb dX12_canAttend_111 (lv_at hl 1 rfl) ?_
          refine lv_istore (lv' := [(4, .int u71), (3, .int u107), (7, .int u71), (5, .int (st43.2.2 &&& ((jshl 1 u51) ^^^ (-1)))), (6, .int u51), (0, .ref a_o)]) hx hb dX12_canAttend_113 hl (by decide) rfl (fun ls hl => ?_)
          refine lv_goto (tgt := 43) hx hb dX12_canAttend_115 (by decide) ?_
          exact hk43 _ (Option.some.inj hf).symm _ _ _ hP hD hS (lv_sub hl [5, 1, 0, 3] rfl)
        · have hf := it_f hc hf
          exact he43 _ (Option.some.inj hf).symm _ _ _ hP hD hS (lv_sub hl [] rfl)
    · rcases e43 with e43 | e43
      · have hf := se_l hf
        refine fun H locs ls hP hD hS hl => ?_
        refine lv_iconst (v := 0) hx hb dX12_canAttend_101 (by decide) ?_
        obtain rfl := Option.some.inj hf
        subst hq
        exact retZ cx rfl hP hD hS dX12_canAttend_102
      · have hf := se_r hf
        refine fun H locs ls hP hD hS hl => ?_
        refine lv_iconst (v := 1) hx hb dX12_canAttend_118 (by decide) ?_
        obtain rfl := Option.some.inj hf
        subst hq
        exact retZ cx rfl hP hD hS dX12_canAttend_119
  unfold X12_canAttend at hf
  refine lv_aload_n hx hb dX12_canAttend_0 rfl (lv_at hl 0 rfl) ?_
  refine lv_iload_n hx hb dX12_canAttend_1 rfl (lv_at hl 1 rfl) ?_
  refine lv_iconst (v := 0) hx hb dX12_canAttend_2 (by decide) ?_
  obtain ⟨u3, hu3, hf⟩ := bd hf
  refine keepVI (ct_X12_extraOf l E a_o a_o_at a_o_names a_o_sort a_o_trayMany a_o_trays a_o_tape a_o_text a_o_opened a_o_farBy a_o_attendsBy a_o_coveredBy a_o_cameBy a_o_cameThen a_o_fallsBy a_o_loops a_o_ran a_o_told1 o_status o_top o_bottom o_taped o_size o_token o_from o_end o_value o_faultKind o_faultPlace o_faults o_seen o_toldParts o_depth o_counted o_becameThen o_firstCorner o_drawn o_ranSteps o_isTold o_marks o_at v1 (0 : Int32) u3 hu3) [0, 1] cal_X12_extraOf cav_X12_extraOf lk_X12_275 cx hP hD hS hl dX12_canAttend_3 rfl rfl rfl rfl (Nat.le_of_ble_eq_true rfl) ⟨Nat.le_of_ble_eq_true rfl, Nat.le_of_ble_eq_true rfl⟩ rfl (by decide) (fun H locs hP hS => ?_)
  refine lv_bipush (v := 10) hx hb dX12_canAttend_6 (by decide) ?_
  obtain ⟨hnz, hf⟩ := ck hf
  refine r_irem hx hb dX12_canAttend_8 hnz ?_
  refine lv_istore_n (lv' := [(3, .int (jrem u3 10)), (0, .ref a_o), (1, .int v1), (2, .int v2)]) hx hb dX12_canAttend_9 rfl hl (by decide) rfl (fun ls hl => ?_)
  refine lv_aload_n hx hb dX12_canAttend_10 rfl (lv_at hl 1 rfl) ?_
  refine va_get (D := E.1) (ci := 12) (v := .ref a_o_at) (C := RX12) (T := TX12) (N := 39) hx hb hts inX12 hown hK hP 0 rfl rfl 0 (by decide) (hts _ fl_X12_7) (fun _ h9 => h9) rfl dX12_canAttend_11 ?_
  refine lv_bipush (v := 8) hx hb dX12_canAttend_14 (by decide) ?_
  obtain ⟨hi, hf⟩ := ck hf
  refine r_iald 1 cx hP rfl hi dX12_canAttend_16 ?_
  refine lv_aload_n hx hb dX12_canAttend_17 rfl (lv_at hl 1 rfl) ?_
  refine lv_iload_n hx hb dX12_canAttend_18 rfl (lv_at hl 2 rfl) ?_
  obtain ⟨u19, hu19, hf⟩ := bd hf
  refine keepVI (ct_X12_doesStand l E a_o a_o_at a_o_names a_o_sort a_o_trayMany a_o_trays a_o_tape a_o_text a_o_opened a_o_farBy a_o_attendsBy a_o_coveredBy a_o_cameBy a_o_cameThen a_o_fallsBy a_o_loops a_o_ran a_o_told1 o_status o_top o_bottom o_taped o_size o_token o_from o_end o_value o_faultKind o_faultPlace o_faults o_seen o_toldParts o_depth o_counted o_becameThen o_firstCorner o_drawn o_ranSteps o_isTold o_marks o_at v1 u19 hu19) [0, 1] cal_X12_doesStand cav_X12_doesStand lk_X12_281 cx hP hD hS hl dX12_canAttend_19 rfl rfl rfl rfl (Nat.le_of_ble_eq_true rfl) ⟨Nat.le_of_ble_eq_true rfl, Nat.le_of_ble_eq_true rfl⟩ rfl (by decide) (fun H locs hP hS => ?_)
  refine lv_if_eq (tgt := 29) hx hb dX12_canAttend_22 (by decide) (fun hc => ?_) (fun hc => ?_)
  · have hf := it_t hc hf
    refine lv_aload_n hx hb dX12_canAttend_29 rfl (lv_at hl 1 rfl) ?_
    refine lv_iload_n hx hb dX12_canAttend_30 rfl (lv_at hl 2 rfl) ?_
    refine lv_iconst (v := 1) hx hb dX12_canAttend_31 (by decide) ?_
    obtain ⟨u32, hu32, hf⟩ := bd hf
    refine keepVI (ct_X12_extraOf l E a_o a_o_at a_o_names a_o_sort a_o_trayMany a_o_trays a_o_tape a_o_text a_o_opened a_o_farBy a_o_attendsBy a_o_coveredBy a_o_cameBy a_o_cameThen a_o_fallsBy a_o_loops a_o_ran a_o_told1 o_status o_top o_bottom o_taped o_size o_token o_from o_end o_value o_faultKind o_faultPlace o_faults o_seen o_toldParts o_depth o_counted o_becameThen o_firstCorner o_drawn o_ranSteps o_isTold o_marks o_at v1 (1 : Int32) u32 hu32) [0, 1] cal_X12_extraOf cav_X12_extraOf lk_X12_275 cx hP hD hS hl dX12_canAttend_32 rfl rfl rfl rfl (Nat.le_of_ble_eq_true rfl) ⟨Nat.le_of_ble_eq_true rfl, Nat.le_of_ble_eq_true rfl⟩ rfl (by decide) (fun H locs hP hS => ?_)
    exact hj35 _ _ _ _ _ _ hf hP hD hS (lv_sub hl [1, 3, 0] rfl)
  · have hf := it_f hc hf
    refine lv_iconst (v := 0) hx hb dX12_canAttend_25 (by decide) ?_
    refine lv_goto (tgt := 35) hx hb dX12_canAttend_26 (by decide) ?_
    exact hj35 _ _ _ _ _ _ hf hP hD hS (lv_sub hl [1, 3, 0] rfl)
def X12_attends_j70 (F : Nat) (o_status : Int32) (o_at : Nat → Int32) (o_farBy : Nat → Int32) (k0 : Int32) : Option (Int32 × Int32 × (Nat → Int32)) :=
  (X12_gives o_status k0).bind fun u70 =>
  some (u70.1, u70.2, o_farBy)
def X12_attends_j27 (F : Nat) (o_status : Int32) (o_at : Nat → Int32) (o_farBy : Nat → Int32) : Option (Int32 × Int32 × (Nat → Int32)) :=
  (X12_refuse o_status (1 : Int32)).bind fun u29 =>
  some (u29.1, u29.2, o_farBy)
def X12_attends (F : Nat) (o_status : Int32) (o_at : Nat → Int32) (o_farBy : Nat → Int32) (v1 : Int32) (v2 : Int32) : Option (Int32 × Int32 × (Nat → Int32)) :=
  (X12_isExtra o_at v1).bind fun u2 =>
  if u2 = 0 then
  X12_attends_j27 F o_status o_at o_farBy
  else
  if ix 3 3097 then
  (X12_isFrom (v2.toInt64) (0 : Int64) ((jshl64 1 (jat o_at 3)) - 1)).bind fun u21 =>
  if u21 = 0 then
  X12_attends_j27 F o_status o_at o_farBy
  else
  (X12_ahead0 F o_at).bind fun u35 =>
  if (v2 &&& (u35 ^^^ (-1))) = 0 then
  (X12_laysFar F o_at o_farBy).bind fun u52 =>
  (X12_canAttend F o_at u52 v1 v2).bind fun u59 =>
  if u59 = 0 then
  X12_attends_j70 F o_status o_at u52 0
  else
  X12_attends_j70 F o_status o_at u52 1
  else
  (X12_refuse o_status (7 : Int32)).bind fun u47 =>
  some (u47.1, u47.2, o_farBy)
  else none
abbrev wd_X12_attends (E : vE) (a_o a_o_at a_o_names a_o_sort a_o_trayMany a_o_trays a_o_tape a_o_text a_o_opened a_o_farBy a_o_attendsBy a_o_coveredBy a_o_cameBy a_o_cameThen a_o_fallsBy a_o_loops a_o_ran a_o_told1 : Nat) (o_status : Int32) (o_top : Int64) (o_bottom : Int64) (o_taped : Int32) (o_size : Int32) (o_token : Int32) (o_from : Int32) (o_end : Int32) (o_value : Int32) (o_faultKind : Int32) (o_faultPlace : Int32) (o_faults : Int32) (o_seen : Int32) (o_toldParts : Int32) (o_depth : Int32) (o_counted : Int32) (o_becameThen : Int32) (o_firstCorner : Int32) (o_drawn : Int32) (o_ranSteps : Int32) (o_isTold : Int32) (o_marks : Int32) (o_at : Nat → Int32) (o_farBy : Nat → Int32) : va_W := [(a_o, .inr (12, [.ref a_o_at, .ref a_o_names, .int o_status, .long o_top, .long o_bottom, .ref a_o_sort, .ref a_o_trayMany, .ref a_o_trays, .ref a_o_tape, .ref a_o_text, .int o_taped, .int o_size, .int o_token, .int o_from, .int o_end, .int o_value, .int o_faultKind, .int o_faultPlace, .int o_faults, .int o_seen, .int o_toldParts, .ref a_o_opened, .int o_depth, .int o_counted, .ref a_o_farBy, .int o_becameThen, .ref a_o_attendsBy, .ref a_o_coveredBy, .ref a_o_cameBy, .ref a_o_cameThen, .int o_firstCorner, .ref a_o_fallsBy, .int o_drawn, .int o_ranSteps, .ref a_o_loops, .ref a_o_ran, .ref a_o_told1, .int o_isTold, .int o_marks])), (a_o_at, .inl (E.2.1, 3097, .inl o_at)), (a_o_farBy, .inl (E.2.1, 64, .inl o_farBy))]
set_option maxHeartbeats 4000000 in
set_option maxRecDepth 100000 in
theorem ct_X12_attends (l : Launch) (E : vE) (F : Nat) (a_o a_o_at a_o_names a_o_sort a_o_trayMany a_o_trays a_o_tape a_o_text a_o_opened a_o_farBy a_o_attendsBy a_o_coveredBy a_o_cameBy a_o_cameThen a_o_fallsBy a_o_loops a_o_ran a_o_told1 : Nat) (o_status : Int32) (o_top : Int64) (o_bottom : Int64) (o_taped : Int32) (o_size : Int32) (o_token : Int32) (o_from : Int32) (o_end : Int32) (o_value : Int32) (o_faultKind : Int32) (o_faultPlace : Int32) (o_faults : Int32) (o_seen : Int32) (o_toldParts : Int32) (o_depth : Int32) (o_counted : Int32) (o_becameThen : Int32) (o_firstCorner : Int32) (o_drawn : Int32) (o_ranSteps : Int32) (o_isTold : Int32) (o_marks : Int32) (o_at : Nat → Int32) (o_farBy : Nat → Int32) (v1 : Int32) (v2 : Int32) (u : Int32 × Int32 × (Nat → Int32)) (hf : X12_attends F o_status o_at o_farBy v1 v2 = some u) :
    CtI l yX12_attends cX12_attends 3 (some .int) 5 E [.ref a_o, .int v1, .int v2] (wd_X12_attends E a_o a_o_at a_o_names a_o_sort a_o_trayMany a_o_trays a_o_tape a_o_text a_o_opened a_o_farBy a_o_attendsBy a_o_coveredBy a_o_cameBy a_o_cameThen a_o_fallsBy a_o_loops a_o_ran a_o_told1 o_status o_top o_bottom o_taped o_size o_token o_from o_end o_value o_faultKind o_faultPlace o_faults o_seen o_toldParts o_depth o_counted o_becameThen o_firstCorner o_drawn o_ranSteps o_isTold o_marks o_at o_farBy) (wd_X12_attends E a_o a_o_at a_o_names a_o_sort a_o_trayMany a_o_trays a_o_tape a_o_text a_o_opened a_o_farBy a_o_attendsBy a_o_coveredBy a_o_cameBy a_o_cameThen a_o_fallsBy a_o_loops a_o_ran a_o_told1 u.2.1 o_top o_bottom o_taped o_size o_token o_from o_end o_value o_faultKind o_faultPlace o_faults o_seen o_toldParts o_depth o_counted o_becameThen o_firstCorner o_drawn o_ranSteps o_isTold o_marks o_at u.2.2) u.1 := by
  refine ctI (by decide) (Nat.le_of_ble_eq_true rfl) ?_
  intro p e s m below meth cd A ls aa QQ hq cx hP hD hS hl
  obtain ⟨⟨hx, hb, hml, hown, hts⟩, hr, hlocks, hK, hA, hX⟩ := id cx
  have hl : lv_has ls 3 [(0, .ref a_o), (1, .int v1), (2, .int v2)] := hl
  have hj70 : ∀ (o_status_j70 : Int32) (o_farBy_j70 : Nat → Int32) (k0_j70 : Int32) (H : Heap) (locs : List Loc) (ls : Array Slot), X12_attends_j70 F o_status_j70 o_at o_farBy_j70 k0_j70 = some u → va_P E.1 vwCl (wd_X12_attends E a_o a_o_at a_o_names a_o_sort a_o_trayMany a_o_trays a_o_tape a_o_text a_o_opened a_o_farBy a_o_attendsBy a_o_coveredBy a_o_cameBy a_o_cameThen a_o_fallsBy a_o_loops a_o_ran a_o_told1 o_status_j70 o_top o_bottom o_taped o_size o_token o_from o_end o_value o_faultKind o_faultPlace o_faults o_seen o_toldParts o_depth o_counted o_becameThen o_firstCorner o_drawn o_ranSteps o_isTold o_marks o_at o_farBy_j70) H → va_D A (wd_X12_attends E a_o a_o_at a_o_names a_o_sort a_o_trayMany a_o_trays a_o_tape a_o_text a_o_opened a_o_farBy a_o_attendsBy a_o_coveredBy a_o_cameBy a_o_cameThen a_o_fallsBy a_o_loops a_o_ran a_o_told1 o_status_j70 o_top o_bottom o_taped o_size o_token o_from o_end o_value o_faultKind o_faultPlace o_faults o_seen o_toldParts o_depth o_counted o_becameThen o_firstCorner o_drawn o_ranSteps o_isTold o_marks o_at o_farBy_j70) → va_S A s.heap H locs → lv_has ls 3 [] → W p l e (rmd 5) s m aa below meth cd H locs 0 0 QQ (F0 m 70 ls [.int k0_j70, .ref a_o]) := by
    intro o_status_j70 o_farBy_j70 k0_j70 H locs ls hf hP hD hS hl
    unfold X12_attends_j70 at hf
    obtain ⟨u70, hu70, hf⟩ := bd hf
    refine callVI (wn := (wd_X12_attends E a_o a_o_at a_o_names a_o_sort a_o_trayMany a_o_trays a_o_tape a_o_text a_o_opened a_o_farBy a_o_attendsBy a_o_coveredBy a_o_cameBy a_o_cameThen a_o_fallsBy a_o_loops a_o_ran a_o_told1 u70.2 o_top o_bottom o_taped o_size o_token o_from o_end o_value o_faultKind o_faultPlace o_faults o_seen o_toldParts o_depth o_counted o_becameThen o_firstCorner o_drawn o_ranSteps o_isTold o_marks o_at o_farBy_j70)) (n1 := 3) (ct_X12_gives l E a_o a_o_at a_o_names a_o_sort a_o_trayMany a_o_trays a_o_tape a_o_text a_o_opened a_o_farBy a_o_attendsBy a_o_coveredBy a_o_cameBy a_o_cameThen a_o_fallsBy a_o_loops a_o_ran a_o_told1 o_status_j70 o_top o_bottom o_taped o_size o_token o_from o_end o_value o_faultKind o_faultPlace o_faults o_seen o_toldParts o_depth o_counted o_becameThen o_firstCorner o_drawn o_ranSteps o_isTold o_marks k0_j70 u70 hu70) [0] cal_X12_gives cav_X12_gives lk_X12_89 cx hP hD hS hl dX12_attends_70 rfl rfl rfl rfl (Nat.le_of_ble_eq_true rfl) ⟨Nat.le_of_ble_eq_true rfl, Nat.le_of_ble_eq_true rfl⟩ rfl (by decide +kernel) rfl [some 0, none, none] rfl (by decide +kernel) rfl (fun H locs hP hD hS => ?_)
    obtain rfl := Option.some.inj hf
    subst hq
    exact retI cx hP hD hS dX12_attends_73
  have hj27 : ∀ (o_status_j27 : Int32) (o_farBy_j27 : Nat → Int32) (H : Heap) (locs : List Loc) (ls : Array Slot), X12_attends_j27 F o_status_j27 o_at o_farBy_j27 = some u → va_P E.1 vwCl (wd_X12_attends E a_o a_o_at a_o_names a_o_sort a_o_trayMany a_o_trays a_o_tape a_o_text a_o_opened a_o_farBy a_o_attendsBy a_o_coveredBy a_o_cameBy a_o_cameThen a_o_fallsBy a_o_loops a_o_ran a_o_told1 o_status_j27 o_top o_bottom o_taped o_size o_token o_from o_end o_value o_faultKind o_faultPlace o_faults o_seen o_toldParts o_depth o_counted o_becameThen o_firstCorner o_drawn o_ranSteps o_isTold o_marks o_at o_farBy_j27) H → va_D A (wd_X12_attends E a_o a_o_at a_o_names a_o_sort a_o_trayMany a_o_trays a_o_tape a_o_text a_o_opened a_o_farBy a_o_attendsBy a_o_coveredBy a_o_cameBy a_o_cameThen a_o_fallsBy a_o_loops a_o_ran a_o_told1 o_status_j27 o_top o_bottom o_taped o_size o_token o_from o_end o_value o_faultKind o_faultPlace o_faults o_seen o_toldParts o_depth o_counted o_becameThen o_firstCorner o_drawn o_ranSteps o_isTold o_marks o_at o_farBy_j27) → va_S A s.heap H locs → lv_has ls 3 [(0, .ref a_o)] → W p l e (rmd 5) s m aa below meth cd H locs 0 0 QQ (F0 m 27 ls []) := by
    intro o_status_j27 o_farBy_j27 H locs ls hf hP hD hS hl
    unfold X12_attends_j27 at hf
    refine lv_aload_n hx hb dX12_attends_27 rfl (lv_at hl 0 rfl) ?_
    refine lv_iconst (v := 1) hx hb dX12_attends_28 (by decide) ?_
    obtain ⟨u29, hu29, hf⟩ := bd hf
    refine callVI (wn := (wd_X12_attends E a_o a_o_at a_o_names a_o_sort a_o_trayMany a_o_trays a_o_tape a_o_text a_o_opened a_o_farBy a_o_attendsBy a_o_coveredBy a_o_cameBy a_o_cameThen a_o_fallsBy a_o_loops a_o_ran a_o_told1 u29.2 o_top o_bottom o_taped o_size o_token o_from o_end o_value o_faultKind o_faultPlace o_faults o_seen o_toldParts o_depth o_counted o_becameThen o_firstCorner o_drawn o_ranSteps o_isTold o_marks o_at o_farBy_j27)) (n1 := 3) (ct_X12_refuse l E a_o a_o_at a_o_names a_o_sort a_o_trayMany a_o_trays a_o_tape a_o_text a_o_opened a_o_farBy a_o_attendsBy a_o_coveredBy a_o_cameBy a_o_cameThen a_o_fallsBy a_o_loops a_o_ran a_o_told1 o_status_j27 o_top o_bottom o_taped o_size o_token o_from o_end o_value o_faultKind o_faultPlace o_faults o_seen o_toldParts o_depth o_counted o_becameThen o_firstCorner o_drawn o_ranSteps o_isTold o_marks (1 : Int32) u29 hu29) [0] cal_X12_refuse cav_X12_refuse lk_X12_85 cx hP hD hS hl dX12_attends_29 rfl rfl rfl rfl (Nat.le_of_ble_eq_true rfl) ⟨Nat.le_of_ble_eq_true rfl, Nat.le_of_ble_eq_true rfl⟩ rfl (by decide +kernel) rfl [some 0, none, none] rfl (by decide +kernel) rfl (fun H locs hP hD hS => ?_)
    obtain rfl := Option.some.inj hf
    subst hq
    exact retI cx hP hD hS dX12_attends_32
  unfold X12_attends at hf
  refine lv_aload_n hx hb dX12_attends_0 rfl (lv_at hl 0 rfl) ?_
  refine lv_iload_n hx hb dX12_attends_1 rfl (lv_at hl 1 rfl) ?_
  obtain ⟨u2, hu2, hf⟩ := bd hf
  refine keepVI (ct_X12_isExtra l E a_o a_o_at a_o_names a_o_sort a_o_trayMany a_o_trays a_o_tape a_o_text a_o_opened a_o_farBy a_o_attendsBy a_o_coveredBy a_o_cameBy a_o_cameThen a_o_fallsBy a_o_loops a_o_ran a_o_told1 o_status o_top o_bottom o_taped o_size o_token o_from o_end o_value o_faultKind o_faultPlace o_faults o_seen o_toldParts o_depth o_counted o_becameThen o_firstCorner o_drawn o_ranSteps o_isTold o_marks o_at v1 u2 hu2) [0, 1] cal_X12_isExtra cav_X12_isExtra lk_X12_293 cx hP hD hS hl dX12_attends_2 rfl rfl rfl rfl (Nat.le_of_ble_eq_true rfl) ⟨Nat.le_of_ble_eq_true rfl, Nat.le_of_ble_eq_true rfl⟩ rfl (by decide) (fun H locs hP hS => ?_)
  refine lv_if_eq (tgt := 27) hx hb dX12_attends_5 (by decide) (fun hc => ?_) (fun hc => ?_)
  · have hf := it_t hc hf
    exact hj27 _ _ _ _ _ hf hP hD hS (lv_sub hl [0] rfl)
  · have hf := it_f hc hf
    refine lv_iload_n hx hb dX12_attends_8 rfl (lv_at hl 2 rfl) ?_
    refine lv_i2l (v := (v2.toInt64)) hx hb dX12_attends_9 rfl ?_
    refine lv_lconst (v := 0) hx hb dX12_attends_10 (by decide) ?_
    refine lv_lconst (v := 1) hx hb dX12_attends_11 (by decide) ?_
    refine lv_aload_n hx hb dX12_attends_12 rfl (lv_at hl 0 rfl) ?_
    refine va_get (D := E.1) (ci := 12) (v := .ref a_o_at) (C := RX12) (T := TX12) (N := 39) hx hb hts inX12 hown hK hP 0 rfl rfl 0 (by decide) (hts _ fl_X12_7) (fun _ h9 => h9) rfl dX12_attends_13 ?_
    refine lv_iconst (v := 3) hx hb dX12_attends_16 (by decide) ?_
    obtain ⟨hi, hf⟩ := ck hf
    refine r_iald 1 cx hP rfl hi dX12_attends_17 ?_
    refine lv_lshl (v := (jshl64 1 (jat o_at 3))) hx hb dX12_attends_18 rfl ?_
    refine lv_lconst (v := 1) hx hb dX12_attends_19 (by decide) ?_
    refine lv_lsub hx hb dX12_attends_20 ?_
    obtain ⟨u21, hu21, hf⟩ := bd hf
    refine keepSI (ct_X12_isFrom l E (v2.toInt64) (0 : Int64) ((jshl64 1 (jat o_at 3)) - 1) u21 hu21) [] cal_X12_isFrom sta_X12_isFrom lk_X12_359 cx hP hD hS hl dX12_attends_21 rfl rfl (Nat.le_of_ble_eq_true rfl) ⟨Nat.le_of_ble_eq_true rfl, Nat.le_of_ble_eq_true rfl⟩ rfl (by decide) (fun H locs hP hS => ?_)
    refine lv_if_ne (tgt := 33) hx hb dX12_attends_24 (by decide) (fun hc => ?_) (fun hc => ?_)
    · have hf := it_f hc hf
      refine lv_iload_n hx hb dX12_attends_33 rfl (lv_at hl 2 rfl) ?_
      refine lv_aload_n hx hb dX12_attends_34 rfl (lv_at hl 0 rfl) ?_
      obtain ⟨u35, hu35, hf⟩ := bd hf
      refine keepVI (ct_X12_ahead0 l E F a_o a_o_at a_o_names a_o_sort a_o_trayMany a_o_trays a_o_tape a_o_text a_o_opened a_o_farBy a_o_attendsBy a_o_coveredBy a_o_cameBy a_o_cameThen a_o_fallsBy a_o_loops a_o_ran a_o_told1 o_status o_top o_bottom o_taped o_size o_token o_from o_end o_value o_faultKind o_faultPlace o_faults o_seen o_toldParts o_depth o_counted o_becameThen o_firstCorner o_drawn o_ranSteps o_isTold o_marks o_at u35 hu35) [0, 1] cal_X12_ahead0 cav_X12_ahead0 lk_X12_399 cx hP hD hS hl dX12_attends_35 rfl rfl rfl rfl (Nat.le_of_ble_eq_true rfl) ⟨Nat.le_of_ble_eq_true rfl, Nat.le_of_ble_eq_true rfl⟩ rfl (by decide) (fun H locs hP hS => ?_)
      refine lv_iconst (v := (-1)) hx hb dX12_attends_38 (by decide) ?_
      refine lv_ixor hx hb dX12_attends_39 ?_
      refine lv_iand hx hb dX12_attends_40 ?_
      refine lv_if_eq (tgt := 51) hx hb dX12_attends_41 (by decide) (fun hc => ?_) (fun hc => ?_)
      · have hf := it_t hc hf
        refine lv_aload_n hx hb dX12_attends_51 rfl (lv_at hl 0 rfl) ?_
        obtain ⟨u52, hu52, hf⟩ := bd hf
        refine callVV (wn := (wd_X12_attends E a_o a_o_at a_o_names a_o_sort a_o_trayMany a_o_trays a_o_tape a_o_text a_o_opened a_o_farBy a_o_attendsBy a_o_coveredBy a_o_cameBy a_o_cameThen a_o_fallsBy a_o_loops a_o_ran a_o_told1 o_status o_top o_bottom o_taped o_size o_token o_from o_end o_value o_faultKind o_faultPlace o_faults o_seen o_toldParts o_depth o_counted o_becameThen o_firstCorner o_drawn o_ranSteps o_isTold o_marks o_at u52)) (n1 := 3) (ct_X12_laysFar l E F a_o a_o_at a_o_names a_o_sort a_o_trayMany a_o_trays a_o_tape a_o_text a_o_opened a_o_farBy a_o_attendsBy a_o_coveredBy a_o_cameBy a_o_cameThen a_o_fallsBy a_o_loops a_o_ran a_o_told1 o_status o_top o_bottom o_taped o_size o_token o_from o_end o_value o_faultKind o_faultPlace o_faults o_seen o_toldParts o_depth o_counted o_becameThen o_firstCorner o_drawn o_ranSteps o_isTold o_marks o_at o_farBy u52 hu52) [0, 1, 2] cal_X12_laysFar cav_X12_laysFar lk_X12_318 cx hP hD hS hl dX12_attends_52 rfl rfl rfl rfl (Nat.le_of_ble_eq_true rfl) ⟨Nat.le_of_ble_eq_true rfl, Nat.le_of_ble_eq_true rfl⟩ rfl (by decide +kernel) rfl [some 0, some 1, some 2] rfl (by decide +kernel) rfl (fun H locs hP hD hS => ?_)
        refine lv_aload_n hx hb dX12_attends_55 rfl (lv_at hl 0 rfl) ?_
        refine lv_aload_n hx hb dX12_attends_56 rfl (lv_at hl 0 rfl) ?_
        refine lv_iload_n hx hb dX12_attends_57 rfl (lv_at hl 1 rfl) ?_
        refine lv_iload_n hx hb dX12_attends_58 rfl (lv_at hl 2 rfl) ?_
        obtain ⟨u59, hu59, hf⟩ := bd hf
        refine keepVI (ct_X12_canAttend l E F a_o a_o_at a_o_names a_o_sort a_o_trayMany a_o_trays a_o_tape a_o_text a_o_opened a_o_farBy a_o_attendsBy a_o_coveredBy a_o_cameBy a_o_cameThen a_o_fallsBy a_o_loops a_o_ran a_o_told1 o_status o_top o_bottom o_taped o_size o_token o_from o_end o_value o_faultKind o_faultPlace o_faults o_seen o_toldParts o_depth o_counted o_becameThen o_firstCorner o_drawn o_ranSteps o_isTold o_marks o_at u52 v1 v2 u59 hu59) [0, 1, 2] cal_X12_canAttend cav_X12_canAttend lk_X12_402 cx hP hD hS hl dX12_attends_59 rfl rfl rfl rfl (Nat.le_of_ble_eq_true rfl) ⟨Nat.le_of_ble_eq_true rfl, Nat.le_of_ble_eq_true rfl⟩ rfl (by decide) (fun H locs hP hS => ?_)
        refine lv_if_eq (tgt := 69) hx hb dX12_attends_62 (by decide) (fun hc => ?_) (fun hc => ?_)
        · have hf := it_t hc hf
          refine lv_iconst (v := 0) hx hb dX12_attends_69 (by decide) ?_
          exact hj70 _ _ _ _ _ _ hf hP hD hS (lv_sub hl [] rfl)
        · have hf := it_f hc hf
          refine lv_iconst (v := 1) hx hb dX12_attends_65 (by decide) ?_
          refine lv_goto (tgt := 70) hx hb dX12_attends_66 (by decide) ?_
          exact hj70 _ _ _ _ _ _ hf hP hD hS (lv_sub hl [] rfl)
      · have hf := it_f hc hf
        refine lv_aload_n hx hb dX12_attends_44 rfl (lv_at hl 0 rfl) ?_
        refine lv_bipush (v := 7) hx hb dX12_attends_45 (by decide) ?_
        obtain ⟨u47, hu47, hf⟩ := bd hf
        refine callVI (wn := (wd_X12_attends E a_o a_o_at a_o_names a_o_sort a_o_trayMany a_o_trays a_o_tape a_o_text a_o_opened a_o_farBy a_o_attendsBy a_o_coveredBy a_o_cameBy a_o_cameThen a_o_fallsBy a_o_loops a_o_ran a_o_told1 u47.2 o_top o_bottom o_taped o_size o_token o_from o_end o_value o_faultKind o_faultPlace o_faults o_seen o_toldParts o_depth o_counted o_becameThen o_firstCorner o_drawn o_ranSteps o_isTold o_marks o_at o_farBy)) (n1 := 3) (ct_X12_refuse l E a_o a_o_at a_o_names a_o_sort a_o_trayMany a_o_trays a_o_tape a_o_text a_o_opened a_o_farBy a_o_attendsBy a_o_coveredBy a_o_cameBy a_o_cameThen a_o_fallsBy a_o_loops a_o_ran a_o_told1 o_status o_top o_bottom o_taped o_size o_token o_from o_end o_value o_faultKind o_faultPlace o_faults o_seen o_toldParts o_depth o_counted o_becameThen o_firstCorner o_drawn o_ranSteps o_isTold o_marks (7 : Int32) u47 hu47) [0] cal_X12_refuse cav_X12_refuse lk_X12_85 cx hP hD hS hl dX12_attends_47 rfl rfl rfl rfl (Nat.le_of_ble_eq_true rfl) ⟨Nat.le_of_ble_eq_true rfl, Nat.le_of_ble_eq_true rfl⟩ rfl (by decide +kernel) rfl [some 0, none, none] rfl (by decide +kernel) rfl (fun H locs hP hD hS => ?_)
        obtain rfl := Option.some.inj hf
        subst hq
        exact retI cx hP hD hS dX12_attends_50
    · have hf := it_t hc hf
      exact hj27 _ _ _ _ _ hf hP hD hS (lv_sub hl [0] rfl)
def X12_wagesOf_j41 (F : Nat) (o_at : Nat → Int32) (v1 : Int32) (v3 : Int32) (k0 : Int32) (k1 : Int32) : Option ((Int32 × Int32) ⊕ ((Int32))) :=
  some (.inl ((k1 + k0), (v3 + 1)))
def X12_wagesOf_b4 (F : Nat) (o_at : Nat → Int32) (v1 : Int32) (st4 : Int32 × Int32) : Option ((Int32 × Int32) ⊕ ((Int32))) :=
  if ix 3 3097 then
  if (jat o_at 3) ≤ st4.2 then
  some (.inr st4.1)
  else
  (X12_isIn v1 st4.2).bind fun u18 =>
  if u18 = 0 then
  X12_wagesOf_j41 F o_at v1 st4.2 0 st4.1
  else
  if ix 5 3097 then
  (X12_happeningOf o_at st4.2 (2 : Int32)).bind fun u33 =>
  X12_wagesOf_j41 F o_at v1 st4.2 ((jat o_at 5) * u33) st4.1
  else none
  else none
def X12_wagesOf (F : Nat) (o_at : Nat → Int32) (v1 : Int32) : Option (Int32) :=
  (iter (X12_wagesOf_b4 F o_at v1) F (0, 0)).bind (fun (e4 : Int32) =>
    some e4)
abbrev wd_X12_wagesOf (E : vE) (a_o a_o_at a_o_names a_o_sort a_o_trayMany a_o_trays a_o_tape a_o_text a_o_opened a_o_farBy a_o_attendsBy a_o_coveredBy a_o_cameBy a_o_cameThen a_o_fallsBy a_o_loops a_o_ran a_o_told1 : Nat) (o_status : Int32) (o_top : Int64) (o_bottom : Int64) (o_taped : Int32) (o_size : Int32) (o_token : Int32) (o_from : Int32) (o_end : Int32) (o_value : Int32) (o_faultKind : Int32) (o_faultPlace : Int32) (o_faults : Int32) (o_seen : Int32) (o_toldParts : Int32) (o_depth : Int32) (o_counted : Int32) (o_becameThen : Int32) (o_firstCorner : Int32) (o_drawn : Int32) (o_ranSteps : Int32) (o_isTold : Int32) (o_marks : Int32) (o_at : Nat → Int32) : va_W := [(a_o, .inr (12, [.ref a_o_at, .ref a_o_names, .int o_status, .long o_top, .long o_bottom, .ref a_o_sort, .ref a_o_trayMany, .ref a_o_trays, .ref a_o_tape, .ref a_o_text, .int o_taped, .int o_size, .int o_token, .int o_from, .int o_end, .int o_value, .int o_faultKind, .int o_faultPlace, .int o_faults, .int o_seen, .int o_toldParts, .ref a_o_opened, .int o_depth, .int o_counted, .ref a_o_farBy, .int o_becameThen, .ref a_o_attendsBy, .ref a_o_coveredBy, .ref a_o_cameBy, .ref a_o_cameThen, .int o_firstCorner, .ref a_o_fallsBy, .int o_drawn, .int o_ranSteps, .ref a_o_loops, .ref a_o_ran, .ref a_o_told1, .int o_isTold, .int o_marks])), (a_o_at, .inl (E.2.1, 3097, .inl o_at))]
set_option maxHeartbeats 4000000 in
set_option maxRecDepth 100000 in
theorem ct_X12_wagesOf (l : Launch) (E : vE) (F : Nat) (a_o a_o_at a_o_names a_o_sort a_o_trayMany a_o_trays a_o_tape a_o_text a_o_opened a_o_farBy a_o_attendsBy a_o_coveredBy a_o_cameBy a_o_cameThen a_o_fallsBy a_o_loops a_o_ran a_o_told1 : Nat) (o_status : Int32) (o_top : Int64) (o_bottom : Int64) (o_taped : Int32) (o_size : Int32) (o_token : Int32) (o_from : Int32) (o_end : Int32) (o_value : Int32) (o_faultKind : Int32) (o_faultPlace : Int32) (o_faults : Int32) (o_seen : Int32) (o_toldParts : Int32) (o_depth : Int32) (o_counted : Int32) (o_becameThen : Int32) (o_firstCorner : Int32) (o_drawn : Int32) (o_ranSteps : Int32) (o_isTold : Int32) (o_marks : Int32) (o_at : Nat → Int32) (v1 : Int32) (u : Int32) (hf : X12_wagesOf F o_at v1 = some u) :
    CtI l yX12_wagesOf cX12_wagesOf 4 (some .int) 2 E [.ref a_o, .int v1] (wd_X12_wagesOf E a_o a_o_at a_o_names a_o_sort a_o_trayMany a_o_trays a_o_tape a_o_text a_o_opened a_o_farBy a_o_attendsBy a_o_coveredBy a_o_cameBy a_o_cameThen a_o_fallsBy a_o_loops a_o_ran a_o_told1 o_status o_top o_bottom o_taped o_size o_token o_from o_end o_value o_faultKind o_faultPlace o_faults o_seen o_toldParts o_depth o_counted o_becameThen o_firstCorner o_drawn o_ranSteps o_isTold o_marks o_at) (wd_X12_wagesOf E a_o a_o_at a_o_names a_o_sort a_o_trayMany a_o_trays a_o_tape a_o_text a_o_opened a_o_farBy a_o_attendsBy a_o_coveredBy a_o_cameBy a_o_cameThen a_o_fallsBy a_o_loops a_o_ran a_o_told1 o_status o_top o_bottom o_taped o_size o_token o_from o_end o_value o_faultKind o_faultPlace o_faults o_seen o_toldParts o_depth o_counted o_becameThen o_firstCorner o_drawn o_ranSteps o_isTold o_marks o_at) u := by
  refine ctI (by decide) (Nat.le_of_ble_eq_true rfl) ?_
  intro p e s m below meth cd A ls aa QQ hq cx hP hD hS hl
  obtain ⟨⟨hx, hb, hml, hown, hts⟩, hr, hlocks, hK, hA, hX⟩ := id cx
  have hl : lv_has ls 4 [(0, .ref a_o), (1, .int v1)] := hl
  unfold X12_wagesOf at hf
  refine lv_iconst (v := 0) hx hb dX12_wagesOf_0 (by decide) ?_
  refine lv_istore_n (lv' := [(2, .int 0), (0, .ref a_o), (1, .int v1)]) hx hb dX12_wagesOf_1 rfl hl (by decide) rfl (fun ls hl => ?_)
  refine lv_iconst (v := 0) hx hb dX12_wagesOf_2 (by decide) ?_
  refine lv_istore_n (lv' := [(3, .int 0), (2, .int 0), (0, .ref a_o), (1, .int v1)]) hx hb dX12_wagesOf_3 rfl hl (by decide) rfl (fun ls hl => ?_)
  obtain ⟨e4, hit4, hf⟩ := bd hf
  refine iter_W (b := X12_wagesOf_b4 F o_at v1) (P := fun st4 => ∀ (H : Heap) (locs : List Loc) (ls : Array Slot), va_P E.1 vwCl (wd_X12_wagesOf E a_o a_o_at a_o_names a_o_sort a_o_trayMany a_o_trays a_o_tape a_o_text a_o_opened a_o_farBy a_o_attendsBy a_o_coveredBy a_o_cameBy a_o_cameThen a_o_fallsBy a_o_loops a_o_ran a_o_told1 o_status o_top o_bottom o_taped o_size o_token o_from o_end o_value o_faultKind o_faultPlace o_faults o_seen o_toldParts o_depth o_counted o_becameThen o_firstCorner o_drawn o_ranSteps o_isTold o_marks o_at) H → va_D A (wd_X12_wagesOf E a_o a_o_at a_o_names a_o_sort a_o_trayMany a_o_trays a_o_tape a_o_text a_o_opened a_o_farBy a_o_attendsBy a_o_coveredBy a_o_cameBy a_o_cameThen a_o_fallsBy a_o_loops a_o_ran a_o_told1 o_status o_top o_bottom o_taped o_size o_token o_from o_end o_value o_faultKind o_faultPlace o_faults o_seen o_toldParts o_depth o_counted o_becameThen o_firstCorner o_drawn o_ranSteps o_isTold o_marks o_at) → va_S A s.heap H locs → lv_has ls 4 [(0, .ref a_o), (1, .int v1), (2, .int st4.1), (3, .int st4.2)] → W p l e (rmd 2) s m aa below meth cd H locs 0 0 QQ (F0 m 4 ls [])) (G := (fun (e4 : Int32) => ∀ (H : Heap) (locs : List Loc) (ls : Array Slot), va_P E.1 vwCl (wd_X12_wagesOf E a_o a_o_at a_o_names a_o_sort a_o_trayMany a_o_trays a_o_tape a_o_text a_o_opened a_o_farBy a_o_attendsBy a_o_coveredBy a_o_cameBy a_o_cameThen a_o_fallsBy a_o_loops a_o_ran a_o_told1 o_status o_top o_bottom o_taped o_size o_token o_from o_end o_value o_faultKind o_faultPlace o_faults o_seen o_toldParts o_depth o_counted o_becameThen o_firstCorner o_drawn o_ranSteps o_isTold o_marks o_at) H → va_D A (wd_X12_wagesOf E a_o a_o_at a_o_names a_o_sort a_o_trayMany a_o_trays a_o_tape a_o_text a_o_opened a_o_farBy a_o_attendsBy a_o_coveredBy a_o_cameBy a_o_cameThen a_o_fallsBy a_o_loops a_o_ran a_o_told1 o_status o_top o_bottom o_taped o_size o_token o_from o_end o_value o_faultKind o_faultPlace o_faults o_seen o_toldParts o_depth o_counted o_becameThen o_firstCorner o_drawn o_ranSteps o_isTold o_marks o_at) → va_S A s.heap H locs → lv_has ls 4 [(2, .int e4)] → W p l e (rmd 2) s m aa below meth cd H locs 0 0 QQ (F0 m 49 ls []))) ?_ F (0, 0) e4 hit4 ?_ _ _ _ hP hD hS (lv_sub hl [2, 3, 1, 0] rfl)
  · intro st4 r4 hf hk4 he4 H locs ls hP hD hS hl
    have hj41 : ∀ (v3_j41 : Int32) (k0_j41 : Int32) (k1_j41 : Int32) (H : Heap) (locs : List Loc) (ls : Array Slot), X12_wagesOf_j41 F o_at v1 v3_j41 k0_j41 k1_j41 = some r4 → va_P E.1 vwCl (wd_X12_wagesOf E a_o a_o_at a_o_names a_o_sort a_o_trayMany a_o_trays a_o_tape a_o_text a_o_opened a_o_farBy a_o_attendsBy a_o_coveredBy a_o_cameBy a_o_cameThen a_o_fallsBy a_o_loops a_o_ran a_o_told1 o_status o_top o_bottom o_taped o_size o_token o_from o_end o_value o_faultKind o_faultPlace o_faults o_seen o_toldParts o_depth o_counted o_becameThen o_firstCorner o_drawn o_ranSteps o_isTold o_marks o_at) H → va_D A (wd_X12_wagesOf E a_o a_o_at a_o_names a_o_sort a_o_trayMany a_o_trays a_o_tape a_o_text a_o_opened a_o_farBy a_o_attendsBy a_o_coveredBy a_o_cameBy a_o_cameThen a_o_fallsBy a_o_loops a_o_ran a_o_told1 o_status o_top o_bottom o_taped o_size o_token o_from o_end o_value o_faultKind o_faultPlace o_faults o_seen o_toldParts o_depth o_counted o_becameThen o_firstCorner o_drawn o_ranSteps o_isTold o_marks o_at) → va_S A s.heap H locs → lv_has ls 4 [(0, .ref a_o), (1, .int v1), (3, .int v3_j41)] → W p l e (rmd 2) s m aa below meth cd H locs 0 0 QQ (F0 m 41 ls [.int k0_j41, .int k1_j41]) := by
      intro v3_j41 k0_j41 k1_j41 H locs ls hf hP hD hS hl
      unfold X12_wagesOf_j41 at hf
      refine lv_iadd hx hb dX12_wagesOf_41 ?_
      refine lv_istore_n (lv' := [(2, .int (k1_j41 + k0_j41)), (0, .ref a_o), (1, .int v1), (3, .int v3_j41)]) hx hb dX12_wagesOf_42 rfl hl (by decide) rfl (fun ls hl => ?_)
      refine lv_iinc (v := (v3_j41 + 1)) (lv' := [(3, .int (v3_j41 + 1)), (2, .int (k1_j41 + k0_j41)), (0, .ref a_o), (1, .int v1)]) hx hb dX12_wagesOf_43 hl (k := 3) rfl rfl (by decide) rfl (fun ls hl => ?_)
      refine lv_goto (tgt := 4) hx hb dX12_wagesOf_46 (by decide) ?_
      exact hk4 _ (Option.some.inj hf).symm _ _ _ hP hD hS (lv_sub hl [2, 3, 1, 0] rfl)
    unfold X12_wagesOf_b4 at hf
    refine lv_iload_n hx hb dX12_wagesOf_4 rfl (lv_at hl 3 rfl) ?_
    refine lv_aload_n hx hb dX12_wagesOf_5 rfl (lv_at hl 0 rfl) ?_
    refine va_get (D := E.1) (ci := 12) (v := .ref a_o_at) (C := RX12) (T := TX12) (N := 39) hx hb hts inX12 hown hK hP 0 rfl rfl 0 (by decide) (hts _ fl_X12_7) (fun _ h9 => h9) rfl dX12_wagesOf_6 ?_
    refine lv_iconst (v := 3) hx hb dX12_wagesOf_9 (by decide) ?_
    obtain ⟨hi, hf⟩ := ck hf
    refine r_iald 1 cx hP rfl hi dX12_wagesOf_10 ?_
    refine lv_icmp_ge (tgt := 49) hx hb dX12_wagesOf_11 (by decide) (fun hc => ?_) (fun hc => ?_)
    · have hf := it_t hc hf
      exact he4 _ (Option.some.inj hf).symm _ _ _ hP hD hS (lv_sub hl [2] rfl)
    · have hf := it_f hc hf
      refine lv_iload_n hx hb dX12_wagesOf_14 rfl (lv_at hl 2 rfl) ?_
      refine lv_aload_n hx hb dX12_wagesOf_15 rfl (lv_at hl 0 rfl) ?_
      refine lv_iload_n hx hb dX12_wagesOf_16 rfl (lv_at hl 1 rfl) ?_
      refine lv_iload_n hx hb dX12_wagesOf_17 rfl (lv_at hl 3 rfl) ?_
      obtain ⟨u18, hu18, hf⟩ := bd hf
      refine keepVI (ct_X12_isIn l E a_o a_o_at a_o_names a_o_sort a_o_trayMany a_o_trays a_o_tape a_o_text a_o_opened a_o_farBy a_o_attendsBy a_o_coveredBy a_o_cameBy a_o_cameThen a_o_fallsBy a_o_loops a_o_ran a_o_told1 o_status o_top o_bottom o_taped o_size o_token o_from o_end o_value o_faultKind o_faultPlace o_faults o_seen o_toldParts o_depth o_counted o_becameThen o_firstCorner o_drawn o_ranSteps o_isTold o_marks v1 st4.2 u18 hu18) [0] cal_X12_isIn cav_X12_isIn lk_X12_327 cx hP hD hS hl dX12_wagesOf_18 rfl rfl rfl rfl (Nat.le_of_ble_eq_true rfl) ⟨Nat.le_of_ble_eq_true rfl, Nat.le_of_ble_eq_true rfl⟩ rfl (by decide) (fun H locs hP hS => ?_)
      refine lv_if_eq (tgt := 40) hx hb dX12_wagesOf_21 (by decide) (fun hc => ?_) (fun hc => ?_)
      · have hf := it_t hc hf
        refine lv_iconst (v := 0) hx hb dX12_wagesOf_40 (by decide) ?_
        exact hj41 _ _ _ _ _ _ hf hP hD hS (lv_sub hl [0, 1, 3] rfl)
      · have hf := it_f hc hf
        refine lv_aload_n hx hb dX12_wagesOf_24 rfl (lv_at hl 0 rfl) ?_
        refine va_get (D := E.1) (ci := 12) (v := .ref a_o_at) (C := RX12) (T := TX12) (N := 39) hx hb hts inX12 hown hK hP 0 rfl rfl 0 (by decide) (hts _ fl_X12_7) (fun _ h9 => h9) rfl dX12_wagesOf_25 ?_
        refine lv_iconst (v := 5) hx hb dX12_wagesOf_28 (by decide) ?_
        obtain ⟨hi, hf⟩ := ck hf
        refine r_iald 1 cx hP rfl hi dX12_wagesOf_29 ?_
        refine lv_aload_n hx hb dX12_wagesOf_30 rfl (lv_at hl 0 rfl) ?_
        refine lv_iload_n hx hb dX12_wagesOf_31 rfl (lv_at hl 3 rfl) ?_
        refine lv_iconst (v := 2) hx hb dX12_wagesOf_32 (by decide) ?_
        obtain ⟨u33, hu33, hf⟩ := bd hf
        refine keepVI (ct_X12_happeningOf l E a_o a_o_at a_o_names a_o_sort a_o_trayMany a_o_trays a_o_tape a_o_text a_o_opened a_o_farBy a_o_attendsBy a_o_coveredBy a_o_cameBy a_o_cameThen a_o_fallsBy a_o_loops a_o_ran a_o_told1 o_status o_top o_bottom o_taped o_size o_token o_from o_end o_value o_faultKind o_faultPlace o_faults o_seen o_toldParts o_depth o_counted o_becameThen o_firstCorner o_drawn o_ranSteps o_isTold o_marks o_at st4.2 (2 : Int32) u33 hu33) [0, 1] cal_X12_happeningOf cav_X12_happeningOf lk_X12_278 cx hP hD hS hl dX12_wagesOf_33 rfl rfl rfl rfl (Nat.le_of_ble_eq_true rfl) ⟨Nat.le_of_ble_eq_true rfl, Nat.le_of_ble_eq_true rfl⟩ rfl (by decide) (fun H locs hP hS => ?_)
        refine lv_imul hx hb dX12_wagesOf_36 ?_
        refine lv_goto (tgt := 41) hx hb dX12_wagesOf_37 (by decide) ?_
        exact hj41 _ _ _ _ _ _ hf hP hD hS (lv_sub hl [0, 1, 3] rfl)
  · refine fun H locs ls hP hD hS hl => ?_
    refine lv_iload_n hx hb dX12_wagesOf_49 rfl (lv_at hl 0 rfl) ?_
    obtain rfl := Option.some.inj hf
    subst hq
    exact retI cx hP hD hS dX12_wagesOf_50
def X12_bestOf_j79 (F : Nat) (o_at : Nat → Int32) (o_farBy : Nat → Int32) (v1 : Int32) (v2 : Int32) (v3 : Int32) : Option ((Int32 × Int32) ⊕ ((Int32))) :=
  some (.inl (v2, (v3 + 1)))
def X12_bestOf_j77 (F : Nat) (o_at : Nat → Int32) (o_farBy : Nat → Int32) (v1 : Int32) (v3 : Int32) : Option ((Int32 × Int32) ⊕ ((Int32))) :=
  X12_bestOf_j79 F o_at o_farBy v1 v3 v3
def X12_bestOf_b8 (F : Nat) (o_at : Nat → Int32) (o_farBy : Nat → Int32) (v1 : Int32) (st8 : Int32 × Int32) : Option ((Int32 × Int32) ⊕ ((Int32))) :=
  if ix 3 3097 then
  if (jshl 1 (jat o_at 3)) ≤ st8.2 then
  some (.inr st8.1)
  else
  (X12_ahead0 F o_at).bind fun u22 =>
  if (st8.2 &&& (u22 ^^^ (-1))) = 0 then
  (X12_canAttend F o_at o_farBy v1 st8.2).bind fun u34 =>
  if u34 = 0 then
  X12_bestOf_j79 F o_at o_farBy v1 st8.1 st8.2
  else
  (X12_wagesOf F o_at st8.2).bind fun u45 =>
  (X12_wagesOf F o_at st8.1).bind fun u50 =>
  if (0 : Int32) < (u45 - u50) then
  X12_bestOf_j77 F o_at o_farBy v1 st8.2
  else
  if (u45 - u50) = 0 then
  (X12_bits F st8.2).bind fun u67 =>
  (X12_bits F st8.1).bind fun u71 =>
  if u71 ≤ u67 then
  X12_bestOf_j79 F o_at o_farBy v1 st8.1 st8.2
  else
  X12_bestOf_j77 F o_at o_farBy v1 st8.2
  else
  X12_bestOf_j79 F o_at o_farBy v1 st8.1 st8.2
  else
  X12_bestOf_j79 F o_at o_farBy v1 st8.1 st8.2
  else none
def X12_bestOf (F : Nat) (o_at : Nat → Int32) (o_farBy : Nat → Int32) (v1 : Int32) : Option (Int32 × (Nat → Int32)) :=
  (X12_laysFar F o_at o_farBy).bind fun u1 =>
  (iter (X12_bestOf_b8 F o_at u1 v1) F (0, 1)).bind (fun (e8 : Int32) =>
    some (e8, u1))
abbrev wd_X12_bestOf (E : vE) (a_o a_o_at a_o_names a_o_sort a_o_trayMany a_o_trays a_o_tape a_o_text a_o_opened a_o_farBy a_o_attendsBy a_o_coveredBy a_o_cameBy a_o_cameThen a_o_fallsBy a_o_loops a_o_ran a_o_told1 : Nat) (o_status : Int32) (o_top : Int64) (o_bottom : Int64) (o_taped : Int32) (o_size : Int32) (o_token : Int32) (o_from : Int32) (o_end : Int32) (o_value : Int32) (o_faultKind : Int32) (o_faultPlace : Int32) (o_faults : Int32) (o_seen : Int32) (o_toldParts : Int32) (o_depth : Int32) (o_counted : Int32) (o_becameThen : Int32) (o_firstCorner : Int32) (o_drawn : Int32) (o_ranSteps : Int32) (o_isTold : Int32) (o_marks : Int32) (o_at : Nat → Int32) (o_farBy : Nat → Int32) : va_W := [(a_o, .inr (12, [.ref a_o_at, .ref a_o_names, .int o_status, .long o_top, .long o_bottom, .ref a_o_sort, .ref a_o_trayMany, .ref a_o_trays, .ref a_o_tape, .ref a_o_text, .int o_taped, .int o_size, .int o_token, .int o_from, .int o_end, .int o_value, .int o_faultKind, .int o_faultPlace, .int o_faults, .int o_seen, .int o_toldParts, .ref a_o_opened, .int o_depth, .int o_counted, .ref a_o_farBy, .int o_becameThen, .ref a_o_attendsBy, .ref a_o_coveredBy, .ref a_o_cameBy, .ref a_o_cameThen, .int o_firstCorner, .ref a_o_fallsBy, .int o_drawn, .int o_ranSteps, .ref a_o_loops, .ref a_o_ran, .ref a_o_told1, .int o_isTold, .int o_marks])), (a_o_at, .inl (E.2.1, 3097, .inl o_at)), (a_o_farBy, .inl (E.2.1, 64, .inl o_farBy))]
set_option maxHeartbeats 4000000 in
set_option maxRecDepth 100000 in
theorem ct_X12_bestOf (l : Launch) (E : vE) (F : Nat) (a_o a_o_at a_o_names a_o_sort a_o_trayMany a_o_trays a_o_tape a_o_text a_o_opened a_o_farBy a_o_attendsBy a_o_coveredBy a_o_cameBy a_o_cameThen a_o_fallsBy a_o_loops a_o_ran a_o_told1 : Nat) (o_status : Int32) (o_top : Int64) (o_bottom : Int64) (o_taped : Int32) (o_size : Int32) (o_token : Int32) (o_from : Int32) (o_end : Int32) (o_value : Int32) (o_faultKind : Int32) (o_faultPlace : Int32) (o_faults : Int32) (o_seen : Int32) (o_toldParts : Int32) (o_depth : Int32) (o_counted : Int32) (o_becameThen : Int32) (o_firstCorner : Int32) (o_drawn : Int32) (o_ranSteps : Int32) (o_isTold : Int32) (o_marks : Int32) (o_at : Nat → Int32) (o_farBy : Nat → Int32) (v1 : Int32) (u : Int32 × (Nat → Int32)) (hf : X12_bestOf F o_at o_farBy v1 = some u) :
    CtI l yX12_bestOf cX12_bestOf 5 (some .int) 5 E [.ref a_o, .int v1] (wd_X12_bestOf E a_o a_o_at a_o_names a_o_sort a_o_trayMany a_o_trays a_o_tape a_o_text a_o_opened a_o_farBy a_o_attendsBy a_o_coveredBy a_o_cameBy a_o_cameThen a_o_fallsBy a_o_loops a_o_ran a_o_told1 o_status o_top o_bottom o_taped o_size o_token o_from o_end o_value o_faultKind o_faultPlace o_faults o_seen o_toldParts o_depth o_counted o_becameThen o_firstCorner o_drawn o_ranSteps o_isTold o_marks o_at o_farBy) (wd_X12_bestOf E a_o a_o_at a_o_names a_o_sort a_o_trayMany a_o_trays a_o_tape a_o_text a_o_opened a_o_farBy a_o_attendsBy a_o_coveredBy a_o_cameBy a_o_cameThen a_o_fallsBy a_o_loops a_o_ran a_o_told1 o_status o_top o_bottom o_taped o_size o_token o_from o_end o_value o_faultKind o_faultPlace o_faults o_seen o_toldParts o_depth o_counted o_becameThen o_firstCorner o_drawn o_ranSteps o_isTold o_marks o_at u.2) u.1 := by
  refine ctI (by decide) (Nat.le_of_ble_eq_true rfl) ?_
  intro p e s m below meth cd A ls aa QQ hq cx hP hD hS hl
  obtain ⟨⟨hx, hb, hml, hown, hts⟩, hr, hlocks, hK, hA, hX⟩ := id cx
  have hl : lv_has ls 5 [(0, .ref a_o), (1, .int v1)] := hl
  unfold X12_bestOf at hf
  refine lv_aload_n hx hb dX12_bestOf_0 rfl (lv_at hl 0 rfl) ?_
  obtain ⟨u1, hu1, hf⟩ := bd hf
  refine callVV (wn := (wd_X12_bestOf E a_o a_o_at a_o_names a_o_sort a_o_trayMany a_o_trays a_o_tape a_o_text a_o_opened a_o_farBy a_o_attendsBy a_o_coveredBy a_o_cameBy a_o_cameThen a_o_fallsBy a_o_loops a_o_ran a_o_told1 o_status o_top o_bottom o_taped o_size o_token o_from o_end o_value o_faultKind o_faultPlace o_faults o_seen o_toldParts o_depth o_counted o_becameThen o_firstCorner o_drawn o_ranSteps o_isTold o_marks o_at u1)) (n1 := 3) (ct_X12_laysFar l E F a_o a_o_at a_o_names a_o_sort a_o_trayMany a_o_trays a_o_tape a_o_text a_o_opened a_o_farBy a_o_attendsBy a_o_coveredBy a_o_cameBy a_o_cameThen a_o_fallsBy a_o_loops a_o_ran a_o_told1 o_status o_top o_bottom o_taped o_size o_token o_from o_end o_value o_faultKind o_faultPlace o_faults o_seen o_toldParts o_depth o_counted o_becameThen o_firstCorner o_drawn o_ranSteps o_isTold o_marks o_at o_farBy u1 hu1) [0, 1, 2] cal_X12_laysFar cav_X12_laysFar lk_X12_318 cx hP hD hS hl dX12_bestOf_1 rfl rfl rfl rfl (Nat.le_of_ble_eq_true rfl) ⟨Nat.le_of_ble_eq_true rfl, Nat.le_of_ble_eq_true rfl⟩ rfl (by decide +kernel) rfl [some 0, some 1, some 2] rfl (by decide +kernel) rfl (fun H locs hP hD hS => ?_)
  refine lv_iconst (v := 0) hx hb dX12_bestOf_4 (by decide) ?_
  refine lv_istore_n (lv' := [(2, .int 0), (0, .ref a_o), (1, .int v1)]) hx hb dX12_bestOf_5 rfl hl (by decide) rfl (fun ls hl => ?_)
  refine lv_iconst (v := 1) hx hb dX12_bestOf_6 (by decide) ?_
  refine lv_istore_n (lv' := [(3, .int 1), (2, .int 0), (0, .ref a_o), (1, .int v1)]) hx hb dX12_bestOf_7 rfl hl (by decide) rfl (fun ls hl => ?_)
  obtain ⟨e8, hit8, hf⟩ := bd hf
  refine iter_W (b := X12_bestOf_b8 F o_at u1 v1) (P := fun st8 => ∀ (H : Heap) (locs : List Loc) (ls : Array Slot), va_P E.1 vwCl (wd_X12_bestOf E a_o a_o_at a_o_names a_o_sort a_o_trayMany a_o_trays a_o_tape a_o_text a_o_opened a_o_farBy a_o_attendsBy a_o_coveredBy a_o_cameBy a_o_cameThen a_o_fallsBy a_o_loops a_o_ran a_o_told1 o_status o_top o_bottom o_taped o_size o_token o_from o_end o_value o_faultKind o_faultPlace o_faults o_seen o_toldParts o_depth o_counted o_becameThen o_firstCorner o_drawn o_ranSteps o_isTold o_marks o_at u1) H → va_D A (wd_X12_bestOf E a_o a_o_at a_o_names a_o_sort a_o_trayMany a_o_trays a_o_tape a_o_text a_o_opened a_o_farBy a_o_attendsBy a_o_coveredBy a_o_cameBy a_o_cameThen a_o_fallsBy a_o_loops a_o_ran a_o_told1 o_status o_top o_bottom o_taped o_size o_token o_from o_end o_value o_faultKind o_faultPlace o_faults o_seen o_toldParts o_depth o_counted o_becameThen o_firstCorner o_drawn o_ranSteps o_isTold o_marks o_at u1) → va_S A s.heap H locs → lv_has ls 5 [(0, .ref a_o), (1, .int v1), (2, .int st8.1), (3, .int st8.2)] → W p l e (rmd 5) s m aa below meth cd H locs 0 0 QQ (F0 m 8 ls [])) (G := (fun (e8 : Int32) => ∀ (H : Heap) (locs : List Loc) (ls : Array Slot), va_P E.1 vwCl (wd_X12_bestOf E a_o a_o_at a_o_names a_o_sort a_o_trayMany a_o_trays a_o_tape a_o_text a_o_opened a_o_farBy a_o_attendsBy a_o_coveredBy a_o_cameBy a_o_cameThen a_o_fallsBy a_o_loops a_o_ran a_o_told1 o_status o_top o_bottom o_taped o_size o_token o_from o_end o_value o_faultKind o_faultPlace o_faults o_seen o_toldParts o_depth o_counted o_becameThen o_firstCorner o_drawn o_ranSteps o_isTold o_marks o_at u1) H → va_D A (wd_X12_bestOf E a_o a_o_at a_o_names a_o_sort a_o_trayMany a_o_trays a_o_tape a_o_text a_o_opened a_o_farBy a_o_attendsBy a_o_coveredBy a_o_cameBy a_o_cameThen a_o_fallsBy a_o_loops a_o_ran a_o_told1 o_status o_top o_bottom o_taped o_size o_token o_from o_end o_value o_faultKind o_faultPlace o_faults o_seen o_toldParts o_depth o_counted o_becameThen o_firstCorner o_drawn o_ranSteps o_isTold o_marks o_at u1) → va_S A s.heap H locs → lv_has ls 5 [(2, .int e8)] → W p l e (rmd 5) s m aa below meth cd H locs 0 0 QQ (F0 m 85 ls []))) ?_ F (0, 1) e8 hit8 ?_ _ _ _ hP hD hS (lv_sub hl [2, 3, 1, 0] rfl)
  · intro st8 r8 hf hk8 he8 H locs ls hP hD hS hl
    have hj79 : ∀ (v2_j79 : Int32) (v3_j79 : Int32) (H : Heap) (locs : List Loc) (ls : Array Slot), X12_bestOf_j79 F o_at u1 v1 v2_j79 v3_j79 = some r8 → va_P E.1 vwCl (wd_X12_bestOf E a_o a_o_at a_o_names a_o_sort a_o_trayMany a_o_trays a_o_tape a_o_text a_o_opened a_o_farBy a_o_attendsBy a_o_coveredBy a_o_cameBy a_o_cameThen a_o_fallsBy a_o_loops a_o_ran a_o_told1 o_status o_top o_bottom o_taped o_size o_token o_from o_end o_value o_faultKind o_faultPlace o_faults o_seen o_toldParts o_depth o_counted o_becameThen o_firstCorner o_drawn o_ranSteps o_isTold o_marks o_at u1) H → va_D A (wd_X12_bestOf E a_o a_o_at a_o_names a_o_sort a_o_trayMany a_o_trays a_o_tape a_o_text a_o_opened a_o_farBy a_o_attendsBy a_o_coveredBy a_o_cameBy a_o_cameThen a_o_fallsBy a_o_loops a_o_ran a_o_told1 o_status o_top o_bottom o_taped o_size o_token o_from o_end o_value o_faultKind o_faultPlace o_faults o_seen o_toldParts o_depth o_counted o_becameThen o_firstCorner o_drawn o_ranSteps o_isTold o_marks o_at u1) → va_S A s.heap H locs → lv_has ls 5 [(0, .ref a_o), (1, .int v1), (2, .int v2_j79), (3, .int v3_j79)] → W p l e (rmd 5) s m aa below meth cd H locs 0 0 QQ (F0 m 79 ls []) := by
      intro v2_j79 v3_j79 H locs ls hf hP hD hS hl
      unfold X12_bestOf_j79 at hf
      refine lv_iinc (v := (v3_j79 + 1)) (lv' := [(3, .int (v3_j79 + 1)), (0, .ref a_o), (1, .int v1), (2, .int v2_j79)]) hx hb dX12_bestOf_79 hl (k := 3) rfl rfl (by decide) rfl (fun ls hl => ?_)
      refine lv_goto (tgt := 8) hx hb dX12_bestOf_82 (by decide) ?_
      exact hk8 _ (Option.some.inj hf).symm _ _ _ hP hD hS (lv_sub hl [1, 2, 3, 0] rfl)
    have hj77 : ∀ (v3_j77 : Int32) (H : Heap) (locs : List Loc) (ls : Array Slot), X12_bestOf_j77 F o_at u1 v1 v3_j77 = some r8 → va_P E.1 vwCl (wd_X12_bestOf E a_o a_o_at a_o_names a_o_sort a_o_trayMany a_o_trays a_o_tape a_o_text a_o_opened a_o_farBy a_o_attendsBy a_o_coveredBy a_o_cameBy a_o_cameThen a_o_fallsBy a_o_loops a_o_ran a_o_told1 o_status o_top o_bottom o_taped o_size o_token o_from o_end o_value o_faultKind o_faultPlace o_faults o_seen o_toldParts o_depth o_counted o_becameThen o_firstCorner o_drawn o_ranSteps o_isTold o_marks o_at u1) H → va_D A (wd_X12_bestOf E a_o a_o_at a_o_names a_o_sort a_o_trayMany a_o_trays a_o_tape a_o_text a_o_opened a_o_farBy a_o_attendsBy a_o_coveredBy a_o_cameBy a_o_cameThen a_o_fallsBy a_o_loops a_o_ran a_o_told1 o_status o_top o_bottom o_taped o_size o_token o_from o_end o_value o_faultKind o_faultPlace o_faults o_seen o_toldParts o_depth o_counted o_becameThen o_firstCorner o_drawn o_ranSteps o_isTold o_marks o_at u1) → va_S A s.heap H locs → lv_has ls 5 [(0, .ref a_o), (1, .int v1), (3, .int v3_j77)] → W p l e (rmd 5) s m aa below meth cd H locs 0 0 QQ (F0 m 77 ls []) := by
      intro v3_j77 H locs ls hf hP hD hS hl
      unfold X12_bestOf_j77 at hf
      refine lv_iload_n hx hb dX12_bestOf_77 rfl (lv_at hl 2 rfl) ?_
      refine lv_istore_n (lv' := [(2, .int v3_j77), (0, .ref a_o), (1, .int v1), (3, .int v3_j77)]) hx hb dX12_bestOf_78 rfl hl (by decide) rfl (fun ls hl => ?_)
      exact hj79 _ _ _ _ _ hf hP hD hS (lv_sub hl [1, 2, 0, 3] rfl)
    unfold X12_bestOf_b8 at hf
    refine lv_iload_n hx hb dX12_bestOf_8 rfl (lv_at hl 3 rfl) ?_
    refine lv_iconst (v := 1) hx hb dX12_bestOf_9 (by decide) ?_
    refine lv_aload_n hx hb dX12_bestOf_10 rfl (lv_at hl 0 rfl) ?_
    refine va_get (D := E.1) (ci := 12) (v := .ref a_o_at) (C := RX12) (T := TX12) (N := 39) hx hb hts inX12 hown hK hP 0 rfl rfl 0 (by decide) (hts _ fl_X12_7) (fun _ h9 => h9) rfl dX12_bestOf_11 ?_
    refine lv_iconst (v := 3) hx hb dX12_bestOf_14 (by decide) ?_
    obtain ⟨hi, hf⟩ := ck hf
    refine r_iald 1 cx hP rfl hi dX12_bestOf_15 ?_
    refine r_ishl hx hb dX12_bestOf_16 ?_
    refine lv_icmp_ge (tgt := 85) hx hb dX12_bestOf_17 (by decide) (fun hc => ?_) (fun hc => ?_)
    · have hf := it_t hc hf
      exact he8 _ (Option.some.inj hf).symm _ _ _ hP hD hS (lv_sub hl [2] rfl)
    · have hf := it_f hc hf
      refine lv_iload_n hx hb dX12_bestOf_20 rfl (lv_at hl 3 rfl) ?_
      refine lv_aload_n hx hb dX12_bestOf_21 rfl (lv_at hl 0 rfl) ?_
      obtain ⟨u22, hu22, hf⟩ := bd hf
      refine keepVI (ct_X12_ahead0 l E F a_o a_o_at a_o_names a_o_sort a_o_trayMany a_o_trays a_o_tape a_o_text a_o_opened a_o_farBy a_o_attendsBy a_o_coveredBy a_o_cameBy a_o_cameThen a_o_fallsBy a_o_loops a_o_ran a_o_told1 o_status o_top o_bottom o_taped o_size o_token o_from o_end o_value o_faultKind o_faultPlace o_faults o_seen o_toldParts o_depth o_counted o_becameThen o_firstCorner o_drawn o_ranSteps o_isTold o_marks o_at u22 hu22) [0, 1] cal_X12_ahead0 cav_X12_ahead0 lk_X12_399 cx hP hD hS hl dX12_bestOf_22 rfl rfl rfl rfl (Nat.le_of_ble_eq_true rfl) ⟨Nat.le_of_ble_eq_true rfl, Nat.le_of_ble_eq_true rfl⟩ rfl (by decide) (fun H locs hP hS => ?_)
      refine lv_iconst (v := (-1)) hx hb dX12_bestOf_25 (by decide) ?_
      refine lv_ixor hx hb dX12_bestOf_26 ?_
      refine lv_iand hx hb dX12_bestOf_27 ?_
      refine lv_if_ne (tgt := 79) hx hb dX12_bestOf_28 (by decide) (fun hc => ?_) (fun hc => ?_)
      · have hf := it_f hc hf
        exact hj79 _ _ _ _ _ hf hP hD hS (lv_sub hl [0, 1, 2, 3] rfl)
      · have hf := it_t hc hf
        refine lv_aload_n hx hb dX12_bestOf_31 rfl (lv_at hl 0 rfl) ?_
        refine lv_iload_n hx hb dX12_bestOf_32 rfl (lv_at hl 1 rfl) ?_
        refine lv_iload_n hx hb dX12_bestOf_33 rfl (lv_at hl 3 rfl) ?_
        obtain ⟨u34, hu34, hf⟩ := bd hf
        refine keepVI (ct_X12_canAttend l E F a_o a_o_at a_o_names a_o_sort a_o_trayMany a_o_trays a_o_tape a_o_text a_o_opened a_o_farBy a_o_attendsBy a_o_coveredBy a_o_cameBy a_o_cameThen a_o_fallsBy a_o_loops a_o_ran a_o_told1 o_status o_top o_bottom o_taped o_size o_token o_from o_end o_value o_faultKind o_faultPlace o_faults o_seen o_toldParts o_depth o_counted o_becameThen o_firstCorner o_drawn o_ranSteps o_isTold o_marks o_at u1 v1 st8.2 u34 hu34) [0, 1, 2] cal_X12_canAttend cav_X12_canAttend lk_X12_402 cx hP hD hS hl dX12_bestOf_34 rfl rfl rfl rfl (Nat.le_of_ble_eq_true rfl) ⟨Nat.le_of_ble_eq_true rfl, Nat.le_of_ble_eq_true rfl⟩ rfl (by decide) (fun H locs hP hS => ?_)
        refine lv_if_ne (tgt := 43) hx hb dX12_bestOf_37 (by decide) (fun hc => ?_) (fun hc => ?_)
        · have hf := it_f hc hf
          refine lv_aload_n hx hb dX12_bestOf_43 rfl (lv_at hl 0 rfl) ?_
          refine lv_iload_n hx hb dX12_bestOf_44 rfl (lv_at hl 3 rfl) ?_
          obtain ⟨u45, hu45, hf⟩ := bd hf
          refine keepVI (ct_X12_wagesOf l E F a_o a_o_at a_o_names a_o_sort a_o_trayMany a_o_trays a_o_tape a_o_text a_o_opened a_o_farBy a_o_attendsBy a_o_coveredBy a_o_cameBy a_o_cameThen a_o_fallsBy a_o_loops a_o_ran a_o_told1 o_status o_top o_bottom o_taped o_size o_token o_from o_end o_value o_faultKind o_faultPlace o_faults o_seen o_toldParts o_depth o_counted o_becameThen o_firstCorner o_drawn o_ranSteps o_isTold o_marks o_at st8.2 u45 hu45) [0, 1] cal_X12_wagesOf cav_X12_wagesOf lk_X12_405 cx hP hD hS hl dX12_bestOf_45 rfl rfl rfl rfl (Nat.le_of_ble_eq_true rfl) ⟨Nat.le_of_ble_eq_true rfl, Nat.le_of_ble_eq_true rfl⟩ rfl (by decide) (fun H locs hP hS => ?_)
          refine lv_aload_n hx hb dX12_bestOf_48 rfl (lv_at hl 0 rfl) ?_
          refine lv_iload_n hx hb dX12_bestOf_49 rfl (lv_at hl 2 rfl) ?_
          obtain ⟨u50, hu50, hf⟩ := bd hf
          refine keepVI (ct_X12_wagesOf l E F a_o a_o_at a_o_names a_o_sort a_o_trayMany a_o_trays a_o_tape a_o_text a_o_opened a_o_farBy a_o_attendsBy a_o_coveredBy a_o_cameBy a_o_cameThen a_o_fallsBy a_o_loops a_o_ran a_o_told1 o_status o_top o_bottom o_taped o_size o_token o_from o_end o_value o_faultKind o_faultPlace o_faults o_seen o_toldParts o_depth o_counted o_becameThen o_firstCorner o_drawn o_ranSteps o_isTold o_marks o_at st8.1 u50 hu50) [0, 1] cal_X12_wagesOf cav_X12_wagesOf lk_X12_405 cx hP hD hS hl dX12_bestOf_50 rfl rfl rfl rfl (Nat.le_of_ble_eq_true rfl) ⟨Nat.le_of_ble_eq_true rfl, Nat.le_of_ble_eq_true rfl⟩ rfl (by decide) (fun H locs hP hS => ?_)
          refine lv_isub hx hb dX12_bestOf_53 ?_
          refine lv_istore (lv' := [(4, .int (u45 - u50)), (0, .ref a_o), (1, .int v1), (2, .int st8.1), (3, .int st8.2)]) hx hb dX12_bestOf_54 hl (by decide) rfl (fun ls hl => ?_)
          refine lv_iload hx hb dX12_bestOf_56 (lv_at hl 0 rfl) ?_
          refine lv_if_gt (tgt := 77) hx hb dX12_bestOf_58 (by decide) (fun hc => ?_) (fun hc => ?_)
          · have hf := it_t hc hf
            exact hj77 _ _ _ _ hf hP hD hS (lv_sub hl [1, 2, 4] rfl)
          · have hf := it_f hc hf
            refine lv_iload hx hb dX12_bestOf_61 (lv_at hl 0 rfl) ?_
            refine lv_if_ne (tgt := 79) hx hb dX12_bestOf_63 (by decide) (fun hc => ?_) (fun hc => ?_)
            · have hf := it_f hc hf
              exact hj79 _ _ _ _ _ hf hP hD hS (lv_sub hl [1, 2, 3, 4] rfl)
            · have hf := it_t hc hf
              refine lv_iload_n hx hb dX12_bestOf_66 rfl (lv_at hl 4 rfl) ?_
              obtain ⟨u67, hu67, hf⟩ := bd hf
              refine keepSI (ct_X12_bits l E F st8.2 u67 hu67) [] cal_X12_bits sta_X12_bits lk_X12_302 cx hP hD hS hl dX12_bestOf_67 rfl rfl (Nat.le_of_ble_eq_true rfl) ⟨Nat.le_of_ble_eq_true rfl, Nat.le_of_ble_eq_true rfl⟩ rfl (by decide) (fun H locs hP hS => ?_)
              refine lv_iload_n hx hb dX12_bestOf_70 rfl (lv_at hl 3 rfl) ?_
              obtain ⟨u71, hu71, hf⟩ := bd hf
              refine keepSI (ct_X12_bits l E F st8.1 u71 hu71) [] cal_X12_bits sta_X12_bits lk_X12_302 cx hP hD hS hl dX12_bestOf_71 rfl rfl (Nat.le_of_ble_eq_true rfl) ⟨Nat.le_of_ble_eq_true rfl, Nat.le_of_ble_eq_true rfl⟩ rfl (by decide) (fun H locs hP hS => ?_)
              refine lv_icmp_ge (tgt := 79) hx hb dX12_bestOf_74 (by decide) (fun hc => ?_) (fun hc => ?_)
              · have hf := it_t hc hf
                exact hj79 _ _ _ _ _ hf hP hD hS (lv_sub hl [1, 2, 3, 4] rfl)
              · have hf := it_f hc hf
                exact hj77 _ _ _ _ hf hP hD hS (lv_sub hl [1, 2, 4] rfl)
        · have hf := it_t hc hf
          refine lv_goto (tgt := 79) hx hb dX12_bestOf_40 (by decide) ?_
          exact hj79 _ _ _ _ _ hf hP hD hS (lv_sub hl [0, 1, 2, 3] rfl)
  · refine fun H locs ls hP hD hS hl => ?_
    refine lv_iload_n hx hb dX12_bestOf_85 rfl (lv_at hl 0 rfl) ?_
    obtain rfl := Option.some.inj hf
    subst hq
    exact retI cx hP hD hS dX12_bestOf_86
def X12_best (F : Nat) (o_status : Int32) (o_at : Nat → Int32) (o_farBy : Nat → Int32) (v1 : Int32) : Option (Int32 × Int32 × (Nat → Int32)) :=
  (X12_isExtra o_at v1).bind fun u2 =>
  if u2 = 0 then
  (X12_refuse o_status (1 : Int32)).bind fun u22 =>
  some (u22.1, u22.2, o_farBy)
  else
  (X12_bestOf F o_at o_farBy v1).bind fun u11 =>
  (X12_gives o_status u11.1).bind fun u14 =>
  some (u14.1, u14.2, u11.2)
abbrev wd_X12_best (E : vE) (a_o a_o_at a_o_names a_o_sort a_o_trayMany a_o_trays a_o_tape a_o_text a_o_opened a_o_farBy a_o_attendsBy a_o_coveredBy a_o_cameBy a_o_cameThen a_o_fallsBy a_o_loops a_o_ran a_o_told1 : Nat) (o_status : Int32) (o_top : Int64) (o_bottom : Int64) (o_taped : Int32) (o_size : Int32) (o_token : Int32) (o_from : Int32) (o_end : Int32) (o_value : Int32) (o_faultKind : Int32) (o_faultPlace : Int32) (o_faults : Int32) (o_seen : Int32) (o_toldParts : Int32) (o_depth : Int32) (o_counted : Int32) (o_becameThen : Int32) (o_firstCorner : Int32) (o_drawn : Int32) (o_ranSteps : Int32) (o_isTold : Int32) (o_marks : Int32) (o_at : Nat → Int32) (o_farBy : Nat → Int32) : va_W := [(a_o, .inr (12, [.ref a_o_at, .ref a_o_names, .int o_status, .long o_top, .long o_bottom, .ref a_o_sort, .ref a_o_trayMany, .ref a_o_trays, .ref a_o_tape, .ref a_o_text, .int o_taped, .int o_size, .int o_token, .int o_from, .int o_end, .int o_value, .int o_faultKind, .int o_faultPlace, .int o_faults, .int o_seen, .int o_toldParts, .ref a_o_opened, .int o_depth, .int o_counted, .ref a_o_farBy, .int o_becameThen, .ref a_o_attendsBy, .ref a_o_coveredBy, .ref a_o_cameBy, .ref a_o_cameThen, .int o_firstCorner, .ref a_o_fallsBy, .int o_drawn, .int o_ranSteps, .ref a_o_loops, .ref a_o_ran, .ref a_o_told1, .int o_isTold, .int o_marks])), (a_o_at, .inl (E.2.1, 3097, .inl o_at)), (a_o_farBy, .inl (E.2.1, 64, .inl o_farBy))]
set_option maxHeartbeats 4000000 in
set_option maxRecDepth 100000 in
theorem ct_X12_best (l : Launch) (E : vE) (F : Nat) (a_o a_o_at a_o_names a_o_sort a_o_trayMany a_o_trays a_o_tape a_o_text a_o_opened a_o_farBy a_o_attendsBy a_o_coveredBy a_o_cameBy a_o_cameThen a_o_fallsBy a_o_loops a_o_ran a_o_told1 : Nat) (o_status : Int32) (o_top : Int64) (o_bottom : Int64) (o_taped : Int32) (o_size : Int32) (o_token : Int32) (o_from : Int32) (o_end : Int32) (o_value : Int32) (o_faultKind : Int32) (o_faultPlace : Int32) (o_faults : Int32) (o_seen : Int32) (o_toldParts : Int32) (o_depth : Int32) (o_counted : Int32) (o_becameThen : Int32) (o_firstCorner : Int32) (o_drawn : Int32) (o_ranSteps : Int32) (o_isTold : Int32) (o_marks : Int32) (o_at : Nat → Int32) (o_farBy : Nat → Int32) (v1 : Int32) (u : Int32 × Int32 × (Nat → Int32)) (hf : X12_best F o_status o_at o_farBy v1 = some u) :
    CtI l yX12_best cX12_best 2 (some .int) 6 E [.ref a_o, .int v1] (wd_X12_best E a_o a_o_at a_o_names a_o_sort a_o_trayMany a_o_trays a_o_tape a_o_text a_o_opened a_o_farBy a_o_attendsBy a_o_coveredBy a_o_cameBy a_o_cameThen a_o_fallsBy a_o_loops a_o_ran a_o_told1 o_status o_top o_bottom o_taped o_size o_token o_from o_end o_value o_faultKind o_faultPlace o_faults o_seen o_toldParts o_depth o_counted o_becameThen o_firstCorner o_drawn o_ranSteps o_isTold o_marks o_at o_farBy) (wd_X12_best E a_o a_o_at a_o_names a_o_sort a_o_trayMany a_o_trays a_o_tape a_o_text a_o_opened a_o_farBy a_o_attendsBy a_o_coveredBy a_o_cameBy a_o_cameThen a_o_fallsBy a_o_loops a_o_ran a_o_told1 u.2.1 o_top o_bottom o_taped o_size o_token o_from o_end o_value o_faultKind o_faultPlace o_faults o_seen o_toldParts o_depth o_counted o_becameThen o_firstCorner o_drawn o_ranSteps o_isTold o_marks o_at u.2.2) u.1 := by
  refine ctI (by decide) (Nat.le_of_ble_eq_true rfl) ?_
  intro p e s m below meth cd A ls aa QQ hq cx hP hD hS hl
  obtain ⟨⟨hx, hb, hml, hown, hts⟩, hr, hlocks, hK, hA, hX⟩ := id cx
  have hl : lv_has ls 2 [(0, .ref a_o), (1, .int v1)] := hl
  unfold X12_best at hf
  refine lv_aload_n hx hb dX12_best_0 rfl (lv_at hl 0 rfl) ?_
  refine lv_iload_n hx hb dX12_best_1 rfl (lv_at hl 1 rfl) ?_
  obtain ⟨u2, hu2, hf⟩ := bd hf
  refine keepVI (ct_X12_isExtra l E a_o a_o_at a_o_names a_o_sort a_o_trayMany a_o_trays a_o_tape a_o_text a_o_opened a_o_farBy a_o_attendsBy a_o_coveredBy a_o_cameBy a_o_cameThen a_o_fallsBy a_o_loops a_o_ran a_o_told1 o_status o_top o_bottom o_taped o_size o_token o_from o_end o_value o_faultKind o_faultPlace o_faults o_seen o_toldParts o_depth o_counted o_becameThen o_firstCorner o_drawn o_ranSteps o_isTold o_marks o_at v1 u2 hu2) [0, 1] cal_X12_isExtra cav_X12_isExtra lk_X12_293 cx hP hD hS hl dX12_best_2 rfl rfl rfl rfl (Nat.le_of_ble_eq_true rfl) ⟨Nat.le_of_ble_eq_true rfl, Nat.le_of_ble_eq_true rfl⟩ rfl (by decide) (fun H locs hP hS => ?_)
  refine lv_if_eq (tgt := 20) hx hb dX12_best_5 (by decide) (fun hc => ?_) (fun hc => ?_)
  · have hf := it_t hc hf
    refine lv_aload_n hx hb dX12_best_20 rfl (lv_at hl 0 rfl) ?_
    refine lv_iconst (v := 1) hx hb dX12_best_21 (by decide) ?_
    obtain ⟨u22, hu22, hf⟩ := bd hf
    refine callVI (wn := (wd_X12_best E a_o a_o_at a_o_names a_o_sort a_o_trayMany a_o_trays a_o_tape a_o_text a_o_opened a_o_farBy a_o_attendsBy a_o_coveredBy a_o_cameBy a_o_cameThen a_o_fallsBy a_o_loops a_o_ran a_o_told1 u22.2 o_top o_bottom o_taped o_size o_token o_from o_end o_value o_faultKind o_faultPlace o_faults o_seen o_toldParts o_depth o_counted o_becameThen o_firstCorner o_drawn o_ranSteps o_isTold o_marks o_at o_farBy)) (n1 := 3) (ct_X12_refuse l E a_o a_o_at a_o_names a_o_sort a_o_trayMany a_o_trays a_o_tape a_o_text a_o_opened a_o_farBy a_o_attendsBy a_o_coveredBy a_o_cameBy a_o_cameThen a_o_fallsBy a_o_loops a_o_ran a_o_told1 o_status o_top o_bottom o_taped o_size o_token o_from o_end o_value o_faultKind o_faultPlace o_faults o_seen o_toldParts o_depth o_counted o_becameThen o_firstCorner o_drawn o_ranSteps o_isTold o_marks (1 : Int32) u22 hu22) [0] cal_X12_refuse cav_X12_refuse lk_X12_85 cx hP hD hS hl dX12_best_22 rfl rfl rfl rfl (Nat.le_of_ble_eq_true rfl) ⟨Nat.le_of_ble_eq_true rfl, Nat.le_of_ble_eq_true rfl⟩ rfl (by decide +kernel) rfl [some 0, none, none] rfl (by decide +kernel) rfl (fun H locs hP hD hS => ?_)
    obtain rfl := Option.some.inj hf
    subst hq
    exact retI cx hP hD hS dX12_best_25
  · have hf := it_f hc hf
    refine lv_aload_n hx hb dX12_best_8 rfl (lv_at hl 0 rfl) ?_
    refine lv_aload_n hx hb dX12_best_9 rfl (lv_at hl 0 rfl) ?_
    refine lv_iload_n hx hb dX12_best_10 rfl (lv_at hl 1 rfl) ?_
    obtain ⟨u11, hu11, hf⟩ := bd hf
    refine callVI (wn := (wd_X12_best E a_o a_o_at a_o_names a_o_sort a_o_trayMany a_o_trays a_o_tape a_o_text a_o_opened a_o_farBy a_o_attendsBy a_o_coveredBy a_o_cameBy a_o_cameThen a_o_fallsBy a_o_loops a_o_ran a_o_told1 o_status o_top o_bottom o_taped o_size o_token o_from o_end o_value o_faultKind o_faultPlace o_faults o_seen o_toldParts o_depth o_counted o_becameThen o_firstCorner o_drawn o_ranSteps o_isTold o_marks o_at u11.2)) (n1 := 3) (ct_X12_bestOf l E F a_o a_o_at a_o_names a_o_sort a_o_trayMany a_o_trays a_o_tape a_o_text a_o_opened a_o_farBy a_o_attendsBy a_o_coveredBy a_o_cameBy a_o_cameThen a_o_fallsBy a_o_loops a_o_ran a_o_told1 o_status o_top o_bottom o_taped o_size o_token o_from o_end o_value o_faultKind o_faultPlace o_faults o_seen o_toldParts o_depth o_counted o_becameThen o_firstCorner o_drawn o_ranSteps o_isTold o_marks o_at o_farBy v1 u11 hu11) [0, 1, 2] cal_X12_bestOf cav_X12_bestOf lk_X12_408 cx hP hD hS hl dX12_best_11 rfl rfl rfl rfl (Nat.le_of_ble_eq_true rfl) ⟨Nat.le_of_ble_eq_true rfl, Nat.le_of_ble_eq_true rfl⟩ rfl (by decide +kernel) rfl [some 0, some 1, some 2] rfl (by decide +kernel) rfl (fun H locs hP hD hS => ?_)
    obtain ⟨u14, hu14, hf⟩ := bd hf
    refine callVI (wn := (wd_X12_best E a_o a_o_at a_o_names a_o_sort a_o_trayMany a_o_trays a_o_tape a_o_text a_o_opened a_o_farBy a_o_attendsBy a_o_coveredBy a_o_cameBy a_o_cameThen a_o_fallsBy a_o_loops a_o_ran a_o_told1 u14.2 o_top o_bottom o_taped o_size o_token o_from o_end o_value o_faultKind o_faultPlace o_faults o_seen o_toldParts o_depth o_counted o_becameThen o_firstCorner o_drawn o_ranSteps o_isTold o_marks o_at u11.2)) (n1 := 3) (ct_X12_gives l E a_o a_o_at a_o_names a_o_sort a_o_trayMany a_o_trays a_o_tape a_o_text a_o_opened a_o_farBy a_o_attendsBy a_o_coveredBy a_o_cameBy a_o_cameThen a_o_fallsBy a_o_loops a_o_ran a_o_told1 o_status o_top o_bottom o_taped o_size o_token o_from o_end o_value o_faultKind o_faultPlace o_faults o_seen o_toldParts o_depth o_counted o_becameThen o_firstCorner o_drawn o_ranSteps o_isTold o_marks u11.1 u14 hu14) [0] cal_X12_gives cav_X12_gives lk_X12_89 cx hP hD hS hl dX12_best_14 rfl rfl rfl rfl (Nat.le_of_ble_eq_true rfl) ⟨Nat.le_of_ble_eq_true rfl, Nat.le_of_ble_eq_true rfl⟩ rfl (by decide +kernel) rfl [some 0, none, none] rfl (by decide +kernel) rfl (fun H locs hP hD hS => ?_)
    refine lv_goto (tgt := 25) hx hb dX12_best_17 (by decide) ?_
    obtain rfl := Option.some.inj hf
    subst hq
    exact retI cx hP hD hS dX12_best_25
def X12_bestWages (F : Nat) (o_status : Int32) (o_at : Nat → Int32) (o_farBy : Nat → Int32) (v1 : Int32) : Option (Int32 × Int32 × (Nat → Int32)) :=
  (X12_isExtra o_at v1).bind fun u2 =>
  if u2 = 0 then
  (X12_refuse o_status (1 : Int32)).bind fun u26 =>
  some (u26.1, u26.2, o_farBy)
  else
  (X12_bestOf F o_at o_farBy v1).bind fun u12 =>
  (X12_wagesOf F o_at u12.1).bind fun u15 =>
  (X12_gives o_status u15).bind fun u18 =>
  some (u18.1, u18.2, u12.2)
abbrev wd_X12_bestWages (E : vE) (a_o a_o_at a_o_names a_o_sort a_o_trayMany a_o_trays a_o_tape a_o_text a_o_opened a_o_farBy a_o_attendsBy a_o_coveredBy a_o_cameBy a_o_cameThen a_o_fallsBy a_o_loops a_o_ran a_o_told1 : Nat) (o_status : Int32) (o_top : Int64) (o_bottom : Int64) (o_taped : Int32) (o_size : Int32) (o_token : Int32) (o_from : Int32) (o_end : Int32) (o_value : Int32) (o_faultKind : Int32) (o_faultPlace : Int32) (o_faults : Int32) (o_seen : Int32) (o_toldParts : Int32) (o_depth : Int32) (o_counted : Int32) (o_becameThen : Int32) (o_firstCorner : Int32) (o_drawn : Int32) (o_ranSteps : Int32) (o_isTold : Int32) (o_marks : Int32) (o_at : Nat → Int32) (o_farBy : Nat → Int32) : va_W := [(a_o, .inr (12, [.ref a_o_at, .ref a_o_names, .int o_status, .long o_top, .long o_bottom, .ref a_o_sort, .ref a_o_trayMany, .ref a_o_trays, .ref a_o_tape, .ref a_o_text, .int o_taped, .int o_size, .int o_token, .int o_from, .int o_end, .int o_value, .int o_faultKind, .int o_faultPlace, .int o_faults, .int o_seen, .int o_toldParts, .ref a_o_opened, .int o_depth, .int o_counted, .ref a_o_farBy, .int o_becameThen, .ref a_o_attendsBy, .ref a_o_coveredBy, .ref a_o_cameBy, .ref a_o_cameThen, .int o_firstCorner, .ref a_o_fallsBy, .int o_drawn, .int o_ranSteps, .ref a_o_loops, .ref a_o_ran, .ref a_o_told1, .int o_isTold, .int o_marks])), (a_o_at, .inl (E.2.1, 3097, .inl o_at)), (a_o_farBy, .inl (E.2.1, 64, .inl o_farBy))]
set_option maxHeartbeats 4000000 in
set_option maxRecDepth 100000 in
theorem ct_X12_bestWages (l : Launch) (E : vE) (F : Nat) (a_o a_o_at a_o_names a_o_sort a_o_trayMany a_o_trays a_o_tape a_o_text a_o_opened a_o_farBy a_o_attendsBy a_o_coveredBy a_o_cameBy a_o_cameThen a_o_fallsBy a_o_loops a_o_ran a_o_told1 : Nat) (o_status : Int32) (o_top : Int64) (o_bottom : Int64) (o_taped : Int32) (o_size : Int32) (o_token : Int32) (o_from : Int32) (o_end : Int32) (o_value : Int32) (o_faultKind : Int32) (o_faultPlace : Int32) (o_faults : Int32) (o_seen : Int32) (o_toldParts : Int32) (o_depth : Int32) (o_counted : Int32) (o_becameThen : Int32) (o_firstCorner : Int32) (o_drawn : Int32) (o_ranSteps : Int32) (o_isTold : Int32) (o_marks : Int32) (o_at : Nat → Int32) (o_farBy : Nat → Int32) (v1 : Int32) (u : Int32 × Int32 × (Nat → Int32)) (hf : X12_bestWages F o_status o_at o_farBy v1 = some u) :
    CtI l yX12_bestWages cX12_bestWages 2 (some .int) 6 E [.ref a_o, .int v1] (wd_X12_bestWages E a_o a_o_at a_o_names a_o_sort a_o_trayMany a_o_trays a_o_tape a_o_text a_o_opened a_o_farBy a_o_attendsBy a_o_coveredBy a_o_cameBy a_o_cameThen a_o_fallsBy a_o_loops a_o_ran a_o_told1 o_status o_top o_bottom o_taped o_size o_token o_from o_end o_value o_faultKind o_faultPlace o_faults o_seen o_toldParts o_depth o_counted o_becameThen o_firstCorner o_drawn o_ranSteps o_isTold o_marks o_at o_farBy) (wd_X12_bestWages E a_o a_o_at a_o_names a_o_sort a_o_trayMany a_o_trays a_o_tape a_o_text a_o_opened a_o_farBy a_o_attendsBy a_o_coveredBy a_o_cameBy a_o_cameThen a_o_fallsBy a_o_loops a_o_ran a_o_told1 u.2.1 o_top o_bottom o_taped o_size o_token o_from o_end o_value o_faultKind o_faultPlace o_faults o_seen o_toldParts o_depth o_counted o_becameThen o_firstCorner o_drawn o_ranSteps o_isTold o_marks o_at u.2.2) u.1 := by
  refine ctI (by decide) (Nat.le_of_ble_eq_true rfl) ?_
  intro p e s m below meth cd A ls aa QQ hq cx hP hD hS hl
  obtain ⟨⟨hx, hb, hml, hown, hts⟩, hr, hlocks, hK, hA, hX⟩ := id cx
  have hl : lv_has ls 2 [(0, .ref a_o), (1, .int v1)] := hl
  unfold X12_bestWages at hf
  refine lv_aload_n hx hb dX12_bestWages_0 rfl (lv_at hl 0 rfl) ?_
  refine lv_iload_n hx hb dX12_bestWages_1 rfl (lv_at hl 1 rfl) ?_
  obtain ⟨u2, hu2, hf⟩ := bd hf
  refine keepVI (ct_X12_isExtra l E a_o a_o_at a_o_names a_o_sort a_o_trayMany a_o_trays a_o_tape a_o_text a_o_opened a_o_farBy a_o_attendsBy a_o_coveredBy a_o_cameBy a_o_cameThen a_o_fallsBy a_o_loops a_o_ran a_o_told1 o_status o_top o_bottom o_taped o_size o_token o_from o_end o_value o_faultKind o_faultPlace o_faults o_seen o_toldParts o_depth o_counted o_becameThen o_firstCorner o_drawn o_ranSteps o_isTold o_marks o_at v1 u2 hu2) [0, 1] cal_X12_isExtra cav_X12_isExtra lk_X12_293 cx hP hD hS hl dX12_bestWages_2 rfl rfl rfl rfl (Nat.le_of_ble_eq_true rfl) ⟨Nat.le_of_ble_eq_true rfl, Nat.le_of_ble_eq_true rfl⟩ rfl (by decide) (fun H locs hP hS => ?_)
  refine lv_if_eq (tgt := 24) hx hb dX12_bestWages_5 (by decide) (fun hc => ?_) (fun hc => ?_)
  · have hf := it_t hc hf
    refine lv_aload_n hx hb dX12_bestWages_24 rfl (lv_at hl 0 rfl) ?_
    refine lv_iconst (v := 1) hx hb dX12_bestWages_25 (by decide) ?_
    obtain ⟨u26, hu26, hf⟩ := bd hf
    refine callVI (wn := (wd_X12_bestWages E a_o a_o_at a_o_names a_o_sort a_o_trayMany a_o_trays a_o_tape a_o_text a_o_opened a_o_farBy a_o_attendsBy a_o_coveredBy a_o_cameBy a_o_cameThen a_o_fallsBy a_o_loops a_o_ran a_o_told1 u26.2 o_top o_bottom o_taped o_size o_token o_from o_end o_value o_faultKind o_faultPlace o_faults o_seen o_toldParts o_depth o_counted o_becameThen o_firstCorner o_drawn o_ranSteps o_isTold o_marks o_at o_farBy)) (n1 := 3) (ct_X12_refuse l E a_o a_o_at a_o_names a_o_sort a_o_trayMany a_o_trays a_o_tape a_o_text a_o_opened a_o_farBy a_o_attendsBy a_o_coveredBy a_o_cameBy a_o_cameThen a_o_fallsBy a_o_loops a_o_ran a_o_told1 o_status o_top o_bottom o_taped o_size o_token o_from o_end o_value o_faultKind o_faultPlace o_faults o_seen o_toldParts o_depth o_counted o_becameThen o_firstCorner o_drawn o_ranSteps o_isTold o_marks (1 : Int32) u26 hu26) [0] cal_X12_refuse cav_X12_refuse lk_X12_85 cx hP hD hS hl dX12_bestWages_26 rfl rfl rfl rfl (Nat.le_of_ble_eq_true rfl) ⟨Nat.le_of_ble_eq_true rfl, Nat.le_of_ble_eq_true rfl⟩ rfl (by decide +kernel) rfl [some 0, none, none] rfl (by decide +kernel) rfl (fun H locs hP hD hS => ?_)
    obtain rfl := Option.some.inj hf
    subst hq
    exact retI cx hP hD hS dX12_bestWages_29
  · have hf := it_f hc hf
    refine lv_aload_n hx hb dX12_bestWages_8 rfl (lv_at hl 0 rfl) ?_
    refine lv_aload_n hx hb dX12_bestWages_9 rfl (lv_at hl 0 rfl) ?_
    refine lv_aload_n hx hb dX12_bestWages_10 rfl (lv_at hl 0 rfl) ?_
    refine lv_iload_n hx hb dX12_bestWages_11 rfl (lv_at hl 1 rfl) ?_
    obtain ⟨u12, hu12, hf⟩ := bd hf
    refine callVI (wn := (wd_X12_bestWages E a_o a_o_at a_o_names a_o_sort a_o_trayMany a_o_trays a_o_tape a_o_text a_o_opened a_o_farBy a_o_attendsBy a_o_coveredBy a_o_cameBy a_o_cameThen a_o_fallsBy a_o_loops a_o_ran a_o_told1 o_status o_top o_bottom o_taped o_size o_token o_from o_end o_value o_faultKind o_faultPlace o_faults o_seen o_toldParts o_depth o_counted o_becameThen o_firstCorner o_drawn o_ranSteps o_isTold o_marks o_at u12.2)) (n1 := 3) (ct_X12_bestOf l E F a_o a_o_at a_o_names a_o_sort a_o_trayMany a_o_trays a_o_tape a_o_text a_o_opened a_o_farBy a_o_attendsBy a_o_coveredBy a_o_cameBy a_o_cameThen a_o_fallsBy a_o_loops a_o_ran a_o_told1 o_status o_top o_bottom o_taped o_size o_token o_from o_end o_value o_faultKind o_faultPlace o_faults o_seen o_toldParts o_depth o_counted o_becameThen o_firstCorner o_drawn o_ranSteps o_isTold o_marks o_at o_farBy v1 u12 hu12) [0, 1, 2] cal_X12_bestOf cav_X12_bestOf lk_X12_408 cx hP hD hS hl dX12_bestWages_12 rfl rfl rfl rfl (Nat.le_of_ble_eq_true rfl) ⟨Nat.le_of_ble_eq_true rfl, Nat.le_of_ble_eq_true rfl⟩ rfl (by decide +kernel) rfl [some 0, some 1, some 2] rfl (by decide +kernel) rfl (fun H locs hP hD hS => ?_)
    obtain ⟨u15, hu15, hf⟩ := bd hf
    refine keepVI (ct_X12_wagesOf l E F a_o a_o_at a_o_names a_o_sort a_o_trayMany a_o_trays a_o_tape a_o_text a_o_opened a_o_farBy a_o_attendsBy a_o_coveredBy a_o_cameBy a_o_cameThen a_o_fallsBy a_o_loops a_o_ran a_o_told1 o_status o_top o_bottom o_taped o_size o_token o_from o_end o_value o_faultKind o_faultPlace o_faults o_seen o_toldParts o_depth o_counted o_becameThen o_firstCorner o_drawn o_ranSteps o_isTold o_marks o_at u12.1 u15 hu15) [0, 1] cal_X12_wagesOf cav_X12_wagesOf lk_X12_405 cx hP hD hS hl dX12_bestWages_15 rfl rfl rfl rfl (Nat.le_of_ble_eq_true rfl) ⟨Nat.le_of_ble_eq_true rfl, Nat.le_of_ble_eq_true rfl⟩ rfl (by decide) (fun H locs hP hS => ?_)
    obtain ⟨u18, hu18, hf⟩ := bd hf
    refine callVI (wn := (wd_X12_bestWages E a_o a_o_at a_o_names a_o_sort a_o_trayMany a_o_trays a_o_tape a_o_text a_o_opened a_o_farBy a_o_attendsBy a_o_coveredBy a_o_cameBy a_o_cameThen a_o_fallsBy a_o_loops a_o_ran a_o_told1 u18.2 o_top o_bottom o_taped o_size o_token o_from o_end o_value o_faultKind o_faultPlace o_faults o_seen o_toldParts o_depth o_counted o_becameThen o_firstCorner o_drawn o_ranSteps o_isTold o_marks o_at u12.2)) (n1 := 3) (ct_X12_gives l E a_o a_o_at a_o_names a_o_sort a_o_trayMany a_o_trays a_o_tape a_o_text a_o_opened a_o_farBy a_o_attendsBy a_o_coveredBy a_o_cameBy a_o_cameThen a_o_fallsBy a_o_loops a_o_ran a_o_told1 o_status o_top o_bottom o_taped o_size o_token o_from o_end o_value o_faultKind o_faultPlace o_faults o_seen o_toldParts o_depth o_counted o_becameThen o_firstCorner o_drawn o_ranSteps o_isTold o_marks u15 u18 hu18) [0] cal_X12_gives cav_X12_gives lk_X12_89 cx hP hD hS hl dX12_bestWages_18 rfl rfl rfl rfl (Nat.le_of_ble_eq_true rfl) ⟨Nat.le_of_ble_eq_true rfl, Nat.le_of_ble_eq_true rfl⟩ rfl (by decide +kernel) rfl [some 0, none, none] rfl (by decide +kernel) rfl (fun H locs hP hD hS => ?_)
    refine lv_goto (tgt := 29) hx hb dX12_bestWages_21 (by decide) ?_
    obtain rfl := Option.some.inj hf
    subst hq
    exact retI cx hP hD hS dX12_bestWages_29
