def X12_wantSign (F : Nat) (o_size : Int32) (o_token : Int32) (o_from : Int32) (o_end : Int32) (o_value : Int32) (o_faultPlace : Int32) (o_faults : Int32) (o_text : Nat → Int32) (v1 : Int32) : Option (Int32 × Int32 × Int32 × Int32 × Int32 × Int32 × Int32) :=
  (X12_isSign o_token o_value v1).bind fun u2 =>
  if u2 = 0 then
  (X12_fails o_token o_from o_faultPlace o_faults (2 : Int32)).bind fun u10 =>
  if isZ u10.1 then some (u10.1, o_token, o_from, o_end, o_value, u10.2.1, u10.2.2) else none
  else
  (X12_ahead F o_size o_token o_from o_end o_value o_text).bind fun u15 =>
  some (1, u15.1, u15.2.1, u15.2.2.1, u15.2.2.2, o_faultPlace, o_faults)
abbrev wd_X12_wantSign (E : vE) (a_o a_o_at a_o_names a_o_sort a_o_trayMany a_o_trays a_o_tape a_o_text a_o_opened a_o_farBy a_o_attendsBy a_o_coveredBy a_o_cameBy a_o_cameThen a_o_fallsBy a_o_loops a_o_ran a_o_told1 : Nat) (o_status : Int32) (o_top : Int64) (o_bottom : Int64) (o_taped : Int32) (o_size : Int32) (o_token : Int32) (o_from : Int32) (o_end : Int32) (o_value : Int32) (o_faultKind : Int32) (o_faultPlace : Int32) (o_faults : Int32) (o_seen : Int32) (o_toldParts : Int32) (o_depth : Int32) (o_counted : Int32) (o_becameThen : Int32) (o_firstCorner : Int32) (o_drawn : Int32) (o_ranSteps : Int32) (o_isTold : Int32) (o_marks : Int32) (o_text : Nat → Int32) : va_W := [(a_o, .inr (12, [.ref a_o_at, .ref a_o_names, .int o_status, .long o_top, .long o_bottom, .ref a_o_sort, .ref a_o_trayMany, .ref a_o_trays, .ref a_o_tape, .ref a_o_text, .int o_taped, .int o_size, .int o_token, .int o_from, .int o_end, .int o_value, .int o_faultKind, .int o_faultPlace, .int o_faults, .int o_seen, .int o_toldParts, .ref a_o_opened, .int o_depth, .int o_counted, .ref a_o_farBy, .int o_becameThen, .ref a_o_attendsBy, .ref a_o_coveredBy, .ref a_o_cameBy, .ref a_o_cameThen, .int o_firstCorner, .ref a_o_fallsBy, .int o_drawn, .int o_ranSteps, .ref a_o_loops, .ref a_o_ran, .ref a_o_told1, .int o_isTold, .int o_marks])), (a_o_text, .inl (E.2.2.2.1, 900, .inl o_text))]
set_option maxHeartbeats 4000000 in
set_option maxRecDepth 100000 in
theorem ct_X12_wantSign (l : Launch) (E : vE) (F : Nat) (a_o a_o_at a_o_names a_o_sort a_o_trayMany a_o_trays a_o_tape a_o_text a_o_opened a_o_farBy a_o_attendsBy a_o_coveredBy a_o_cameBy a_o_cameThen a_o_fallsBy a_o_loops a_o_ran a_o_told1 : Nat) (o_status : Int32) (o_top : Int64) (o_bottom : Int64) (o_taped : Int32) (o_size : Int32) (o_token : Int32) (o_from : Int32) (o_end : Int32) (o_value : Int32) (o_faultKind : Int32) (o_faultPlace : Int32) (o_faults : Int32) (o_seen : Int32) (o_toldParts : Int32) (o_depth : Int32) (o_counted : Int32) (o_becameThen : Int32) (o_firstCorner : Int32) (o_drawn : Int32) (o_ranSteps : Int32) (o_isTold : Int32) (o_marks : Int32) (o_text : Nat → Int32) (v1 : Int32) (u : Int32 × Int32 × Int32 × Int32 × Int32 × Int32 × Int32) (hf : X12_wantSign F o_size o_token o_from o_end o_value o_faultPlace o_faults o_text v1 = some u) :
    CtI l yX12_wantSign cX12_wantSign 2 (some .boolean) 2 E [.ref a_o, .int v1] (wd_X12_wantSign E a_o a_o_at a_o_names a_o_sort a_o_trayMany a_o_trays a_o_tape a_o_text a_o_opened a_o_farBy a_o_attendsBy a_o_coveredBy a_o_cameBy a_o_cameThen a_o_fallsBy a_o_loops a_o_ran a_o_told1 o_status o_top o_bottom o_taped o_size o_token o_from o_end o_value o_faultKind o_faultPlace o_faults o_seen o_toldParts o_depth o_counted o_becameThen o_firstCorner o_drawn o_ranSteps o_isTold o_marks o_text) (wd_X12_wantSign E a_o a_o_at a_o_names a_o_sort a_o_trayMany a_o_trays a_o_tape a_o_text a_o_opened a_o_farBy a_o_attendsBy a_o_coveredBy a_o_cameBy a_o_cameThen a_o_fallsBy a_o_loops a_o_ran a_o_told1 o_status o_top o_bottom o_taped o_size u.2.1 u.2.2.1 u.2.2.2.1 u.2.2.2.2.1 o_faultKind u.2.2.2.2.2.1 u.2.2.2.2.2.2 o_seen o_toldParts o_depth o_counted o_becameThen o_firstCorner o_drawn o_ranSteps o_isTold o_marks o_text) u.1 := by
  refine ctI (by decide) (Nat.le_of_ble_eq_true rfl) ?_
  intro p e s m below meth cd A ls aa QQ hq cx hP hD hS hl
  obtain ⟨⟨hx, hb, hml, hown, hts⟩, hr, hlocks, hK, hA, hX⟩ := id cx
  have hl : lv_has ls 2 [(0, .ref a_o), (1, .int v1)] := hl
  unfold X12_wantSign at hf
  refine lv_aload_n hx hb dX12_wantSign_0 rfl (lv_at hl 0 rfl) ?_
  refine lv_iload_n hx hb dX12_wantSign_1 rfl (lv_at hl 1 rfl) ?_
  obtain ⟨u2, hu2, hf⟩ := bd hf
  refine keepVI (ct_X12_isSign l E a_o a_o_at a_o_names a_o_sort a_o_trayMany a_o_trays a_o_tape a_o_text a_o_opened a_o_farBy a_o_attendsBy a_o_coveredBy a_o_cameBy a_o_cameThen a_o_fallsBy a_o_loops a_o_ran a_o_told1 o_status o_top o_bottom o_taped o_size o_token o_from o_end o_value o_faultKind o_faultPlace o_faults o_seen o_toldParts o_depth o_counted o_becameThen o_firstCorner o_drawn o_ranSteps o_isTold o_marks v1 u2 hu2) [0] cal_X12_isSign cav_X12_isSign lk_X12_164 cx hP hD hS hl dX12_wantSign_2 rfl rfl rfl rfl (Nat.le_of_ble_eq_true rfl) ⟨Nat.le_of_ble_eq_true rfl, Nat.le_of_ble_eq_true rfl⟩ rfl (by decide) (fun H locs hP hS => ?_)
  refine lv_if_ne (tgt := 14) hx hb dX12_wantSign_5 (by decide) (fun hc => ?_) (fun hc => ?_)
  · have hf := it_f hc hf
    refine lv_aload_n hx hb dX12_wantSign_14 rfl (lv_at hl 0 rfl) ?_
    obtain ⟨u15, hu15, hf⟩ := bd hf
    refine callVV (wn := (wd_X12_wantSign E a_o a_o_at a_o_names a_o_sort a_o_trayMany a_o_trays a_o_tape a_o_text a_o_opened a_o_farBy a_o_attendsBy a_o_coveredBy a_o_cameBy a_o_cameThen a_o_fallsBy a_o_loops a_o_ran a_o_told1 o_status o_top o_bottom o_taped o_size u15.1 u15.2.1 u15.2.2.1 u15.2.2.2 o_faultKind o_faultPlace o_faults o_seen o_toldParts o_depth o_counted o_becameThen o_firstCorner o_drawn o_ranSteps o_isTold o_marks o_text)) (n1 := 2) (ct_X12_ahead l E F a_o a_o_at a_o_names a_o_sort a_o_trayMany a_o_trays a_o_tape a_o_text a_o_opened a_o_farBy a_o_attendsBy a_o_coveredBy a_o_cameBy a_o_cameThen a_o_fallsBy a_o_loops a_o_ran a_o_told1 o_status o_top o_bottom o_taped o_size o_token o_from o_end o_value o_faultKind o_faultPlace o_faults o_seen o_toldParts o_depth o_counted o_becameThen o_firstCorner o_drawn o_ranSteps o_isTold o_marks o_text u15 hu15) [0, 1] cal_X12_ahead cav_X12_ahead lk_X12_161 cx hP hD hS hl dX12_wantSign_15 rfl rfl rfl rfl (Nat.le_of_ble_eq_true rfl) ⟨Nat.le_of_ble_eq_true rfl, Nat.le_of_ble_eq_true rfl⟩ rfl (by decide +kernel) rfl [some 0, some 1] rfl (by decide +kernel) rfl (fun H locs hP hD hS => ?_)
    refine lv_iconst (v := 1) hx hb dX12_wantSign_18 (by decide) ?_
    obtain rfl := Option.some.inj hf
    subst hq
    exact retZ cx rfl hP hD hS dX12_wantSign_19
  · have hf := it_t hc hf
    refine lv_aload_n hx hb dX12_wantSign_8 rfl (lv_at hl 0 rfl) ?_
    refine lv_iconst (v := 2) hx hb dX12_wantSign_9 (by decide) ?_
    obtain ⟨u10, hu10, hf⟩ := bd hf
    refine callVI (wn := (wd_X12_wantSign E a_o a_o_at a_o_names a_o_sort a_o_trayMany a_o_trays a_o_tape a_o_text a_o_opened a_o_farBy a_o_attendsBy a_o_coveredBy a_o_cameBy a_o_cameThen a_o_fallsBy a_o_loops a_o_ran a_o_told1 o_status o_top o_bottom o_taped o_size o_token o_from o_end o_value o_faultKind u10.2.1 u10.2.2 o_seen o_toldParts o_depth o_counted o_becameThen o_firstCorner o_drawn o_ranSteps o_isTold o_marks o_text)) (n1 := 2) (ct_X12_fails l E a_o a_o_at a_o_names a_o_sort a_o_trayMany a_o_trays a_o_tape a_o_text a_o_opened a_o_farBy a_o_attendsBy a_o_coveredBy a_o_cameBy a_o_cameThen a_o_fallsBy a_o_loops a_o_ran a_o_told1 o_status o_top o_bottom o_taped o_size o_token o_from o_end o_value o_faultKind o_faultPlace o_faults o_seen o_toldParts o_depth o_counted o_becameThen o_firstCorner o_drawn o_ranSteps o_isTold o_marks (2 : Int32) u10 hu10) [0] cal_X12_fails cav_X12_fails lk_X12_167 cx hP hD hS hl dX12_wantSign_10 rfl rfl rfl rfl (Nat.le_of_ble_eq_true rfl) ⟨Nat.le_of_ble_eq_true rfl, Nat.le_of_ble_eq_true rfl⟩ rfl (by decide +kernel) rfl [some 0, none] rfl (by decide +kernel) rfl (fun H locs hP hD hS => ?_)
    obtain ⟨hz, hf⟩ := ck hf
    obtain rfl := Option.some.inj hf
    subst hq
    exact retZ cx hz hP hD hS dX12_wantSign_13
def X12_wantWord (F : Nat) (o_size : Int32) (o_token : Int32) (o_from : Int32) (o_end : Int32) (o_value : Int32) (o_faultPlace : Int32) (o_faults : Int32) (o_text : Nat → Int32) (v2 : Int32) : Option (Int32 × Int32 × Int32 × Int32 × Int32 × Int32 × Int32) :=
  (X12_inWords F o_size o_token o_from o_end o_text).bind fun u2 =>
  if u2 = v2 then
  (X12_ahead F o_size o_token o_from o_end o_value o_text).bind fun u16 =>
  some (1, u16.1, u16.2.1, u16.2.2.1, u16.2.2.2, o_faultPlace, o_faults)
  else
  (X12_fails o_token o_from o_faultPlace o_faults (2 : Int32)).bind fun u11 =>
  if isZ u11.1 then some (u11.1, o_token, o_from, o_end, o_value, u11.2.1, u11.2.2) else none
abbrev wd_X12_wantWord (E : vE) (a_o a_o_at a_o_names a_o_sort a_o_trayMany a_o_trays a_o_tape a_o_text a_o_opened a_o_farBy a_o_attendsBy a_o_coveredBy a_o_cameBy a_o_cameThen a_o_fallsBy a_o_loops a_o_ran a_o_told1 : Nat) (o_status : Int32) (o_top : Int64) (o_bottom : Int64) (o_taped : Int32) (o_size : Int32) (o_token : Int32) (o_from : Int32) (o_end : Int32) (o_value : Int32) (o_faultKind : Int32) (o_faultPlace : Int32) (o_faults : Int32) (o_seen : Int32) (o_toldParts : Int32) (o_depth : Int32) (o_counted : Int32) (o_becameThen : Int32) (o_firstCorner : Int32) (o_drawn : Int32) (o_ranSteps : Int32) (o_isTold : Int32) (o_marks : Int32) (o_text : Nat → Int32) : va_W := [(a_o, .inr (12, [.ref a_o_at, .ref a_o_names, .int o_status, .long o_top, .long o_bottom, .ref a_o_sort, .ref a_o_trayMany, .ref a_o_trays, .ref a_o_tape, .ref a_o_text, .int o_taped, .int o_size, .int o_token, .int o_from, .int o_end, .int o_value, .int o_faultKind, .int o_faultPlace, .int o_faults, .int o_seen, .int o_toldParts, .ref a_o_opened, .int o_depth, .int o_counted, .ref a_o_farBy, .int o_becameThen, .ref a_o_attendsBy, .ref a_o_coveredBy, .ref a_o_cameBy, .ref a_o_cameThen, .int o_firstCorner, .ref a_o_fallsBy, .int o_drawn, .int o_ranSteps, .ref a_o_loops, .ref a_o_ran, .ref a_o_told1, .int o_isTold, .int o_marks])), (a_o_text, .inl (E.2.2.2.1, 900, .inl o_text))]
set_option maxHeartbeats 4000000 in
set_option maxRecDepth 100000 in
theorem ct_X12_wantWord (l : Launch) (E : vE) (F : Nat) (a_o a_o_at a_o_names a_o_sort a_o_trayMany a_o_trays a_o_tape a_o_text a_o_opened a_o_farBy a_o_attendsBy a_o_coveredBy a_o_cameBy a_o_cameThen a_o_fallsBy a_o_loops a_o_ran a_o_told1 : Nat) (o_status : Int32) (o_top : Int64) (o_bottom : Int64) (o_taped : Int32) (o_size : Int32) (o_token : Int32) (o_from : Int32) (o_end : Int32) (o_value : Int32) (o_faultKind : Int32) (o_faultPlace : Int32) (o_faults : Int32) (o_seen : Int32) (o_toldParts : Int32) (o_depth : Int32) (o_counted : Int32) (o_becameThen : Int32) (o_firstCorner : Int32) (o_drawn : Int32) (o_ranSteps : Int32) (o_isTold : Int32) (o_marks : Int32) (o_text : Nat → Int32) (v2 : Int32) (u : Int32 × Int32 × Int32 × Int32 × Int32 × Int32 × Int32) (hf : X12_wantWord F o_size o_token o_from o_end o_value o_faultPlace o_faults o_text v2 = some u) :
    CtI l yX12_wantWord cX12_wantWord 3 (some .boolean) 5 E [.ref a_o, .ref (adK E 1), .int v2] (wd_X12_wantWord E a_o a_o_at a_o_names a_o_sort a_o_trayMany a_o_trays a_o_tape a_o_text a_o_opened a_o_farBy a_o_attendsBy a_o_coveredBy a_o_cameBy a_o_cameThen a_o_fallsBy a_o_loops a_o_ran a_o_told1 o_status o_top o_bottom o_taped o_size o_token o_from o_end o_value o_faultKind o_faultPlace o_faults o_seen o_toldParts o_depth o_counted o_becameThen o_firstCorner o_drawn o_ranSteps o_isTold o_marks o_text) (wd_X12_wantWord E a_o a_o_at a_o_names a_o_sort a_o_trayMany a_o_trays a_o_tape a_o_text a_o_opened a_o_farBy a_o_attendsBy a_o_coveredBy a_o_cameBy a_o_cameThen a_o_fallsBy a_o_loops a_o_ran a_o_told1 o_status o_top o_bottom o_taped o_size u.2.1 u.2.2.1 u.2.2.2.1 u.2.2.2.2.1 o_faultKind u.2.2.2.2.2.1 u.2.2.2.2.2.2 o_seen o_toldParts o_depth o_counted o_becameThen o_firstCorner o_drawn o_ranSteps o_isTold o_marks o_text) u.1 := by
  refine ctI (by decide) (Nat.le_of_ble_eq_true rfl) ?_
  intro p e s m below meth cd A ls aa QQ hq cx hP hD hS hl
  obtain ⟨⟨hx, hb, hml, hown, hts⟩, hr, hlocks, hK, hA, hX⟩ := id cx
  have hl : lv_has ls 3 [(0, .ref a_o), (1, .ref (adK E 1)), (2, .int v2)] := hl
  unfold X12_wantWord at hf
  refine lv_aload_n hx hb dX12_wantWord_0 rfl (lv_at hl 0 rfl) ?_
  refine lv_aload_n hx hb dX12_wantWord_1 rfl (lv_at hl 1 rfl) ?_
  obtain ⟨u2, hu2, hf⟩ := bd hf
  refine keepVI (ct_X12_inWords l E F a_o a_o_at a_o_names a_o_sort a_o_trayMany a_o_trays a_o_tape a_o_text a_o_opened a_o_farBy a_o_attendsBy a_o_coveredBy a_o_cameBy a_o_cameThen a_o_fallsBy a_o_loops a_o_ran a_o_told1 o_status o_top o_bottom o_taped o_size o_token o_from o_end o_value o_faultKind o_faultPlace o_faults o_seen o_toldParts o_depth o_counted o_becameThen o_firstCorner o_drawn o_ranSteps o_isTold o_marks o_text u2 hu2) [0, 1] cal_X12_inWords cav_X12_inWords lk_X12_170 cx hP hD hS hl dX12_wantWord_2 rfl rfl rfl rfl (Nat.le_of_ble_eq_true rfl) ⟨Nat.le_of_ble_eq_true rfl, Nat.le_of_ble_eq_true rfl⟩ rfl (by decide) (fun H locs hP hS => ?_)
  refine lv_iload_n hx hb dX12_wantWord_5 rfl (lv_at hl 2 rfl) ?_
  refine lv_icmp_eq (tgt := 15) hx hb dX12_wantWord_6 (by decide) (fun hc => ?_) (fun hc => ?_)
  · have hf := it_t hc hf
    refine lv_aload_n hx hb dX12_wantWord_15 rfl (lv_at hl 0 rfl) ?_
    obtain ⟨u16, hu16, hf⟩ := bd hf
    refine callVV (wn := (wd_X12_wantWord E a_o a_o_at a_o_names a_o_sort a_o_trayMany a_o_trays a_o_tape a_o_text a_o_opened a_o_farBy a_o_attendsBy a_o_coveredBy a_o_cameBy a_o_cameThen a_o_fallsBy a_o_loops a_o_ran a_o_told1 o_status o_top o_bottom o_taped o_size u16.1 u16.2.1 u16.2.2.1 u16.2.2.2 o_faultKind o_faultPlace o_faults o_seen o_toldParts o_depth o_counted o_becameThen o_firstCorner o_drawn o_ranSteps o_isTold o_marks o_text)) (n1 := 2) (ct_X12_ahead l E F a_o a_o_at a_o_names a_o_sort a_o_trayMany a_o_trays a_o_tape a_o_text a_o_opened a_o_farBy a_o_attendsBy a_o_coveredBy a_o_cameBy a_o_cameThen a_o_fallsBy a_o_loops a_o_ran a_o_told1 o_status o_top o_bottom o_taped o_size o_token o_from o_end o_value o_faultKind o_faultPlace o_faults o_seen o_toldParts o_depth o_counted o_becameThen o_firstCorner o_drawn o_ranSteps o_isTold o_marks o_text u16 hu16) [0, 1] cal_X12_ahead cav_X12_ahead lk_X12_161 cx hP hD hS hl dX12_wantWord_16 rfl rfl rfl rfl (Nat.le_of_ble_eq_true rfl) ⟨Nat.le_of_ble_eq_true rfl, Nat.le_of_ble_eq_true rfl⟩ rfl (by decide +kernel) rfl [some 0, some 1] rfl (by decide +kernel) rfl (fun H locs hP hD hS => ?_)
    refine lv_iconst (v := 1) hx hb dX12_wantWord_19 (by decide) ?_
    obtain rfl := Option.some.inj hf
    subst hq
    exact retZ cx rfl hP hD hS dX12_wantWord_20
  · have hf := it_f hc hf
    refine lv_aload_n hx hb dX12_wantWord_9 rfl (lv_at hl 0 rfl) ?_
    refine lv_iconst (v := 2) hx hb dX12_wantWord_10 (by decide) ?_
    obtain ⟨u11, hu11, hf⟩ := bd hf
    refine callVI (wn := (wd_X12_wantWord E a_o a_o_at a_o_names a_o_sort a_o_trayMany a_o_trays a_o_tape a_o_text a_o_opened a_o_farBy a_o_attendsBy a_o_coveredBy a_o_cameBy a_o_cameThen a_o_fallsBy a_o_loops a_o_ran a_o_told1 o_status o_top o_bottom o_taped o_size o_token o_from o_end o_value o_faultKind u11.2.1 u11.2.2 o_seen o_toldParts o_depth o_counted o_becameThen o_firstCorner o_drawn o_ranSteps o_isTold o_marks o_text)) (n1 := 2) (ct_X12_fails l E a_o a_o_at a_o_names a_o_sort a_o_trayMany a_o_trays a_o_tape a_o_text a_o_opened a_o_farBy a_o_attendsBy a_o_coveredBy a_o_cameBy a_o_cameThen a_o_fallsBy a_o_loops a_o_ran a_o_told1 o_status o_top o_bottom o_taped o_size o_token o_from o_end o_value o_faultKind o_faultPlace o_faults o_seen o_toldParts o_depth o_counted o_becameThen o_firstCorner o_drawn o_ranSteps o_isTold o_marks (2 : Int32) u11 hu11) [0] cal_X12_fails cav_X12_fails lk_X12_167 cx hP hD hS hl dX12_wantWord_11 rfl rfl rfl rfl (Nat.le_of_ble_eq_true rfl) ⟨Nat.le_of_ble_eq_true rfl, Nat.le_of_ble_eq_true rfl⟩ rfl (by decide +kernel) rfl [some 0, none] rfl (by decide +kernel) rfl (fun H locs hP hD hS => ?_)
    obtain ⟨hz, hf⟩ := ck hf
    obtain rfl := Option.some.inj hf
    subst hq
    exact retZ cx hz hP hD hS dX12_wantWord_14
def X12_number_j30 (F : Nat) (o_size : Int32) (o_token : Int32) (o_from : Int32) (o_end : Int32) (o_value : Int32) (o_faultPlace : Int32) (o_faults : Int32) (o_at : Nat → Int32) (o_text : Nat → Int32) : Option (Int32 × Int32 × Int32 × Int32 × Int32 × Int32 × Int32 × (Nat → Int32)) :=
  (X12_fails o_token o_from o_faultPlace o_faults (4 : Int32)).bind fun u32 =>
  if isZ u32.1 then some (u32.1, o_token, o_from, o_end, o_value, u32.2.1, u32.2.2, o_at) else none
def X12_number (F : Nat) (o_size : Int32) (o_token : Int32) (o_from : Int32) (o_end : Int32) (o_value : Int32) (o_faultPlace : Int32) (o_faults : Int32) (o_at : Nat → Int32) (o_text : Nat → Int32) (v1 : Int32) (v2 : Int32) (v3 : Int32) : Option (Int32 × Int32 × Int32 × Int32 × Int32 × Int32 × Int32 × (Nat → Int32)) :=
  if o_token = 3 then
  if o_value < v2 then
  X12_number_j30 F o_size o_token o_from o_end o_value o_faultPlace o_faults o_at o_text
  else
  if o_value ≤ v3 then
  if ix v1 3097 then
  (X12_ahead F o_size o_token o_from o_end o_value o_text).bind fun u47 =>
  some (1, u47.1, u47.2.1, u47.2.2.1, u47.2.2.2, o_faultPlace, o_faults, (jput o_at v1 o_value))
  else none
  else
  X12_number_j30 F o_size o_token o_from o_end o_value o_faultPlace o_faults o_at o_text
  else
  (X12_fails o_token o_from o_faultPlace o_faults (2 : Int32)).bind fun u10 =>
  if isZ u10.1 then some (u10.1, o_token, o_from, o_end, o_value, u10.2.1, u10.2.2, o_at) else none
abbrev wd_X12_number (E : vE) (a_o a_o_at a_o_names a_o_sort a_o_trayMany a_o_trays a_o_tape a_o_text a_o_opened a_o_farBy a_o_attendsBy a_o_coveredBy a_o_cameBy a_o_cameThen a_o_fallsBy a_o_loops a_o_ran a_o_told1 : Nat) (o_status : Int32) (o_top : Int64) (o_bottom : Int64) (o_taped : Int32) (o_size : Int32) (o_token : Int32) (o_from : Int32) (o_end : Int32) (o_value : Int32) (o_faultKind : Int32) (o_faultPlace : Int32) (o_faults : Int32) (o_seen : Int32) (o_toldParts : Int32) (o_depth : Int32) (o_counted : Int32) (o_becameThen : Int32) (o_firstCorner : Int32) (o_drawn : Int32) (o_ranSteps : Int32) (o_isTold : Int32) (o_marks : Int32) (o_at : Nat → Int32) (o_text : Nat → Int32) : va_W := [(a_o, .inr (12, [.ref a_o_at, .ref a_o_names, .int o_status, .long o_top, .long o_bottom, .ref a_o_sort, .ref a_o_trayMany, .ref a_o_trays, .ref a_o_tape, .ref a_o_text, .int o_taped, .int o_size, .int o_token, .int o_from, .int o_end, .int o_value, .int o_faultKind, .int o_faultPlace, .int o_faults, .int o_seen, .int o_toldParts, .ref a_o_opened, .int o_depth, .int o_counted, .ref a_o_farBy, .int o_becameThen, .ref a_o_attendsBy, .ref a_o_coveredBy, .ref a_o_cameBy, .ref a_o_cameThen, .int o_firstCorner, .ref a_o_fallsBy, .int o_drawn, .int o_ranSteps, .ref a_o_loops, .ref a_o_ran, .ref a_o_told1, .int o_isTold, .int o_marks])), (a_o_at, .inl (E.2.1, 3097, .inl o_at)), (a_o_text, .inl (E.2.2.2.1, 900, .inl o_text))]
set_option maxHeartbeats 4000000 in
set_option maxRecDepth 100000 in
theorem ct_X12_number (l : Launch) (E : vE) (F : Nat) (a_o a_o_at a_o_names a_o_sort a_o_trayMany a_o_trays a_o_tape a_o_text a_o_opened a_o_farBy a_o_attendsBy a_o_coveredBy a_o_cameBy a_o_cameThen a_o_fallsBy a_o_loops a_o_ran a_o_told1 : Nat) (o_status : Int32) (o_top : Int64) (o_bottom : Int64) (o_taped : Int32) (o_size : Int32) (o_token : Int32) (o_from : Int32) (o_end : Int32) (o_value : Int32) (o_faultKind : Int32) (o_faultPlace : Int32) (o_faults : Int32) (o_seen : Int32) (o_toldParts : Int32) (o_depth : Int32) (o_counted : Int32) (o_becameThen : Int32) (o_firstCorner : Int32) (o_drawn : Int32) (o_ranSteps : Int32) (o_isTold : Int32) (o_marks : Int32) (o_at : Nat → Int32) (o_text : Nat → Int32) (v1 : Int32) (v2 : Int32) (v3 : Int32) (u : Int32 × Int32 × Int32 × Int32 × Int32 × Int32 × Int32 × (Nat → Int32)) (hf : X12_number F o_size o_token o_from o_end o_value o_faultPlace o_faults o_at o_text v1 v2 v3 = some u) :
    CtI l yX12_number cX12_number 4 (some .boolean) 2 E [.ref a_o, .int v1, .int v2, .int v3] (wd_X12_number E a_o a_o_at a_o_names a_o_sort a_o_trayMany a_o_trays a_o_tape a_o_text a_o_opened a_o_farBy a_o_attendsBy a_o_coveredBy a_o_cameBy a_o_cameThen a_o_fallsBy a_o_loops a_o_ran a_o_told1 o_status o_top o_bottom o_taped o_size o_token o_from o_end o_value o_faultKind o_faultPlace o_faults o_seen o_toldParts o_depth o_counted o_becameThen o_firstCorner o_drawn o_ranSteps o_isTold o_marks o_at o_text) (wd_X12_number E a_o a_o_at a_o_names a_o_sort a_o_trayMany a_o_trays a_o_tape a_o_text a_o_opened a_o_farBy a_o_attendsBy a_o_coveredBy a_o_cameBy a_o_cameThen a_o_fallsBy a_o_loops a_o_ran a_o_told1 o_status o_top o_bottom o_taped o_size u.2.1 u.2.2.1 u.2.2.2.1 u.2.2.2.2.1 o_faultKind u.2.2.2.2.2.1 u.2.2.2.2.2.2.1 o_seen o_toldParts o_depth o_counted o_becameThen o_firstCorner o_drawn o_ranSteps o_isTold o_marks u.2.2.2.2.2.2.2 o_text) u.1 := by
  refine ctI (by decide) (Nat.le_of_ble_eq_true rfl) ?_
  intro p e s m below meth cd A ls aa QQ hq cx hP hD hS hl
  obtain ⟨⟨hx, hb, hml, hown, hts⟩, hr, hlocks, hK, hA, hX⟩ := id cx
  have hl : lv_has ls 4 [(0, .ref a_o), (1, .int v1), (2, .int v2), (3, .int v3)] := hl
  have hj30 : ∀ (o_token_j30 : Int32) (o_from_j30 : Int32) (o_end_j30 : Int32) (o_value_j30 : Int32) (o_faultPlace_j30 : Int32) (o_faults_j30 : Int32) (o_at_j30 : Nat → Int32) (H : Heap) (locs : List Loc) (ls : Array Slot), X12_number_j30 F o_size o_token_j30 o_from_j30 o_end_j30 o_value_j30 o_faultPlace_j30 o_faults_j30 o_at_j30 o_text = some u → va_P E.1 vwCl (wd_X12_number E a_o a_o_at a_o_names a_o_sort a_o_trayMany a_o_trays a_o_tape a_o_text a_o_opened a_o_farBy a_o_attendsBy a_o_coveredBy a_o_cameBy a_o_cameThen a_o_fallsBy a_o_loops a_o_ran a_o_told1 o_status o_top o_bottom o_taped o_size o_token_j30 o_from_j30 o_end_j30 o_value_j30 o_faultKind o_faultPlace_j30 o_faults_j30 o_seen o_toldParts o_depth o_counted o_becameThen o_firstCorner o_drawn o_ranSteps o_isTold o_marks o_at_j30 o_text) H → va_D A (wd_X12_number E a_o a_o_at a_o_names a_o_sort a_o_trayMany a_o_trays a_o_tape a_o_text a_o_opened a_o_farBy a_o_attendsBy a_o_coveredBy a_o_cameBy a_o_cameThen a_o_fallsBy a_o_loops a_o_ran a_o_told1 o_status o_top o_bottom o_taped o_size o_token_j30 o_from_j30 o_end_j30 o_value_j30 o_faultKind o_faultPlace_j30 o_faults_j30 o_seen o_toldParts o_depth o_counted o_becameThen o_firstCorner o_drawn o_ranSteps o_isTold o_marks o_at_j30 o_text) → va_S A s.heap H locs → lv_has ls 4 [(0, .ref a_o)] → W p l e (rmd 2) s m aa below meth cd H locs 0 0 QQ (F0 m 30 ls []) := by
    intro o_token_j30 o_from_j30 o_end_j30 o_value_j30 o_faultPlace_j30 o_faults_j30 o_at_j30 H locs ls hf hP hD hS hl
    unfold X12_number_j30 at hf
    refine lv_aload_n hx hb dX12_number_30 rfl (lv_at hl 0 rfl) ?_
    refine lv_iconst (v := 4) hx hb dX12_number_31 (by decide) ?_
    obtain ⟨u32, hu32, hf⟩ := bd hf
    refine callVI (wn := (wd_X12_number E a_o a_o_at a_o_names a_o_sort a_o_trayMany a_o_trays a_o_tape a_o_text a_o_opened a_o_farBy a_o_attendsBy a_o_coveredBy a_o_cameBy a_o_cameThen a_o_fallsBy a_o_loops a_o_ran a_o_told1 o_status o_top o_bottom o_taped o_size o_token_j30 o_from_j30 o_end_j30 o_value_j30 o_faultKind u32.2.1 u32.2.2 o_seen o_toldParts o_depth o_counted o_becameThen o_firstCorner o_drawn o_ranSteps o_isTold o_marks o_at_j30 o_text)) (n1 := 3) (ct_X12_fails l E a_o a_o_at a_o_names a_o_sort a_o_trayMany a_o_trays a_o_tape a_o_text a_o_opened a_o_farBy a_o_attendsBy a_o_coveredBy a_o_cameBy a_o_cameThen a_o_fallsBy a_o_loops a_o_ran a_o_told1 o_status o_top o_bottom o_taped o_size o_token_j30 o_from_j30 o_end_j30 o_value_j30 o_faultKind o_faultPlace_j30 o_faults_j30 o_seen o_toldParts o_depth o_counted o_becameThen o_firstCorner o_drawn o_ranSteps o_isTold o_marks (4 : Int32) u32 hu32) [0] cal_X12_fails cav_X12_fails lk_X12_167 cx hP hD hS hl dX12_number_32 rfl rfl rfl rfl (Nat.le_of_ble_eq_true rfl) ⟨Nat.le_of_ble_eq_true rfl, Nat.le_of_ble_eq_true rfl⟩ rfl (by decide +kernel) rfl [some 0, none, none] rfl (by decide +kernel) rfl (fun H locs hP hD hS => ?_)
    obtain ⟨hz, hf⟩ := ck hf
    obtain rfl := Option.some.inj hf
    subst hq
    exact retZ cx hz hP hD hS dX12_number_35
  unfold X12_number at hf
  refine lv_aload_n hx hb dX12_number_0 rfl (lv_at hl 0 rfl) ?_
  refine va_get (D := E.1) (ci := 12) (v := .int o_token) (C := RX12) (T := TX12) (N := 39) hx hb hts inX12 hown hK hP 0 rfl rfl 12 (by decide) (hts _ fl_X12_130) (fun _ h9 => h9) rfl dX12_number_1 ?_
  refine lv_iconst (v := 3) hx hb dX12_number_4 (by decide) ?_
  refine lv_icmp_eq (tgt := 14) hx hb dX12_number_5 (by decide) (fun hc => ?_) (fun hc => ?_)
  · have hf := it_t hc hf
    refine lv_aload_n hx hb dX12_number_14 rfl (lv_at hl 0 rfl) ?_
    refine va_get (D := E.1) (ci := 12) (v := .int o_value) (C := RX12) (T := TX12) (N := 39) hx hb hts inX12 hown hK hP 0 rfl rfl 15 (by decide) (hts _ fl_X12_127) (fun _ h9 => h9) rfl dX12_number_15 ?_
    refine lv_iload_n hx hb dX12_number_18 rfl (lv_at hl 2 rfl) ?_
    refine lv_icmp_lt (tgt := 30) hx hb dX12_number_19 (by decide) (fun hc => ?_) (fun hc => ?_)
    · have hf := it_t hc hf
      exact hj30 _ _ _ _ _ _ _ _ _ _ hf hP hD hS (lv_sub hl [0] rfl)
    · have hf := it_f hc hf
      refine lv_aload_n hx hb dX12_number_22 rfl (lv_at hl 0 rfl) ?_
      refine va_get (D := E.1) (ci := 12) (v := .int o_value) (C := RX12) (T := TX12) (N := 39) hx hb hts inX12 hown hK hP 0 rfl rfl 15 (by decide) (hts _ fl_X12_127) (fun _ h9 => h9) rfl dX12_number_23 ?_
      refine lv_iload_n hx hb dX12_number_26 rfl (lv_at hl 3 rfl) ?_
      refine lv_icmp_le (tgt := 36) hx hb dX12_number_27 (by decide) (fun hc => ?_) (fun hc => ?_)
      · have hf := it_t hc hf
        refine lv_aload_n hx hb dX12_number_36 rfl (lv_at hl 0 rfl) ?_
        refine va_get (D := E.1) (ci := 12) (v := .ref a_o_at) (C := RX12) (T := TX12) (N := 39) hx hb hts inX12 hown hK hP 0 rfl rfl 0 (by decide) (hts _ fl_X12_7) (fun _ h9 => h9) rfl dX12_number_37 ?_
        refine lv_iload_n hx hb dX12_number_40 rfl (lv_at hl 1 rfl) ?_
        refine lv_aload_n hx hb dX12_number_41 rfl (lv_at hl 0 rfl) ?_
        refine va_get (D := E.1) (ci := 12) (v := .int o_value) (C := RX12) (T := TX12) (N := 39) hx hb hts inX12 hown hK hP 0 rfl rfl 15 (by decide) (hts _ fl_X12_127) (fun _ h9 => h9) rfl dX12_number_42 ?_
        obtain ⟨hi, hf⟩ := ck hf
        refine r_iast 1 cx hP hD hS rfl hi dX12_number_45 (fun H locs hP hD hS => ?_)
        have hP : va_P E.1 vwCl (wd_X12_number E a_o a_o_at a_o_names a_o_sort a_o_trayMany a_o_trays a_o_tape a_o_text a_o_opened a_o_farBy a_o_attendsBy a_o_coveredBy a_o_cameBy a_o_cameThen a_o_fallsBy a_o_loops a_o_ran a_o_told1 o_status o_top o_bottom o_taped o_size o_token o_from o_end o_value o_faultKind o_faultPlace o_faults o_seen o_toldParts o_depth o_counted o_becameThen o_firstCorner o_drawn o_ranSteps o_isTold o_marks (jput o_at v1 o_value) o_text) H := hP
        have hD : va_D A (wd_X12_number E a_o a_o_at a_o_names a_o_sort a_o_trayMany a_o_trays a_o_tape a_o_text a_o_opened a_o_farBy a_o_attendsBy a_o_coveredBy a_o_cameBy a_o_cameThen a_o_fallsBy a_o_loops a_o_ran a_o_told1 o_status o_top o_bottom o_taped o_size o_token o_from o_end o_value o_faultKind o_faultPlace o_faults o_seen o_toldParts o_depth o_counted o_becameThen o_firstCorner o_drawn o_ranSteps o_isTold o_marks (jput o_at v1 o_value) o_text) := hD
        refine lv_aload_n hx hb dX12_number_46 rfl (lv_at hl 0 rfl) ?_
        obtain ⟨u47, hu47, hf⟩ := bd hf
        refine callVV (wn := (wd_X12_number E a_o a_o_at a_o_names a_o_sort a_o_trayMany a_o_trays a_o_tape a_o_text a_o_opened a_o_farBy a_o_attendsBy a_o_coveredBy a_o_cameBy a_o_cameThen a_o_fallsBy a_o_loops a_o_ran a_o_told1 o_status o_top o_bottom o_taped o_size u47.1 u47.2.1 u47.2.2.1 u47.2.2.2 o_faultKind o_faultPlace o_faults o_seen o_toldParts o_depth o_counted o_becameThen o_firstCorner o_drawn o_ranSteps o_isTold o_marks (jput o_at v1 o_value) o_text)) (n1 := 3) (ct_X12_ahead l E F a_o a_o_at a_o_names a_o_sort a_o_trayMany a_o_trays a_o_tape a_o_text a_o_opened a_o_farBy a_o_attendsBy a_o_coveredBy a_o_cameBy a_o_cameThen a_o_fallsBy a_o_loops a_o_ran a_o_told1 o_status o_top o_bottom o_taped o_size o_token o_from o_end o_value o_faultKind o_faultPlace o_faults o_seen o_toldParts o_depth o_counted o_becameThen o_firstCorner o_drawn o_ranSteps o_isTold o_marks o_text u47 hu47) [0, 2] cal_X12_ahead cav_X12_ahead lk_X12_161 cx hP hD hS hl dX12_number_47 rfl rfl rfl rfl (Nat.le_of_ble_eq_true rfl) ⟨Nat.le_of_ble_eq_true rfl, Nat.le_of_ble_eq_true rfl⟩ rfl (by decide +kernel) rfl [some 0, none, some 1] rfl (by decide +kernel) rfl (fun H locs hP hD hS => ?_)
        refine lv_iconst (v := 1) hx hb dX12_number_50 (by decide) ?_
        obtain rfl := Option.some.inj hf
        subst hq
        exact retZ cx rfl hP hD hS dX12_number_51
      · have hf := it_f hc hf
        exact hj30 _ _ _ _ _ _ _ _ _ _ hf hP hD hS (lv_sub hl [0] rfl)
  · have hf := it_f hc hf
    refine lv_aload_n hx hb dX12_number_8 rfl (lv_at hl 0 rfl) ?_
    refine lv_iconst (v := 2) hx hb dX12_number_9 (by decide) ?_
    obtain ⟨u10, hu10, hf⟩ := bd hf
    refine callVI (wn := (wd_X12_number E a_o a_o_at a_o_names a_o_sort a_o_trayMany a_o_trays a_o_tape a_o_text a_o_opened a_o_farBy a_o_attendsBy a_o_coveredBy a_o_cameBy a_o_cameThen a_o_fallsBy a_o_loops a_o_ran a_o_told1 o_status o_top o_bottom o_taped o_size o_token o_from o_end o_value o_faultKind u10.2.1 u10.2.2 o_seen o_toldParts o_depth o_counted o_becameThen o_firstCorner o_drawn o_ranSteps o_isTold o_marks o_at o_text)) (n1 := 3) (ct_X12_fails l E a_o a_o_at a_o_names a_o_sort a_o_trayMany a_o_trays a_o_tape a_o_text a_o_opened a_o_farBy a_o_attendsBy a_o_coveredBy a_o_cameBy a_o_cameThen a_o_fallsBy a_o_loops a_o_ran a_o_told1 o_status o_top o_bottom o_taped o_size o_token o_from o_end o_value o_faultKind o_faultPlace o_faults o_seen o_toldParts o_depth o_counted o_becameThen o_firstCorner o_drawn o_ranSteps o_isTold o_marks (2 : Int32) u10 hu10) [0] cal_X12_fails cav_X12_fails lk_X12_167 cx hP hD hS hl dX12_number_10 rfl rfl rfl rfl (Nat.le_of_ble_eq_true rfl) ⟨Nat.le_of_ble_eq_true rfl, Nat.le_of_ble_eq_true rfl⟩ rfl (by decide +kernel) rfl [some 0, none, none] rfl (by decide +kernel) rfl (fun H locs hP hD hS => ?_)
    obtain ⟨hz, hf⟩ := ck hf
    obtain rfl := Option.some.inj hf
    subst hq
    exact retZ cx hz hP hD hS dX12_number_13
def X12_isName_j35 (F : Nat) (o_size : Int32) (o_token : Int32) (o_from : Int32) (o_end : Int32) (o_text : Nat → Int32) : Option (Int32) :=
  some 0
def X12_isName (F : Nat) (o_size : Int32) (o_token : Int32) (o_from : Int32) (o_end : Int32) (o_text : Nat → Int32) : Option (Int32) :=
  if o_token = 2 then
  if (8 : Int32) < (o_end - o_from) then
  X12_isName_j35 F o_size o_token o_from o_end o_text
  else
  (X12_inWords F o_size o_token o_from o_end o_text).bind fun u24 =>
  if u24 = (-1) then
  some 1
  else
  X12_isName_j35 F o_size o_token o_from o_end o_text
  else
  X12_isName_j35 F o_size o_token o_from o_end o_text
abbrev wd_X12_isName (E : vE) (a_o a_o_at a_o_names a_o_sort a_o_trayMany a_o_trays a_o_tape a_o_text a_o_opened a_o_farBy a_o_attendsBy a_o_coveredBy a_o_cameBy a_o_cameThen a_o_fallsBy a_o_loops a_o_ran a_o_told1 : Nat) (o_status : Int32) (o_top : Int64) (o_bottom : Int64) (o_taped : Int32) (o_size : Int32) (o_token : Int32) (o_from : Int32) (o_end : Int32) (o_value : Int32) (o_faultKind : Int32) (o_faultPlace : Int32) (o_faults : Int32) (o_seen : Int32) (o_toldParts : Int32) (o_depth : Int32) (o_counted : Int32) (o_becameThen : Int32) (o_firstCorner : Int32) (o_drawn : Int32) (o_ranSteps : Int32) (o_isTold : Int32) (o_marks : Int32) (o_text : Nat → Int32) : va_W := [(a_o, .inr (12, [.ref a_o_at, .ref a_o_names, .int o_status, .long o_top, .long o_bottom, .ref a_o_sort, .ref a_o_trayMany, .ref a_o_trays, .ref a_o_tape, .ref a_o_text, .int o_taped, .int o_size, .int o_token, .int o_from, .int o_end, .int o_value, .int o_faultKind, .int o_faultPlace, .int o_faults, .int o_seen, .int o_toldParts, .ref a_o_opened, .int o_depth, .int o_counted, .ref a_o_farBy, .int o_becameThen, .ref a_o_attendsBy, .ref a_o_coveredBy, .ref a_o_cameBy, .ref a_o_cameThen, .int o_firstCorner, .ref a_o_fallsBy, .int o_drawn, .int o_ranSteps, .ref a_o_loops, .ref a_o_ran, .ref a_o_told1, .int o_isTold, .int o_marks])), (a_o_text, .inl (E.2.2.2.1, 900, .inl o_text))]
set_option maxHeartbeats 4000000 in
set_option maxRecDepth 100000 in
theorem ct_X12_isName (l : Launch) (E : vE) (F : Nat) (a_o a_o_at a_o_names a_o_sort a_o_trayMany a_o_trays a_o_tape a_o_text a_o_opened a_o_farBy a_o_attendsBy a_o_coveredBy a_o_cameBy a_o_cameThen a_o_fallsBy a_o_loops a_o_ran a_o_told1 : Nat) (o_status : Int32) (o_top : Int64) (o_bottom : Int64) (o_taped : Int32) (o_size : Int32) (o_token : Int32) (o_from : Int32) (o_end : Int32) (o_value : Int32) (o_faultKind : Int32) (o_faultPlace : Int32) (o_faults : Int32) (o_seen : Int32) (o_toldParts : Int32) (o_depth : Int32) (o_counted : Int32) (o_becameThen : Int32) (o_firstCorner : Int32) (o_drawn : Int32) (o_ranSteps : Int32) (o_isTold : Int32) (o_marks : Int32) (o_text : Nat → Int32) (u : Int32) (hf : X12_isName F o_size o_token o_from o_end o_text = some u) :
    CtI l yX12_isName cX12_isName 2 (some .boolean) 5 E [.ref a_o, .ref (adK E 1)] (wd_X12_isName E a_o a_o_at a_o_names a_o_sort a_o_trayMany a_o_trays a_o_tape a_o_text a_o_opened a_o_farBy a_o_attendsBy a_o_coveredBy a_o_cameBy a_o_cameThen a_o_fallsBy a_o_loops a_o_ran a_o_told1 o_status o_top o_bottom o_taped o_size o_token o_from o_end o_value o_faultKind o_faultPlace o_faults o_seen o_toldParts o_depth o_counted o_becameThen o_firstCorner o_drawn o_ranSteps o_isTold o_marks o_text) (wd_X12_isName E a_o a_o_at a_o_names a_o_sort a_o_trayMany a_o_trays a_o_tape a_o_text a_o_opened a_o_farBy a_o_attendsBy a_o_coveredBy a_o_cameBy a_o_cameThen a_o_fallsBy a_o_loops a_o_ran a_o_told1 o_status o_top o_bottom o_taped o_size o_token o_from o_end o_value o_faultKind o_faultPlace o_faults o_seen o_toldParts o_depth o_counted o_becameThen o_firstCorner o_drawn o_ranSteps o_isTold o_marks o_text) u := by
  refine ctI (by decide) (Nat.le_of_ble_eq_true rfl) ?_
  intro p e s m below meth cd A ls aa QQ hq cx hP hD hS hl
  obtain ⟨⟨hx, hb, hml, hown, hts⟩, hr, hlocks, hK, hA, hX⟩ := id cx
  have hl : lv_has ls 2 [(0, .ref a_o), (1, .ref (adK E 1))] := hl
  have hj35 : ∀ (H : Heap) (locs : List Loc) (ls : Array Slot), X12_isName_j35 F o_size o_token o_from o_end o_text = some u → va_P E.1 vwCl (wd_X12_isName E a_o a_o_at a_o_names a_o_sort a_o_trayMany a_o_trays a_o_tape a_o_text a_o_opened a_o_farBy a_o_attendsBy a_o_coveredBy a_o_cameBy a_o_cameThen a_o_fallsBy a_o_loops a_o_ran a_o_told1 o_status o_top o_bottom o_taped o_size o_token o_from o_end o_value o_faultKind o_faultPlace o_faults o_seen o_toldParts o_depth o_counted o_becameThen o_firstCorner o_drawn o_ranSteps o_isTold o_marks o_text) H → va_D A (wd_X12_isName E a_o a_o_at a_o_names a_o_sort a_o_trayMany a_o_trays a_o_tape a_o_text a_o_opened a_o_farBy a_o_attendsBy a_o_coveredBy a_o_cameBy a_o_cameThen a_o_fallsBy a_o_loops a_o_ran a_o_told1 o_status o_top o_bottom o_taped o_size o_token o_from o_end o_value o_faultKind o_faultPlace o_faults o_seen o_toldParts o_depth o_counted o_becameThen o_firstCorner o_drawn o_ranSteps o_isTold o_marks o_text) → va_S A s.heap H locs → lv_has ls 2 [] → W p l e (rmd 5) s m aa below meth cd H locs 0 0 QQ (F0 m 35 ls []) := by
    intro H locs ls hf hP hD hS hl
    unfold X12_isName_j35 at hf
    refine lv_iconst (v := 0) hx hb dX12_isName_35 (by decide) ?_
    obtain rfl := Option.some.inj hf
    subst hq
    exact retZ cx rfl hP hD hS dX12_isName_36
  unfold X12_isName at hf
  refine lv_aload_n hx hb dX12_isName_0 rfl (lv_at hl 0 rfl) ?_
  refine va_get (D := E.1) (ci := 12) (v := .int o_token) (C := RX12) (T := TX12) (N := 39) hx hb hts inX12 hown hK hP 0 rfl rfl 12 (by decide) (hts _ fl_X12_130) (fun _ h9 => h9) rfl dX12_isName_1 ?_
  refine lv_iconst (v := 2) hx hb dX12_isName_4 (by decide) ?_
  refine lv_icmp_ne (tgt := 35) hx hb dX12_isName_5 (by decide) (fun hc => ?_) (fun hc => ?_)
  · have hf := it_f hc hf
    exact hj35  _ _ _ hf hP hD hS (lv_sub hl [] rfl)
  · have hf := it_t hc hf
    refine lv_aload_n hx hb dX12_isName_8 rfl (lv_at hl 0 rfl) ?_
    refine va_get (D := E.1) (ci := 12) (v := .int o_end) (C := RX12) (T := TX12) (N := 39) hx hb hts inX12 hown hK hP 0 rfl rfl 14 (by decide) (hts _ fl_X12_118) (fun _ h9 => h9) rfl dX12_isName_9 ?_
    refine lv_aload_n hx hb dX12_isName_12 rfl (lv_at hl 0 rfl) ?_
    refine va_get (D := E.1) (ci := 12) (v := .int o_from) (C := RX12) (T := TX12) (N := 39) hx hb hts inX12 hown hK hP 0 rfl rfl 13 (by decide) (hts _ fl_X12_124) (fun _ h9 => h9) rfl dX12_isName_13 ?_
    refine lv_isub hx hb dX12_isName_16 ?_
    refine lv_bipush (v := 8) hx hb dX12_isName_17 (by decide) ?_
    refine lv_icmp_gt (tgt := 35) hx hb dX12_isName_19 (by decide) (fun hc => ?_) (fun hc => ?_)
    · have hf := it_t hc hf
      exact hj35  _ _ _ hf hP hD hS (lv_sub hl [] rfl)
    · have hf := it_f hc hf
      refine lv_aload_n hx hb dX12_isName_22 rfl (lv_at hl 0 rfl) ?_
      refine lv_aload_n hx hb dX12_isName_23 rfl (lv_at hl 1 rfl) ?_
      obtain ⟨u24, hu24, hf⟩ := bd hf
      refine keepVI (ct_X12_inWords l E F a_o a_o_at a_o_names a_o_sort a_o_trayMany a_o_trays a_o_tape a_o_text a_o_opened a_o_farBy a_o_attendsBy a_o_coveredBy a_o_cameBy a_o_cameThen a_o_fallsBy a_o_loops a_o_ran a_o_told1 o_status o_top o_bottom o_taped o_size o_token o_from o_end o_value o_faultKind o_faultPlace o_faults o_seen o_toldParts o_depth o_counted o_becameThen o_firstCorner o_drawn o_ranSteps o_isTold o_marks o_text u24 hu24) [0, 1] cal_X12_inWords cav_X12_inWords lk_X12_170 cx hP hD hS hl dX12_isName_24 rfl rfl rfl rfl (Nat.le_of_ble_eq_true rfl) ⟨Nat.le_of_ble_eq_true rfl, Nat.le_of_ble_eq_true rfl⟩ rfl (by decide) (fun H locs hP hS => ?_)
      refine lv_iconst (v := (-1)) hx hb dX12_isName_27 (by decide) ?_
      refine lv_icmp_ne (tgt := 35) hx hb dX12_isName_28 (by decide) (fun hc => ?_) (fun hc => ?_)
      · have hf := it_f hc hf
        exact hj35  _ _ _ hf hP hD hS (lv_sub hl [] rfl)
      · have hf := it_t hc hf
        refine lv_iconst (v := 1) hx hb dX12_isName_31 (by decide) ?_
        refine lv_goto (tgt := 36) hx hb dX12_isName_32 (by decide) ?_
        obtain rfl := Option.some.inj hf
        subst hq
        exact retZ cx rfl hP hD hS dX12_isName_36
def X12_nameHere_b7 (F : Nat) (o_size : Int32) (o_from : Int32) (o_end : Int32) (o_text : Nat → Int32) (st7 : Int64 × Int32) : Option ((Int64 × Int32) ⊕ ((Int64))) :=
  if o_end ≤ st7.2 then
  some (.inr st7.1)
  else
  (X12_byteAt o_size o_text st7.2).bind fun u21 =>
  some (.inl (((jshl64 st7.1 8) ||| (u21.toInt64)), (st7.2 + 1)))
def X12_nameHere (F : Nat) (o_size : Int32) (o_from : Int32) (o_end : Int32) (o_text : Nat → Int32) : Option (Int64) :=
  (iter (X12_nameHere_b7 F o_size o_from o_end o_text) F (0, o_from)).bind (fun (e7 : Int64) =>
    some e7)
abbrev wd_X12_nameHere (E : vE) (a_o a_o_at a_o_names a_o_sort a_o_trayMany a_o_trays a_o_tape a_o_text a_o_opened a_o_farBy a_o_attendsBy a_o_coveredBy a_o_cameBy a_o_cameThen a_o_fallsBy a_o_loops a_o_ran a_o_told1 : Nat) (o_status : Int32) (o_top : Int64) (o_bottom : Int64) (o_taped : Int32) (o_size : Int32) (o_token : Int32) (o_from : Int32) (o_end : Int32) (o_value : Int32) (o_faultKind : Int32) (o_faultPlace : Int32) (o_faults : Int32) (o_seen : Int32) (o_toldParts : Int32) (o_depth : Int32) (o_counted : Int32) (o_becameThen : Int32) (o_firstCorner : Int32) (o_drawn : Int32) (o_ranSteps : Int32) (o_isTold : Int32) (o_marks : Int32) (o_text : Nat → Int32) : va_W := [(a_o, .inr (12, [.ref a_o_at, .ref a_o_names, .int o_status, .long o_top, .long o_bottom, .ref a_o_sort, .ref a_o_trayMany, .ref a_o_trays, .ref a_o_tape, .ref a_o_text, .int o_taped, .int o_size, .int o_token, .int o_from, .int o_end, .int o_value, .int o_faultKind, .int o_faultPlace, .int o_faults, .int o_seen, .int o_toldParts, .ref a_o_opened, .int o_depth, .int o_counted, .ref a_o_farBy, .int o_becameThen, .ref a_o_attendsBy, .ref a_o_coveredBy, .ref a_o_cameBy, .ref a_o_cameThen, .int o_firstCorner, .ref a_o_fallsBy, .int o_drawn, .int o_ranSteps, .ref a_o_loops, .ref a_o_ran, .ref a_o_told1, .int o_isTold, .int o_marks])), (a_o_text, .inl (E.2.2.2.1, 900, .inl o_text))]
set_option maxHeartbeats 4000000 in
set_option maxRecDepth 100000 in
theorem ct_X12_nameHere (l : Launch) (E : vE) (F : Nat) (a_o a_o_at a_o_names a_o_sort a_o_trayMany a_o_trays a_o_tape a_o_text a_o_opened a_o_farBy a_o_attendsBy a_o_coveredBy a_o_cameBy a_o_cameThen a_o_fallsBy a_o_loops a_o_ran a_o_told1 : Nat) (o_status : Int32) (o_top : Int64) (o_bottom : Int64) (o_taped : Int32) (o_size : Int32) (o_token : Int32) (o_from : Int32) (o_end : Int32) (o_value : Int32) (o_faultKind : Int32) (o_faultPlace : Int32) (o_faults : Int32) (o_seen : Int32) (o_toldParts : Int32) (o_depth : Int32) (o_counted : Int32) (o_becameThen : Int32) (o_firstCorner : Int32) (o_drawn : Int32) (o_ranSteps : Int32) (o_isTold : Int32) (o_marks : Int32) (o_text : Nat → Int32) (u : Int64) (hf : X12_nameHere F o_size o_from o_end o_text = some u) :
    CtL l yX12_nameHere cX12_nameHere 4 (some .long) 1 E [.ref a_o] (wd_X12_nameHere E a_o a_o_at a_o_names a_o_sort a_o_trayMany a_o_trays a_o_tape a_o_text a_o_opened a_o_farBy a_o_attendsBy a_o_coveredBy a_o_cameBy a_o_cameThen a_o_fallsBy a_o_loops a_o_ran a_o_told1 o_status o_top o_bottom o_taped o_size o_token o_from o_end o_value o_faultKind o_faultPlace o_faults o_seen o_toldParts o_depth o_counted o_becameThen o_firstCorner o_drawn o_ranSteps o_isTold o_marks o_text) (wd_X12_nameHere E a_o a_o_at a_o_names a_o_sort a_o_trayMany a_o_trays a_o_tape a_o_text a_o_opened a_o_farBy a_o_attendsBy a_o_coveredBy a_o_cameBy a_o_cameThen a_o_fallsBy a_o_loops a_o_ran a_o_told1 o_status o_top o_bottom o_taped o_size o_token o_from o_end o_value o_faultKind o_faultPlace o_faults o_seen o_toldParts o_depth o_counted o_becameThen o_firstCorner o_drawn o_ranSteps o_isTold o_marks o_text) u := by
  refine ctL (by decide) (Nat.le_of_ble_eq_true rfl) ?_
  intro p e s m below meth cd A ls aa QQ hq cx hP hD hS hl
  obtain ⟨⟨hx, hb, hml, hown, hts⟩, hr, hlocks, hK, hA, hX⟩ := id cx
  have hl : lv_has ls 4 [(0, .ref a_o)] := hl
  unfold X12_nameHere at hf
  refine lv_lconst (v := 0) hx hb dX12_nameHere_0 (by decide) ?_
  refine lv_lstore_n (lv' := [(1, .long 0), (0, .ref a_o)]) hx hb dX12_nameHere_1 rfl hl (by decide) rfl (fun ls hl => ?_)
  refine lv_aload_n hx hb dX12_nameHere_2 rfl (lv_at hl 1 rfl) ?_
  refine va_get (D := E.1) (ci := 12) (v := .int o_from) (C := RX12) (T := TX12) (N := 39) hx hb hts inX12 hown hK hP 0 rfl rfl 13 (by decide) (hts _ fl_X12_124) (fun _ h9 => h9) rfl dX12_nameHere_3 ?_
  refine lv_istore_n (lv' := [(3, .int o_from), (1, .long 0), (0, .ref a_o)]) hx hb dX12_nameHere_6 rfl hl (by decide) rfl (fun ls hl => ?_)
  obtain ⟨e7, hit7, hf⟩ := bd hf
  refine iter_W (b := X12_nameHere_b7 F o_size o_from o_end o_text) (P := fun st7 => ∀ (H : Heap) (locs : List Loc) (ls : Array Slot), va_P E.1 vwCl (wd_X12_nameHere E a_o a_o_at a_o_names a_o_sort a_o_trayMany a_o_trays a_o_tape a_o_text a_o_opened a_o_farBy a_o_attendsBy a_o_coveredBy a_o_cameBy a_o_cameThen a_o_fallsBy a_o_loops a_o_ran a_o_told1 o_status o_top o_bottom o_taped o_size o_token o_from o_end o_value o_faultKind o_faultPlace o_faults o_seen o_toldParts o_depth o_counted o_becameThen o_firstCorner o_drawn o_ranSteps o_isTold o_marks o_text) H → va_D A (wd_X12_nameHere E a_o a_o_at a_o_names a_o_sort a_o_trayMany a_o_trays a_o_tape a_o_text a_o_opened a_o_farBy a_o_attendsBy a_o_coveredBy a_o_cameBy a_o_cameThen a_o_fallsBy a_o_loops a_o_ran a_o_told1 o_status o_top o_bottom o_taped o_size o_token o_from o_end o_value o_faultKind o_faultPlace o_faults o_seen o_toldParts o_depth o_counted o_becameThen o_firstCorner o_drawn o_ranSteps o_isTold o_marks o_text) → va_S A s.heap H locs → lv_has ls 4 [(0, .ref a_o), (1, .long st7.1), (3, .int st7.2)] → W p l e (rmd 1) s m aa below meth cd H locs 0 0 QQ (F0 m 7 ls [])) (G := (fun (e7 : Int64) => ∀ (H : Heap) (locs : List Loc) (ls : Array Slot), va_P E.1 vwCl (wd_X12_nameHere E a_o a_o_at a_o_names a_o_sort a_o_trayMany a_o_trays a_o_tape a_o_text a_o_opened a_o_farBy a_o_attendsBy a_o_coveredBy a_o_cameBy a_o_cameThen a_o_fallsBy a_o_loops a_o_ran a_o_told1 o_status o_top o_bottom o_taped o_size o_token o_from o_end o_value o_faultKind o_faultPlace o_faults o_seen o_toldParts o_depth o_counted o_becameThen o_firstCorner o_drawn o_ranSteps o_isTold o_marks o_text) H → va_D A (wd_X12_nameHere E a_o a_o_at a_o_names a_o_sort a_o_trayMany a_o_trays a_o_tape a_o_text a_o_opened a_o_farBy a_o_attendsBy a_o_coveredBy a_o_cameBy a_o_cameThen a_o_fallsBy a_o_loops a_o_ran a_o_told1 o_status o_top o_bottom o_taped o_size o_token o_from o_end o_value o_faultKind o_faultPlace o_faults o_seen o_toldParts o_depth o_counted o_becameThen o_firstCorner o_drawn o_ranSteps o_isTold o_marks o_text) → va_S A s.heap H locs → lv_has ls 4 [(1, .long e7)] → W p l e (rmd 1) s m aa below meth cd H locs 0 0 QQ (F0 m 33 ls []))) ?_ F (0, o_from) e7 hit7 ?_ _ _ _ hP hD hS (lv_sub hl [2, 1, 0] rfl)
  · intro st7 r7 hf hk7 he7 H locs ls hP hD hS hl
    unfold X12_nameHere_b7 at hf
    refine lv_iload_n hx hb dX12_nameHere_7 rfl (lv_at hl 2 rfl) ?_
    refine lv_aload_n hx hb dX12_nameHere_8 rfl (lv_at hl 0 rfl) ?_
    refine va_get (D := E.1) (ci := 12) (v := .int o_end) (C := RX12) (T := TX12) (N := 39) hx hb hts inX12 hown hK hP 0 rfl rfl 14 (by decide) (hts _ fl_X12_118) (fun _ h9 => h9) rfl dX12_nameHere_9 ?_
    refine lv_icmp_ge (tgt := 33) hx hb dX12_nameHere_12 (by decide) (fun hc => ?_) (fun hc => ?_)
    · have hf := it_t hc hf
      exact he7 _ (Option.some.inj hf).symm _ _ _ hP hD hS (lv_sub hl [1] rfl)
    · have hf := it_f hc hf
      refine lv_lload_n hx hb dX12_nameHere_15 rfl (lv_at hl 1 rfl) ?_
      refine lv_bipush (v := 8) hx hb dX12_nameHere_16 (by decide) ?_
      refine lv_lshl (v := (jshl64 st7.1 8)) hx hb dX12_nameHere_18 rfl ?_
      refine lv_aload_n hx hb dX12_nameHere_19 rfl (lv_at hl 0 rfl) ?_
      refine lv_iload_n hx hb dX12_nameHere_20 rfl (lv_at hl 2 rfl) ?_
      obtain ⟨u21, hu21, hf⟩ := bd hf
      refine keepVI (ct_X12_byteAt l E a_o a_o_at a_o_names a_o_sort a_o_trayMany a_o_trays a_o_tape a_o_text a_o_opened a_o_farBy a_o_attendsBy a_o_coveredBy a_o_cameBy a_o_cameThen a_o_fallsBy a_o_loops a_o_ran a_o_told1 o_status o_top o_bottom o_taped o_size o_token o_from o_end o_value o_faultKind o_faultPlace o_faults o_seen o_toldParts o_depth o_counted o_becameThen o_firstCorner o_drawn o_ranSteps o_isTold o_marks o_text st7.2 u21 hu21) [0, 1] cal_X12_byteAt cav_X12_byteAt lk_X12_121 cx hP hD hS hl dX12_nameHere_21 rfl rfl rfl rfl (Nat.le_of_ble_eq_true rfl) ⟨Nat.le_of_ble_eq_true rfl, Nat.le_of_ble_eq_true rfl⟩ rfl (by decide) (fun H locs hP hS => ?_)
      refine lv_i2l (v := (u21.toInt64)) hx hb dX12_nameHere_24 rfl ?_
      refine lv_lor hx hb dX12_nameHere_25 ?_
      refine lv_lstore_n (lv' := [(1, .long ((jshl64 st7.1 8) ||| (u21.toInt64))), (0, .ref a_o), (3, .int st7.2)]) hx hb dX12_nameHere_26 rfl hl (by decide) rfl (fun ls hl => ?_)
      refine lv_iinc (v := (st7.2 + 1)) (lv' := [(3, .int (st7.2 + 1)), (1, .long ((jshl64 st7.1 8) ||| (u21.toInt64))), (0, .ref a_o)]) hx hb dX12_nameHere_27 hl (k := 2) rfl rfl (by decide) rfl (fun ls hl => ?_)
      refine lv_goto (tgt := 7) hx hb dX12_nameHere_30 (by decide) ?_
      exact hk7 _ (Option.some.inj hf).symm _ _ _ hP hD hS (lv_sub hl [2, 1, 0] rfl)
  · refine fun H locs ls hP hD hS hl => ?_
    refine lv_lload_n hx hb dX12_nameHere_33 rfl (lv_at hl 0 rfl) ?_
    obtain rfl := Option.some.inj hf
    subst hq
    exact retL cx hP hD hS dX12_nameHere_34
def X12_findHere_b2 (F : Nat) (o_size : Int32) (o_from : Int32) (o_end : Int32) (o_names : Nat → Int64) (o_text : Nat → Int32) (v1 : Int32) (v2 : Int32) (st2 : Int32) : Option ((Int32) ⊕ ((Int32) ⊕ (Unit))) :=
  if v2 ≤ st2 then
  some (.inr (.inr (())))
  else
  if ix (v1 + st2) 162 then
  (X12_nameHere F o_size o_from o_end o_text).bind fun u16 =>
  if (lg_cmp (jat o_names (v1 + st2)) u16) = 0 then
  some (.inr (.inl (st2)))
  else
  some (.inl (st2 + 1))
  else none
def X12_findHere (F : Nat) (o_size : Int32) (o_from : Int32) (o_end : Int32) (o_names : Nat → Int64) (o_text : Nat → Int32) (v1 : Int32) (v2 : Int32) : Option (Int32) :=
  (iter (X12_findHere_b2 F o_size o_from o_end o_names o_text v1 v2) F 0).bind (Sum.elim (fun (e2 : Int32) =>
    some e2) (fun (e2 : Unit) =>
    some (-1)))
abbrev wd_X12_findHere (E : vE) (a_o a_o_at a_o_names a_o_sort a_o_trayMany a_o_trays a_o_tape a_o_text a_o_opened a_o_farBy a_o_attendsBy a_o_coveredBy a_o_cameBy a_o_cameThen a_o_fallsBy a_o_loops a_o_ran a_o_told1 : Nat) (o_status : Int32) (o_top : Int64) (o_bottom : Int64) (o_taped : Int32) (o_size : Int32) (o_token : Int32) (o_from : Int32) (o_end : Int32) (o_value : Int32) (o_faultKind : Int32) (o_faultPlace : Int32) (o_faults : Int32) (o_seen : Int32) (o_toldParts : Int32) (o_depth : Int32) (o_counted : Int32) (o_becameThen : Int32) (o_firstCorner : Int32) (o_drawn : Int32) (o_ranSteps : Int32) (o_isTold : Int32) (o_marks : Int32) (o_names : Nat → Int64) (o_text : Nat → Int32) : va_W := [(a_o, .inr (12, [.ref a_o_at, .ref a_o_names, .int o_status, .long o_top, .long o_bottom, .ref a_o_sort, .ref a_o_trayMany, .ref a_o_trays, .ref a_o_tape, .ref a_o_text, .int o_taped, .int o_size, .int o_token, .int o_from, .int o_end, .int o_value, .int o_faultKind, .int o_faultPlace, .int o_faults, .int o_seen, .int o_toldParts, .ref a_o_opened, .int o_depth, .int o_counted, .ref a_o_farBy, .int o_becameThen, .ref a_o_attendsBy, .ref a_o_coveredBy, .ref a_o_cameBy, .ref a_o_cameThen, .int o_firstCorner, .ref a_o_fallsBy, .int o_drawn, .int o_ranSteps, .ref a_o_loops, .ref a_o_ran, .ref a_o_told1, .int o_isTold, .int o_marks])), (a_o_names, .inl (E.2.2.1, 162, .inr (.inl o_names))), (a_o_text, .inl (E.2.2.2.1, 900, .inl o_text))]
set_option maxHeartbeats 4000000 in
set_option maxRecDepth 100000 in
theorem ct_X12_findHere (l : Launch) (E : vE) (F : Nat) (a_o a_o_at a_o_names a_o_sort a_o_trayMany a_o_trays a_o_tape a_o_text a_o_opened a_o_farBy a_o_attendsBy a_o_coveredBy a_o_cameBy a_o_cameThen a_o_fallsBy a_o_loops a_o_ran a_o_told1 : Nat) (o_status : Int32) (o_top : Int64) (o_bottom : Int64) (o_taped : Int32) (o_size : Int32) (o_token : Int32) (o_from : Int32) (o_end : Int32) (o_value : Int32) (o_faultKind : Int32) (o_faultPlace : Int32) (o_faults : Int32) (o_seen : Int32) (o_toldParts : Int32) (o_depth : Int32) (o_counted : Int32) (o_becameThen : Int32) (o_firstCorner : Int32) (o_drawn : Int32) (o_ranSteps : Int32) (o_isTold : Int32) (o_marks : Int32) (o_names : Nat → Int64) (o_text : Nat → Int32) (v1 : Int32) (v2 : Int32) (u : Int32) (hf : X12_findHere F o_size o_from o_end o_names o_text v1 v2 = some u) :
    CtI l yX12_findHere cX12_findHere 4 (some .int) 2 E [.ref a_o, .int v1, .int v2] (wd_X12_findHere E a_o a_o_at a_o_names a_o_sort a_o_trayMany a_o_trays a_o_tape a_o_text a_o_opened a_o_farBy a_o_attendsBy a_o_coveredBy a_o_cameBy a_o_cameThen a_o_fallsBy a_o_loops a_o_ran a_o_told1 o_status o_top o_bottom o_taped o_size o_token o_from o_end o_value o_faultKind o_faultPlace o_faults o_seen o_toldParts o_depth o_counted o_becameThen o_firstCorner o_drawn o_ranSteps o_isTold o_marks o_names o_text) (wd_X12_findHere E a_o a_o_at a_o_names a_o_sort a_o_trayMany a_o_trays a_o_tape a_o_text a_o_opened a_o_farBy a_o_attendsBy a_o_coveredBy a_o_cameBy a_o_cameThen a_o_fallsBy a_o_loops a_o_ran a_o_told1 o_status o_top o_bottom o_taped o_size o_token o_from o_end o_value o_faultKind o_faultPlace o_faults o_seen o_toldParts o_depth o_counted o_becameThen o_firstCorner o_drawn o_ranSteps o_isTold o_marks o_names o_text) u := by
  refine ctI (by decide) (Nat.le_of_ble_eq_true rfl) ?_
  intro p e s m below meth cd A ls aa QQ hq cx hP hD hS hl
  obtain ⟨⟨hx, hb, hml, hown, hts⟩, hr, hlocks, hK, hA, hX⟩ := id cx
  have hl : lv_has ls 4 [(0, .ref a_o), (1, .int v1), (2, .int v2)] := hl
  unfold X12_findHere at hf
  refine lv_iconst (v := 0) hx hb dX12_findHere_0 (by decide) ?_
  refine lv_istore_n (lv' := [(3, .int 0), (0, .ref a_o), (1, .int v1), (2, .int v2)]) hx hb dX12_findHere_1 rfl hl (by decide) rfl (fun ls hl => ?_)
  obtain ⟨e2, hit2, hf⟩ := bd hf
  refine iter_W (b := X12_findHere_b2 F o_size o_from o_end o_names o_text v1 v2) (P := fun st2 => ∀ (H : Heap) (locs : List Loc) (ls : Array Slot), va_P E.1 vwCl (wd_X12_findHere E a_o a_o_at a_o_names a_o_sort a_o_trayMany a_o_trays a_o_tape a_o_text a_o_opened a_o_farBy a_o_attendsBy a_o_coveredBy a_o_cameBy a_o_cameThen a_o_fallsBy a_o_loops a_o_ran a_o_told1 o_status o_top o_bottom o_taped o_size o_token o_from o_end o_value o_faultKind o_faultPlace o_faults o_seen o_toldParts o_depth o_counted o_becameThen o_firstCorner o_drawn o_ranSteps o_isTold o_marks o_names o_text) H → va_D A (wd_X12_findHere E a_o a_o_at a_o_names a_o_sort a_o_trayMany a_o_trays a_o_tape a_o_text a_o_opened a_o_farBy a_o_attendsBy a_o_coveredBy a_o_cameBy a_o_cameThen a_o_fallsBy a_o_loops a_o_ran a_o_told1 o_status o_top o_bottom o_taped o_size o_token o_from o_end o_value o_faultKind o_faultPlace o_faults o_seen o_toldParts o_depth o_counted o_becameThen o_firstCorner o_drawn o_ranSteps o_isTold o_marks o_names o_text) → va_S A s.heap H locs → lv_has ls 4 [(0, .ref a_o), (1, .int v1), (2, .int v2), (3, .int st2)] → W p l e (rmd 2) s m aa below meth cd H locs 0 0 QQ (F0 m 2 ls [])) (G := (Sum.elim (fun (e2 : Int32) => ∀ (H : Heap) (locs : List Loc) (ls : Array Slot), va_P E.1 vwCl (wd_X12_findHere E a_o a_o_at a_o_names a_o_sort a_o_trayMany a_o_trays a_o_tape a_o_text a_o_opened a_o_farBy a_o_attendsBy a_o_coveredBy a_o_cameBy a_o_cameThen a_o_fallsBy a_o_loops a_o_ran a_o_told1 o_status o_top o_bottom o_taped o_size o_token o_from o_end o_value o_faultKind o_faultPlace o_faults o_seen o_toldParts o_depth o_counted o_becameThen o_firstCorner o_drawn o_ranSteps o_isTold o_marks o_names o_text) H → va_D A (wd_X12_findHere E a_o a_o_at a_o_names a_o_sort a_o_trayMany a_o_trays a_o_tape a_o_text a_o_opened a_o_farBy a_o_attendsBy a_o_coveredBy a_o_cameBy a_o_cameThen a_o_fallsBy a_o_loops a_o_ran a_o_told1 o_status o_top o_bottom o_taped o_size o_token o_from o_end o_value o_faultKind o_faultPlace o_faults o_seen o_toldParts o_depth o_counted o_becameThen o_firstCorner o_drawn o_ranSteps o_isTold o_marks o_names o_text) → va_S A s.heap H locs → lv_has ls 4 [(3, .int e2)] → W p l e (rmd 2) s m aa below meth cd H locs 0 0 QQ (F0 m 23 ls [])) (fun (e2 : Unit) => ∀ (H : Heap) (locs : List Loc) (ls : Array Slot), va_P E.1 vwCl (wd_X12_findHere E a_o a_o_at a_o_names a_o_sort a_o_trayMany a_o_trays a_o_tape a_o_text a_o_opened a_o_farBy a_o_attendsBy a_o_coveredBy a_o_cameBy a_o_cameThen a_o_fallsBy a_o_loops a_o_ran a_o_told1 o_status o_top o_bottom o_taped o_size o_token o_from o_end o_value o_faultKind o_faultPlace o_faults o_seen o_toldParts o_depth o_counted o_becameThen o_firstCorner o_drawn o_ranSteps o_isTold o_marks o_names o_text) H → va_D A (wd_X12_findHere E a_o a_o_at a_o_names a_o_sort a_o_trayMany a_o_trays a_o_tape a_o_text a_o_opened a_o_farBy a_o_attendsBy a_o_coveredBy a_o_cameBy a_o_cameThen a_o_fallsBy a_o_loops a_o_ran a_o_told1 o_status o_top o_bottom o_taped o_size o_token o_from o_end o_value o_faultKind o_faultPlace o_faults o_seen o_toldParts o_depth o_counted o_becameThen o_firstCorner o_drawn o_ranSteps o_isTold o_marks o_names o_text) → va_S A s.heap H locs → lv_has ls 4 [] → W p l e (rmd 2) s m aa below meth cd H locs 0 0 QQ (F0 m 31 ls [])))) ?_ F 0 e2 hit2 ?_ _ _ _ hP hD hS (lv_sub hl [1, 2, 3, 0] rfl)
  · intro st2 r2 hf hk2 he2 H locs ls hP hD hS hl
    unfold X12_findHere_b2 at hf
    refine lv_iload_n hx hb dX12_findHere_2 rfl (lv_at hl 3 rfl) ?_
    refine lv_iload_n hx hb dX12_findHere_3 rfl (lv_at hl 2 rfl) ?_
    refine lv_icmp_ge (tgt := 31) hx hb dX12_findHere_4 (by decide) (fun hc => ?_) (fun hc => ?_)
    · have hf := it_t hc hf
      exact he2 _ (Option.some.inj hf).symm _ _ _ hP hD hS (lv_sub hl [] rfl)
    · have hf := it_f hc hf
      refine lv_aload_n hx hb dX12_findHere_7 rfl (lv_at hl 0 rfl) ?_
      refine va_get (D := E.1) (ci := 12) (v := .ref a_o_names) (C := RX12) (T := TX12) (N := 39) hx hb hts inX12 hown hK hP 0 rfl rfl 1 (by decide) (hts _ fl_X12_13) (fun _ h9 => h9) rfl dX12_findHere_8 ?_
      refine lv_iload_n hx hb dX12_findHere_11 rfl (lv_at hl 1 rfl) ?_
      refine lv_iload_n hx hb dX12_findHere_12 rfl (lv_at hl 3 rfl) ?_
      refine lv_iadd hx hb dX12_findHere_13 ?_
      obtain ⟨hi, hf⟩ := ck hf
      refine r_lald 1 cx hP rfl hi dX12_findHere_14 ?_
      refine lv_aload_n hx hb dX12_findHere_15 rfl (lv_at hl 0 rfl) ?_
      obtain ⟨u16, hu16, hf⟩ := bd hf
      refine keepVL (ct_X12_nameHere l E F a_o a_o_at a_o_names a_o_sort a_o_trayMany a_o_trays a_o_tape a_o_text a_o_opened a_o_farBy a_o_attendsBy a_o_coveredBy a_o_cameBy a_o_cameThen a_o_fallsBy a_o_loops a_o_ran a_o_told1 o_status o_top o_bottom o_taped o_size o_token o_from o_end o_value o_faultKind o_faultPlace o_faults o_seen o_toldParts o_depth o_counted o_becameThen o_firstCorner o_drawn o_ranSteps o_isTold o_marks o_text u16 hu16) [0, 2] cal_X12_nameHere cav_X12_nameHere lk_X12_174 cx hP hD hS hl dX12_findHere_16 rfl rfl rfl rfl (Nat.le_of_ble_eq_true rfl) ⟨Nat.le_of_ble_eq_true rfl, Nat.le_of_ble_eq_true rfl⟩ rfl (by decide) (fun H locs hP hS => ?_)
      refine W.lcmp hx hb dX12_findHere_19 ?_
      refine lv_if_ne (tgt := 25) hx hb dX12_findHere_20 (by decide) (fun hc => ?_) (fun hc => ?_)
      · have hf := it_f hc hf
        refine lv_iinc (v := (st2 + 1)) (lv' := [(3, .int (st2 + 1)), (0, .ref a_o), (1, .int v1), (2, .int v2)]) hx hb dX12_findHere_25 hl (k := 3) rfl rfl (by decide) rfl (fun ls hl => ?_)
        refine lv_goto (tgt := 2) hx hb dX12_findHere_28 (by decide) ?_
        exact hk2 _ (Option.some.inj hf).symm _ _ _ hP hD hS (lv_sub hl [1, 2, 3, 0] rfl)
      · have hf := it_t hc hf
        exact he2 _ (Option.some.inj hf).symm _ _ _ hP hD hS (lv_sub hl [3] rfl)
  · rcases e2 with e2 | e2
    · have hf := se_l hf
      refine fun H locs ls hP hD hS hl => ?_
      refine lv_iload_n hx hb dX12_findHere_23 rfl (lv_at hl 0 rfl) ?_
      obtain rfl := Option.some.inj hf
      subst hq
      exact retI cx hP hD hS dX12_findHere_24
    · have hf := se_r hf
      refine fun H locs ls hP hD hS hl => ?_
      refine lv_iconst (v := (-1)) hx hb dX12_findHere_31 (by decide) ?_
      obtain rfl := Option.some.inj hf
      subst hq
      exact retI cx hP hD hS dX12_findHere_32
def X12_fault (o_faultKind : Int32) (o_faultPlace : Int32) (v1 : Int32) : Option (Int32) :=
  if v1 = 0 then
  some o_faultKind
  else
  if v1 = 1 then
  some o_faultPlace
  else
  some (-1)
abbrev wd_X12_fault (E : vE) (a_o a_o_at a_o_names a_o_sort a_o_trayMany a_o_trays a_o_tape a_o_text a_o_opened a_o_farBy a_o_attendsBy a_o_coveredBy a_o_cameBy a_o_cameThen a_o_fallsBy a_o_loops a_o_ran a_o_told1 : Nat) (o_status : Int32) (o_top : Int64) (o_bottom : Int64) (o_taped : Int32) (o_size : Int32) (o_token : Int32) (o_from : Int32) (o_end : Int32) (o_value : Int32) (o_faultKind : Int32) (o_faultPlace : Int32) (o_faults : Int32) (o_seen : Int32) (o_toldParts : Int32) (o_depth : Int32) (o_counted : Int32) (o_becameThen : Int32) (o_firstCorner : Int32) (o_drawn : Int32) (o_ranSteps : Int32) (o_isTold : Int32) (o_marks : Int32) : va_W := [(a_o, .inr (12, [.ref a_o_at, .ref a_o_names, .int o_status, .long o_top, .long o_bottom, .ref a_o_sort, .ref a_o_trayMany, .ref a_o_trays, .ref a_o_tape, .ref a_o_text, .int o_taped, .int o_size, .int o_token, .int o_from, .int o_end, .int o_value, .int o_faultKind, .int o_faultPlace, .int o_faults, .int o_seen, .int o_toldParts, .ref a_o_opened, .int o_depth, .int o_counted, .ref a_o_farBy, .int o_becameThen, .ref a_o_attendsBy, .ref a_o_coveredBy, .ref a_o_cameBy, .ref a_o_cameThen, .int o_firstCorner, .ref a_o_fallsBy, .int o_drawn, .int o_ranSteps, .ref a_o_loops, .ref a_o_ran, .ref a_o_told1, .int o_isTold, .int o_marks]))]
set_option maxHeartbeats 4000000 in
set_option maxRecDepth 100000 in
theorem ct_X12_fault (l : Launch) (E : vE) (a_o a_o_at a_o_names a_o_sort a_o_trayMany a_o_trays a_o_tape a_o_text a_o_opened a_o_farBy a_o_attendsBy a_o_coveredBy a_o_cameBy a_o_cameThen a_o_fallsBy a_o_loops a_o_ran a_o_told1 : Nat) (o_status : Int32) (o_top : Int64) (o_bottom : Int64) (o_taped : Int32) (o_size : Int32) (o_token : Int32) (o_from : Int32) (o_end : Int32) (o_value : Int32) (o_faultKind : Int32) (o_faultPlace : Int32) (o_faults : Int32) (o_seen : Int32) (o_toldParts : Int32) (o_depth : Int32) (o_counted : Int32) (o_becameThen : Int32) (o_firstCorner : Int32) (o_drawn : Int32) (o_ranSteps : Int32) (o_isTold : Int32) (o_marks : Int32) (v1 : Int32) (u : Int32) (hf : X12_fault o_faultKind o_faultPlace v1 = some u) :
    CtI l yX12_fault cX12_fault 2 (some .int) 0 E [.ref a_o, .int v1] (wd_X12_fault E a_o a_o_at a_o_names a_o_sort a_o_trayMany a_o_trays a_o_tape a_o_text a_o_opened a_o_farBy a_o_attendsBy a_o_coveredBy a_o_cameBy a_o_cameThen a_o_fallsBy a_o_loops a_o_ran a_o_told1 o_status o_top o_bottom o_taped o_size o_token o_from o_end o_value o_faultKind o_faultPlace o_faults o_seen o_toldParts o_depth o_counted o_becameThen o_firstCorner o_drawn o_ranSteps o_isTold o_marks) (wd_X12_fault E a_o a_o_at a_o_names a_o_sort a_o_trayMany a_o_trays a_o_tape a_o_text a_o_opened a_o_farBy a_o_attendsBy a_o_coveredBy a_o_cameBy a_o_cameThen a_o_fallsBy a_o_loops a_o_ran a_o_told1 o_status o_top o_bottom o_taped o_size o_token o_from o_end o_value o_faultKind o_faultPlace o_faults o_seen o_toldParts o_depth o_counted o_becameThen o_firstCorner o_drawn o_ranSteps o_isTold o_marks) u := by
  refine ctI (by decide) (Nat.le_of_ble_eq_true rfl) ?_
  intro p e s m below meth cd A ls aa QQ hq cx hP hD hS hl
  obtain ⟨⟨hx, hb, hml, hown, hts⟩, hr, hlocks, hK, hA, hX⟩ := id cx
  have hl : lv_has ls 2 [(0, .ref a_o), (1, .int v1)] := hl
  unfold X12_fault at hf
  refine lv_iload_n hx hb dX12_fault_0 rfl (lv_at hl 1 rfl) ?_
  refine lv_if_ne (tgt := 11) hx hb dX12_fault_1 (by decide) (fun hc => ?_) (fun hc => ?_)
  · have hf := it_f hc hf
    refine lv_iload_n hx hb dX12_fault_11 rfl (lv_at hl 1 rfl) ?_
    refine lv_iconst (v := 1) hx hb dX12_fault_12 (by decide) ?_
    refine lv_icmp_ne (tgt := 23) hx hb dX12_fault_13 (by decide) (fun hc => ?_) (fun hc => ?_)
    · have hf := it_f hc hf
      refine lv_iconst (v := (-1)) hx hb dX12_fault_23 (by decide) ?_
      obtain rfl := Option.some.inj hf
      subst hq
      exact retI cx hP hD hS dX12_fault_24
    · have hf := it_t hc hf
      refine lv_aload_n hx hb dX12_fault_16 rfl (lv_at hl 0 rfl) ?_
      refine va_get (D := E.1) (ci := 12) (v := .int o_faultPlace) (C := RX12) (T := TX12) (N := 39) hx hb hts inX12 hown hK hP 0 rfl rfl 17 (by decide) (hts _ fl_X12_41) (fun _ h9 => h9) rfl dX12_fault_17 ?_
      refine lv_goto (tgt := 24) hx hb dX12_fault_20 (by decide) ?_
      obtain rfl := Option.some.inj hf
      subst hq
      exact retI cx hP hD hS dX12_fault_24
  · have hf := it_t hc hf
    refine lv_aload_n hx hb dX12_fault_4 rfl (lv_at hl 0 rfl) ?_
    refine va_get (D := E.1) (ci := 12) (v := .int o_faultKind) (C := RX12) (T := TX12) (N := 39) hx hb hts inX12 hown hK hP 0 rfl rfl 16 (by decide) (hts _ fl_X12_37) (fun _ h9 => h9) rfl dX12_fault_5 ?_
    refine lv_goto (tgt := 24) hx hb dX12_fault_8 (by decide) ?_
    obtain rfl := Option.some.inj hf
    subst hq
    exact retI cx hP hD hS dX12_fault_24
def X12_taken (o_status : Int32) (o_faultKind : Int32) (o_faults : Int32) (v1 : Int32) : Option (Int32 × Int32 × Int32) :=
  if o_faults ≤ 0 then
  (X12_gives o_status v1).bind fun u26 =>
  some (u26.1, u26.2, o_faults)
  else
  (X12_refuse o_status (9 : Int32)).bind fun u18 =>
  some (u18.1, u18.2, o_faults)
abbrev wd_X12_taken (E : vE) (a_o a_o_at a_o_names a_o_sort a_o_trayMany a_o_trays a_o_tape a_o_text a_o_opened a_o_farBy a_o_attendsBy a_o_coveredBy a_o_cameBy a_o_cameThen a_o_fallsBy a_o_loops a_o_ran a_o_told1 : Nat) (o_status : Int32) (o_top : Int64) (o_bottom : Int64) (o_taped : Int32) (o_size : Int32) (o_token : Int32) (o_from : Int32) (o_end : Int32) (o_value : Int32) (o_faultKind : Int32) (o_faultPlace : Int32) (o_faults : Int32) (o_seen : Int32) (o_toldParts : Int32) (o_depth : Int32) (o_counted : Int32) (o_becameThen : Int32) (o_firstCorner : Int32) (o_drawn : Int32) (o_ranSteps : Int32) (o_isTold : Int32) (o_marks : Int32) : va_W := [(a_o, .inr (12, [.ref a_o_at, .ref a_o_names, .int o_status, .long o_top, .long o_bottom, .ref a_o_sort, .ref a_o_trayMany, .ref a_o_trays, .ref a_o_tape, .ref a_o_text, .int o_taped, .int o_size, .int o_token, .int o_from, .int o_end, .int o_value, .int o_faultKind, .int o_faultPlace, .int o_faults, .int o_seen, .int o_toldParts, .ref a_o_opened, .int o_depth, .int o_counted, .ref a_o_farBy, .int o_becameThen, .ref a_o_attendsBy, .ref a_o_coveredBy, .ref a_o_cameBy, .ref a_o_cameThen, .int o_firstCorner, .ref a_o_fallsBy, .int o_drawn, .int o_ranSteps, .ref a_o_loops, .ref a_o_ran, .ref a_o_told1, .int o_isTold, .int o_marks]))]
set_option maxHeartbeats 4000000 in
set_option maxRecDepth 100000 in
theorem ct_X12_taken (l : Launch) (E : vE) (a_o a_o_at a_o_names a_o_sort a_o_trayMany a_o_trays a_o_tape a_o_text a_o_opened a_o_farBy a_o_attendsBy a_o_coveredBy a_o_cameBy a_o_cameThen a_o_fallsBy a_o_loops a_o_ran a_o_told1 : Nat) (o_status : Int32) (o_top : Int64) (o_bottom : Int64) (o_taped : Int32) (o_size : Int32) (o_token : Int32) (o_from : Int32) (o_end : Int32) (o_value : Int32) (o_faultKind : Int32) (o_faultPlace : Int32) (o_faults : Int32) (o_seen : Int32) (o_toldParts : Int32) (o_depth : Int32) (o_counted : Int32) (o_becameThen : Int32) (o_firstCorner : Int32) (o_drawn : Int32) (o_ranSteps : Int32) (o_isTold : Int32) (o_marks : Int32) (v1 : Int32) (u : Int32 × Int32 × Int32) (hf : X12_taken o_status o_faultKind o_faults v1 = some u) :
    CtI l yX12_taken cX12_taken 2 (some .int) 1 E [.ref a_o, .int v1] (wd_X12_taken E a_o a_o_at a_o_names a_o_sort a_o_trayMany a_o_trays a_o_tape a_o_text a_o_opened a_o_farBy a_o_attendsBy a_o_coveredBy a_o_cameBy a_o_cameThen a_o_fallsBy a_o_loops a_o_ran a_o_told1 o_status o_top o_bottom o_taped o_size o_token o_from o_end o_value o_faultKind o_faultPlace o_faults o_seen o_toldParts o_depth o_counted o_becameThen o_firstCorner o_drawn o_ranSteps o_isTold o_marks) (wd_X12_taken E a_o a_o_at a_o_names a_o_sort a_o_trayMany a_o_trays a_o_tape a_o_text a_o_opened a_o_farBy a_o_attendsBy a_o_coveredBy a_o_cameBy a_o_cameThen a_o_fallsBy a_o_loops a_o_ran a_o_told1 u.2.1 o_top o_bottom o_taped o_size o_token o_from o_end o_value u.2.2 o_faultPlace o_faults o_seen o_toldParts o_depth o_counted o_becameThen o_firstCorner o_drawn o_ranSteps o_isTold o_marks) u.1 := by
  refine ctI (by decide) (Nat.le_of_ble_eq_true rfl) ?_
  intro p e s m below meth cd A ls aa QQ hq cx hP hD hS hl
  obtain ⟨⟨hx, hb, hml, hown, hts⟩, hr, hlocks, hK, hA, hX⟩ := id cx
  have hl : lv_has ls 2 [(0, .ref a_o), (1, .int v1)] := hl
  unfold X12_taken at hf
  refine lv_aload_n hx hb dX12_taken_0 rfl (lv_at hl 0 rfl) ?_
  refine lv_aload_n hx hb dX12_taken_1 rfl (lv_at hl 0 rfl) ?_
  refine va_get (D := E.1) (ci := 12) (v := .int o_faults) (C := RX12) (T := TX12) (N := 39) hx hb hts inX12 hown hK hP 0 rfl rfl 18 (by decide) (hts _ fl_X12_155) (fun _ h9 => h9) rfl dX12_taken_2 ?_
  refine va_put (D := E.1) (ci := 12) (v := .int o_faults) (ty := .int) (C := RX12) (T := TX12) (N := 39) hx hb hts inX12 tyX12 tyX12_ok nmX12 hown hK hP hD hS 0 rfl rfl 16 (by decide) (hts _ fl_X12_37) (fun _ h9 => h9) rfl (by decide +kernel) rfl rfl (Nat.le_of_ble_eq_true rfl) dX12_taken_5 (fun H locs hP hD hS => ?_)
  have hP : va_P E.1 vwCl (wd_X12_taken E a_o a_o_at a_o_names a_o_sort a_o_trayMany a_o_trays a_o_tape a_o_text a_o_opened a_o_farBy a_o_attendsBy a_o_coveredBy a_o_cameBy a_o_cameThen a_o_fallsBy a_o_loops a_o_ran a_o_told1 o_status o_top o_bottom o_taped o_size o_token o_from o_end o_value o_faults o_faultPlace o_faults o_seen o_toldParts o_depth o_counted o_becameThen o_firstCorner o_drawn o_ranSteps o_isTold o_marks) H := hP
  have hD : va_D A (wd_X12_taken E a_o a_o_at a_o_names a_o_sort a_o_trayMany a_o_trays a_o_tape a_o_text a_o_opened a_o_farBy a_o_attendsBy a_o_coveredBy a_o_cameBy a_o_cameThen a_o_fallsBy a_o_loops a_o_ran a_o_told1 o_status o_top o_bottom o_taped o_size o_token o_from o_end o_value o_faults o_faultPlace o_faults o_seen o_toldParts o_depth o_counted o_becameThen o_firstCorner o_drawn o_ranSteps o_isTold o_marks) := hD
  refine lv_aload_n hx hb dX12_taken_8 rfl (lv_at hl 0 rfl) ?_
  refine va_get (D := E.1) (ci := 12) (v := .int o_faults) (C := RX12) (T := TX12) (N := 39) hx hb hts inX12 hown hK hP 0 rfl rfl 18 (by decide) (hts _ fl_X12_155) (fun _ h9 => h9) rfl dX12_taken_9 ?_
  refine lv_if_le (tgt := 24) hx hb dX12_taken_12 (by decide) (fun hc => ?_) (fun hc => ?_)
  · have hf := it_t hc hf
    refine lv_aload_n hx hb dX12_taken_24 rfl (lv_at hl 0 rfl) ?_
    refine lv_iload_n hx hb dX12_taken_25 rfl (lv_at hl 1 rfl) ?_
    obtain ⟨u26, hu26, hf⟩ := bd hf
    refine callVI (wn := (wd_X12_taken E a_o a_o_at a_o_names a_o_sort a_o_trayMany a_o_trays a_o_tape a_o_text a_o_opened a_o_farBy a_o_attendsBy a_o_coveredBy a_o_cameBy a_o_cameThen a_o_fallsBy a_o_loops a_o_ran a_o_told1 u26.2 o_top o_bottom o_taped o_size o_token o_from o_end o_value o_faults o_faultPlace o_faults o_seen o_toldParts o_depth o_counted o_becameThen o_firstCorner o_drawn o_ranSteps o_isTold o_marks)) (n1 := 1) (ct_X12_gives l E a_o a_o_at a_o_names a_o_sort a_o_trayMany a_o_trays a_o_tape a_o_text a_o_opened a_o_farBy a_o_attendsBy a_o_coveredBy a_o_cameBy a_o_cameThen a_o_fallsBy a_o_loops a_o_ran a_o_told1 o_status o_top o_bottom o_taped o_size o_token o_from o_end o_value o_faults o_faultPlace o_faults o_seen o_toldParts o_depth o_counted o_becameThen o_firstCorner o_drawn o_ranSteps o_isTold o_marks v1 u26 hu26) [0] cal_X12_gives cav_X12_gives lk_X12_89 cx hP hD hS hl dX12_taken_26 rfl rfl rfl rfl (Nat.le_of_ble_eq_true rfl) ⟨Nat.le_of_ble_eq_true rfl, Nat.le_of_ble_eq_true rfl⟩ rfl (by decide +kernel) rfl [some 0] rfl (by decide +kernel) rfl (fun H locs hP hD hS => ?_)
    obtain rfl := Option.some.inj hf
    subst hq
    exact retI cx hP hD hS dX12_taken_29
  · have hf := it_f hc hf
    refine lv_aload_n hx hb dX12_taken_15 rfl (lv_at hl 0 rfl) ?_
    refine lv_bipush (v := 9) hx hb dX12_taken_16 (by decide) ?_
    obtain ⟨u18, hu18, hf⟩ := bd hf
    refine callVI (wn := (wd_X12_taken E a_o a_o_at a_o_names a_o_sort a_o_trayMany a_o_trays a_o_tape a_o_text a_o_opened a_o_farBy a_o_attendsBy a_o_coveredBy a_o_cameBy a_o_cameThen a_o_fallsBy a_o_loops a_o_ran a_o_told1 u18.2 o_top o_bottom o_taped o_size o_token o_from o_end o_value o_faults o_faultPlace o_faults o_seen o_toldParts o_depth o_counted o_becameThen o_firstCorner o_drawn o_ranSteps o_isTold o_marks)) (n1 := 1) (ct_X12_refuse l E a_o a_o_at a_o_names a_o_sort a_o_trayMany a_o_trays a_o_tape a_o_text a_o_opened a_o_farBy a_o_attendsBy a_o_coveredBy a_o_cameBy a_o_cameThen a_o_fallsBy a_o_loops a_o_ran a_o_told1 o_status o_top o_bottom o_taped o_size o_token o_from o_end o_value o_faults o_faultPlace o_faults o_seen o_toldParts o_depth o_counted o_becameThen o_firstCorner o_drawn o_ranSteps o_isTold o_marks (9 : Int32) u18 hu18) [0] cal_X12_refuse cav_X12_refuse lk_X12_85 cx hP hD hS hl dX12_taken_18 rfl rfl rfl rfl (Nat.le_of_ble_eq_true rfl) ⟨Nat.le_of_ble_eq_true rfl, Nat.le_of_ble_eq_true rfl⟩ rfl (by decide +kernel) rfl [some 0] rfl (by decide +kernel) rfl (fun H locs hP hD hS => ?_)
    refine lv_goto (tgt := 29) hx hb dX12_taken_21 (by decide) ?_
    obtain rfl := Option.some.inj hf
    subst hq
    exact retI cx hP hD hS dX12_taken_29
def X12_isTaken_j75 (F : Nat) (o_size : Int32) (o_from : Int32) (o_end : Int32) (o_at : Nat → Int32) (o_names : Nat → Int64) (o_text : Nat → Int32) : Option (Int32) :=
  some 1
def X12_isTaken (F : Nat) (o_size : Int32) (o_from : Int32) (o_end : Int32) (o_at : Nat → Int32) (o_names : Nat → Int64) (o_text : Nat → Int32) : Option (Int32) :=
  if ix 1980 3097 then
  (X12_findHere F o_size o_from o_end o_names o_text (108 : Int32) (jat o_at 1980)).bind fun u11 =>
  if u11 = (-1) then
  if ix 1982 3097 then
  (X12_findHere F o_size o_from o_end o_names o_text (116 : Int32) (jat o_at 1982)).bind fun u29 =>
  if u29 = (-1) then
  if ix 1983 3097 then
  (X12_findHere F o_size o_from o_end o_names o_text (123 : Int32) (jat o_at 1983)).bind fun u49 =>
  if u49 = (-1) then
  if ix 1984 3097 then
  (X12_findHere F o_size o_from o_end o_names o_text (131 : Int32) (jat o_at 1984)).bind fun u68 =>
  if u68 = (-1) then
  some 0
  else
  X12_isTaken_j75 F o_size o_from o_end o_at o_names o_text
  else none
  else
  X12_isTaken_j75 F o_size o_from o_end o_at o_names o_text
  else none
  else
  some 1
  else none
  else
  some 1
  else none
abbrev wd_X12_isTaken (E : vE) (a_o a_o_at a_o_names a_o_sort a_o_trayMany a_o_trays a_o_tape a_o_text a_o_opened a_o_farBy a_o_attendsBy a_o_coveredBy a_o_cameBy a_o_cameThen a_o_fallsBy a_o_loops a_o_ran a_o_told1 : Nat) (o_status : Int32) (o_top : Int64) (o_bottom : Int64) (o_taped : Int32) (o_size : Int32) (o_token : Int32) (o_from : Int32) (o_end : Int32) (o_value : Int32) (o_faultKind : Int32) (o_faultPlace : Int32) (o_faults : Int32) (o_seen : Int32) (o_toldParts : Int32) (o_depth : Int32) (o_counted : Int32) (o_becameThen : Int32) (o_firstCorner : Int32) (o_drawn : Int32) (o_ranSteps : Int32) (o_isTold : Int32) (o_marks : Int32) (o_at : Nat → Int32) (o_names : Nat → Int64) (o_text : Nat → Int32) : va_W := [(a_o, .inr (12, [.ref a_o_at, .ref a_o_names, .int o_status, .long o_top, .long o_bottom, .ref a_o_sort, .ref a_o_trayMany, .ref a_o_trays, .ref a_o_tape, .ref a_o_text, .int o_taped, .int o_size, .int o_token, .int o_from, .int o_end, .int o_value, .int o_faultKind, .int o_faultPlace, .int o_faults, .int o_seen, .int o_toldParts, .ref a_o_opened, .int o_depth, .int o_counted, .ref a_o_farBy, .int o_becameThen, .ref a_o_attendsBy, .ref a_o_coveredBy, .ref a_o_cameBy, .ref a_o_cameThen, .int o_firstCorner, .ref a_o_fallsBy, .int o_drawn, .int o_ranSteps, .ref a_o_loops, .ref a_o_ran, .ref a_o_told1, .int o_isTold, .int o_marks])), (a_o_at, .inl (E.2.1, 3097, .inl o_at)), (a_o_names, .inl (E.2.2.1, 162, .inr (.inl o_names))), (a_o_text, .inl (E.2.2.2.1, 900, .inl o_text))]
set_option maxHeartbeats 4000000 in
set_option maxRecDepth 100000 in
theorem ct_X12_isTaken (l : Launch) (E : vE) (F : Nat) (a_o a_o_at a_o_names a_o_sort a_o_trayMany a_o_trays a_o_tape a_o_text a_o_opened a_o_farBy a_o_attendsBy a_o_coveredBy a_o_cameBy a_o_cameThen a_o_fallsBy a_o_loops a_o_ran a_o_told1 : Nat) (o_status : Int32) (o_top : Int64) (o_bottom : Int64) (o_taped : Int32) (o_size : Int32) (o_token : Int32) (o_from : Int32) (o_end : Int32) (o_value : Int32) (o_faultKind : Int32) (o_faultPlace : Int32) (o_faults : Int32) (o_seen : Int32) (o_toldParts : Int32) (o_depth : Int32) (o_counted : Int32) (o_becameThen : Int32) (o_firstCorner : Int32) (o_drawn : Int32) (o_ranSteps : Int32) (o_isTold : Int32) (o_marks : Int32) (o_at : Nat → Int32) (o_names : Nat → Int64) (o_text : Nat → Int32) (u : Int32) (hf : X12_isTaken F o_size o_from o_end o_at o_names o_text = some u) :
    CtI l yX12_isTaken cX12_isTaken 1 (some .boolean) 3 E [.ref a_o] (wd_X12_isTaken E a_o a_o_at a_o_names a_o_sort a_o_trayMany a_o_trays a_o_tape a_o_text a_o_opened a_o_farBy a_o_attendsBy a_o_coveredBy a_o_cameBy a_o_cameThen a_o_fallsBy a_o_loops a_o_ran a_o_told1 o_status o_top o_bottom o_taped o_size o_token o_from o_end o_value o_faultKind o_faultPlace o_faults o_seen o_toldParts o_depth o_counted o_becameThen o_firstCorner o_drawn o_ranSteps o_isTold o_marks o_at o_names o_text) (wd_X12_isTaken E a_o a_o_at a_o_names a_o_sort a_o_trayMany a_o_trays a_o_tape a_o_text a_o_opened a_o_farBy a_o_attendsBy a_o_coveredBy a_o_cameBy a_o_cameThen a_o_fallsBy a_o_loops a_o_ran a_o_told1 o_status o_top o_bottom o_taped o_size o_token o_from o_end o_value o_faultKind o_faultPlace o_faults o_seen o_toldParts o_depth o_counted o_becameThen o_firstCorner o_drawn o_ranSteps o_isTold o_marks o_at o_names o_text) u := by
  refine ctI (by decide) (Nat.le_of_ble_eq_true rfl) ?_
  intro p e s m below meth cd A ls aa QQ hq cx hP hD hS hl
  obtain ⟨⟨hx, hb, hml, hown, hts⟩, hr, hlocks, hK, hA, hX⟩ := id cx
  have hl : lv_has ls 1 [(0, .ref a_o)] := hl
  have hj75 : ∀ (H : Heap) (locs : List Loc) (ls : Array Slot), X12_isTaken_j75 F o_size o_from o_end o_at o_names o_text = some u → va_P E.1 vwCl (wd_X12_isTaken E a_o a_o_at a_o_names a_o_sort a_o_trayMany a_o_trays a_o_tape a_o_text a_o_opened a_o_farBy a_o_attendsBy a_o_coveredBy a_o_cameBy a_o_cameThen a_o_fallsBy a_o_loops a_o_ran a_o_told1 o_status o_top o_bottom o_taped o_size o_token o_from o_end o_value o_faultKind o_faultPlace o_faults o_seen o_toldParts o_depth o_counted o_becameThen o_firstCorner o_drawn o_ranSteps o_isTold o_marks o_at o_names o_text) H → va_D A (wd_X12_isTaken E a_o a_o_at a_o_names a_o_sort a_o_trayMany a_o_trays a_o_tape a_o_text a_o_opened a_o_farBy a_o_attendsBy a_o_coveredBy a_o_cameBy a_o_cameThen a_o_fallsBy a_o_loops a_o_ran a_o_told1 o_status o_top o_bottom o_taped o_size o_token o_from o_end o_value o_faultKind o_faultPlace o_faults o_seen o_toldParts o_depth o_counted o_becameThen o_firstCorner o_drawn o_ranSteps o_isTold o_marks o_at o_names o_text) → va_S A s.heap H locs → lv_has ls 1 [] → W p l e (rmd 3) s m aa below meth cd H locs 0 0 QQ (F0 m 75 ls []) := by
    intro H locs ls hf hP hD hS hl
    unfold X12_isTaken_j75 at hf
    refine lv_iconst (v := 1) hx hb dX12_isTaken_75 (by decide) ?_
    refine lv_goto (tgt := 80) hx hb dX12_isTaken_76 (by decide) ?_
    obtain rfl := Option.some.inj hf
    subst hq
    exact retZ cx rfl hP hD hS dX12_isTaken_80
  unfold X12_isTaken at hf
  refine lv_aload_n hx hb dX12_isTaken_0 rfl (lv_at hl 0 rfl) ?_
  refine lv_bipush (v := 108) hx hb dX12_isTaken_1 (by decide) ?_
  refine lv_aload_n hx hb dX12_isTaken_3 rfl (lv_at hl 0 rfl) ?_
  refine va_get (D := E.1) (ci := 12) (v := .ref a_o_at) (C := RX12) (T := TX12) (N := 39) hx hb hts inX12 hown hK hP 0 rfl rfl 0 (by decide) (hts _ fl_X12_7) (fun _ h9 => h9) rfl dX12_isTaken_4 ?_
  refine lv_sipush (v := 1980) hx hb dX12_isTaken_7 (by decide) ?_
  obtain ⟨hi, hf⟩ := ck hf
  refine r_iald 1 cx hP rfl hi dX12_isTaken_10 ?_
  obtain ⟨u11, hu11, hf⟩ := bd hf
  refine keepVI (ct_X12_findHere l E F a_o a_o_at a_o_names a_o_sort a_o_trayMany a_o_trays a_o_tape a_o_text a_o_opened a_o_farBy a_o_attendsBy a_o_coveredBy a_o_cameBy a_o_cameThen a_o_fallsBy a_o_loops a_o_ran a_o_told1 o_status o_top o_bottom o_taped o_size o_token o_from o_end o_value o_faultKind o_faultPlace o_faults o_seen o_toldParts o_depth o_counted o_becameThen o_firstCorner o_drawn o_ranSteps o_isTold o_marks o_names o_text (108 : Int32) (jat o_at 1980) u11 hu11) [0, 2, 3] cal_X12_findHere cav_X12_findHere lk_X12_178 cx hP hD hS hl dX12_isTaken_11 rfl rfl rfl rfl (Nat.le_of_ble_eq_true rfl) ⟨Nat.le_of_ble_eq_true rfl, Nat.le_of_ble_eq_true rfl⟩ rfl (by decide) (fun H locs hP hS => ?_)
  refine lv_iconst (v := (-1)) hx hb dX12_isTaken_14 (by decide) ?_
  refine lv_icmp_ne (tgt := 36) hx hb dX12_isTaken_15 (by decide) (fun hc => ?_) (fun hc => ?_)
  · have hf := it_f hc hf
    refine lv_iconst (v := 1) hx hb dX12_isTaken_36 (by decide) ?_
    obtain rfl := Option.some.inj hf
    subst hq
    exact retZ cx rfl hP hD hS dX12_isTaken_37
  · have hf := it_t hc hf
    refine lv_aload_n hx hb dX12_isTaken_18 rfl (lv_at hl 0 rfl) ?_
    refine lv_bipush (v := 116) hx hb dX12_isTaken_19 (by decide) ?_
    refine lv_aload_n hx hb dX12_isTaken_21 rfl (lv_at hl 0 rfl) ?_
    refine va_get (D := E.1) (ci := 12) (v := .ref a_o_at) (C := RX12) (T := TX12) (N := 39) hx hb hts inX12 hown hK hP 0 rfl rfl 0 (by decide) (hts _ fl_X12_7) (fun _ h9 => h9) rfl dX12_isTaken_22 ?_
    refine lv_sipush (v := 1982) hx hb dX12_isTaken_25 (by decide) ?_
    obtain ⟨hi, hf⟩ := ck hf
    refine r_iald 1 cx hP rfl hi dX12_isTaken_28 ?_
    obtain ⟨u29, hu29, hf⟩ := bd hf
    refine keepVI (ct_X12_findHere l E F a_o a_o_at a_o_names a_o_sort a_o_trayMany a_o_trays a_o_tape a_o_text a_o_opened a_o_farBy a_o_attendsBy a_o_coveredBy a_o_cameBy a_o_cameThen a_o_fallsBy a_o_loops a_o_ran a_o_told1 o_status o_top o_bottom o_taped o_size o_token o_from o_end o_value o_faultKind o_faultPlace o_faults o_seen o_toldParts o_depth o_counted o_becameThen o_firstCorner o_drawn o_ranSteps o_isTold o_marks o_names o_text (116 : Int32) (jat o_at 1982) u29 hu29) [0, 2, 3] cal_X12_findHere cav_X12_findHere lk_X12_178 cx hP hD hS hl dX12_isTaken_29 rfl rfl rfl rfl (Nat.le_of_ble_eq_true rfl) ⟨Nat.le_of_ble_eq_true rfl, Nat.le_of_ble_eq_true rfl⟩ rfl (by decide) (fun H locs hP hS => ?_)
    refine lv_iconst (v := (-1)) hx hb dX12_isTaken_32 (by decide) ?_
    refine lv_icmp_eq (tgt := 38) hx hb dX12_isTaken_33 (by decide) (fun hc => ?_) (fun hc => ?_)
    · have hf := it_t hc hf
      refine lv_aload_n hx hb dX12_isTaken_38 rfl (lv_at hl 0 rfl) ?_
      refine lv_bipush (v := 123) hx hb dX12_isTaken_39 (by decide) ?_
      refine lv_aload_n hx hb dX12_isTaken_41 rfl (lv_at hl 0 rfl) ?_
      refine va_get (D := E.1) (ci := 12) (v := .ref a_o_at) (C := RX12) (T := TX12) (N := 39) hx hb hts inX12 hown hK hP 0 rfl rfl 0 (by decide) (hts _ fl_X12_7) (fun _ h9 => h9) rfl dX12_isTaken_42 ?_
      refine lv_sipush (v := 1983) hx hb dX12_isTaken_45 (by decide) ?_
      obtain ⟨hi, hf⟩ := ck hf
      refine r_iald 1 cx hP rfl hi dX12_isTaken_48 ?_
      obtain ⟨u49, hu49, hf⟩ := bd hf
      refine keepVI (ct_X12_findHere l E F a_o a_o_at a_o_names a_o_sort a_o_trayMany a_o_trays a_o_tape a_o_text a_o_opened a_o_farBy a_o_attendsBy a_o_coveredBy a_o_cameBy a_o_cameThen a_o_fallsBy a_o_loops a_o_ran a_o_told1 o_status o_top o_bottom o_taped o_size o_token o_from o_end o_value o_faultKind o_faultPlace o_faults o_seen o_toldParts o_depth o_counted o_becameThen o_firstCorner o_drawn o_ranSteps o_isTold o_marks o_names o_text (123 : Int32) (jat o_at 1983) u49 hu49) [0, 2, 3] cal_X12_findHere cav_X12_findHere lk_X12_178 cx hP hD hS hl dX12_isTaken_49 rfl rfl rfl rfl (Nat.le_of_ble_eq_true rfl) ⟨Nat.le_of_ble_eq_true rfl, Nat.le_of_ble_eq_true rfl⟩ rfl (by decide) (fun H locs hP hS => ?_)
      refine lv_iconst (v := (-1)) hx hb dX12_isTaken_52 (by decide) ?_
      refine lv_icmp_ne (tgt := 75) hx hb dX12_isTaken_53 (by decide) (fun hc => ?_) (fun hc => ?_)
      · have hf := it_f hc hf
        exact hj75  _ _ _ hf hP hD hS (lv_sub hl [] rfl)
      · have hf := it_t hc hf
        refine lv_aload_n hx hb dX12_isTaken_56 rfl (lv_at hl 0 rfl) ?_
        refine lv_sipush (v := 131) hx hb dX12_isTaken_57 (by decide) ?_
        refine lv_aload_n hx hb dX12_isTaken_60 rfl (lv_at hl 0 rfl) ?_
        refine va_get (D := E.1) (ci := 12) (v := .ref a_o_at) (C := RX12) (T := TX12) (N := 39) hx hb hts inX12 hown hK hP 0 rfl rfl 0 (by decide) (hts _ fl_X12_7) (fun _ h9 => h9) rfl dX12_isTaken_61 ?_
        refine lv_sipush (v := 1984) hx hb dX12_isTaken_64 (by decide) ?_
        obtain ⟨hi, hf⟩ := ck hf
        refine r_iald 1 cx hP rfl hi dX12_isTaken_67 ?_
        obtain ⟨u68, hu68, hf⟩ := bd hf
        refine keepVI (ct_X12_findHere l E F a_o a_o_at a_o_names a_o_sort a_o_trayMany a_o_trays a_o_tape a_o_text a_o_opened a_o_farBy a_o_attendsBy a_o_coveredBy a_o_cameBy a_o_cameThen a_o_fallsBy a_o_loops a_o_ran a_o_told1 o_status o_top o_bottom o_taped o_size o_token o_from o_end o_value o_faultKind o_faultPlace o_faults o_seen o_toldParts o_depth o_counted o_becameThen o_firstCorner o_drawn o_ranSteps o_isTold o_marks o_names o_text (131 : Int32) (jat o_at 1984) u68 hu68) [0, 2, 3] cal_X12_findHere cav_X12_findHere lk_X12_178 cx hP hD hS hl dX12_isTaken_68 rfl rfl rfl rfl (Nat.le_of_ble_eq_true rfl) ⟨Nat.le_of_ble_eq_true rfl, Nat.le_of_ble_eq_true rfl⟩ rfl (by decide) (fun H locs hP hS => ?_)
        refine lv_iconst (v := (-1)) hx hb dX12_isTaken_71 (by decide) ?_
        refine lv_icmp_eq (tgt := 79) hx hb dX12_isTaken_72 (by decide) (fun hc => ?_) (fun hc => ?_)
        · have hf := it_t hc hf
          refine lv_iconst (v := 0) hx hb dX12_isTaken_79 (by decide) ?_
          obtain rfl := Option.some.inj hf
          subst hq
          exact retZ cx rfl hP hD hS dX12_isTaken_80
        · have hf := it_f hc hf
          exact hj75  _ _ _ hf hP hD hS (lv_sub hl [] rfl)
    · have hf := it_f hc hf
      refine lv_iconst (v := 1) hx hb dX12_isTaken_36 (by decide) ?_
      obtain rfl := Option.some.inj hf
      subst hq
      exact retZ cx rfl hP hD hS dX12_isTaken_37
def X12_newOne (F : Nat) (o_size : Int32) (o_token : Int32) (o_from : Int32) (o_end : Int32) (o_value : Int32) (o_faultPlace : Int32) (o_faults : Int32) (o_at : Nat → Int32) (o_names : Nat → Int64) (o_text : Nat → Int32) (v1 : Int32) (v2 : Int32) (v3 : Int32) : Option (Int32 × Int32 × Int32 × Int32 × Int32 × Int32 × Int32 × (Nat → Int64)) :=
  if ix (1980 + v1) 3097 then
  if (jat o_at (1980 + v1)) = v2 then
  (X12_fails o_token o_from o_faultPlace o_faults (6 : Int32)).bind fun u17 =>
  if isZ u17.1 then some (u17.1, o_token, o_from, o_end, o_value, u17.2.1, u17.2.2, o_names) else none
  else
  (X12_ahead F o_size o_token o_from o_end o_value o_text).bind fun u22 =>
  (X12_isName F o_size u22.1 u22.2.1 u22.2.2.1 o_text).bind fun u28 =>
  if u28 = 0 then
  (X12_fails u22.1 u22.2.1 o_faultPlace o_faults (2 : Int32)).bind fun u36 =>
  if isZ u36.1 then some (u36.1, u22.1, u22.2.1, u22.2.2.1, u22.2.2.2, u36.2.1, u36.2.2, o_names) else none
  else
  (X12_isTaken F o_size u22.2.1 u22.2.2.1 o_at o_names o_text).bind fun u41 =>
  if u41 = 0 then
  if ix (1980 + v1) 3097 then
  (X12_nameHere F o_size u22.2.1 u22.2.2.1 o_text).bind fun u73 =>
  if ix ((108 + v3) + (jat o_at (1980 + v1))) 162 then
  (X12_ahead F o_size u22.1 u22.2.1 u22.2.2.1 u22.2.2.2 o_text).bind fun u78 =>
  some (1, u78.1, u78.2.1, u78.2.2.1, u78.2.2.2, o_faultPlace, o_faults, (jputL o_names ((108 + v3) + (jat o_at (1980 + v1))) u73))
  else none
  else none
  else
  (X12_fails u22.1 u22.2.1 o_faultPlace o_faults (3 : Int32)).bind fun u49 =>
  if isZ u49.1 then some (u49.1, u22.1, u22.2.1, u22.2.2.1, u22.2.2.2, u49.2.1, u49.2.2, o_names) else none
  else none
abbrev wd_X12_newOne (E : vE) (a_o a_o_at a_o_names a_o_sort a_o_trayMany a_o_trays a_o_tape a_o_text a_o_opened a_o_farBy a_o_attendsBy a_o_coveredBy a_o_cameBy a_o_cameThen a_o_fallsBy a_o_loops a_o_ran a_o_told1 : Nat) (o_status : Int32) (o_top : Int64) (o_bottom : Int64) (o_taped : Int32) (o_size : Int32) (o_token : Int32) (o_from : Int32) (o_end : Int32) (o_value : Int32) (o_faultKind : Int32) (o_faultPlace : Int32) (o_faults : Int32) (o_seen : Int32) (o_toldParts : Int32) (o_depth : Int32) (o_counted : Int32) (o_becameThen : Int32) (o_firstCorner : Int32) (o_drawn : Int32) (o_ranSteps : Int32) (o_isTold : Int32) (o_marks : Int32) (o_at : Nat → Int32) (o_names : Nat → Int64) (o_text : Nat → Int32) : va_W := [(a_o, .inr (12, [.ref a_o_at, .ref a_o_names, .int o_status, .long o_top, .long o_bottom, .ref a_o_sort, .ref a_o_trayMany, .ref a_o_trays, .ref a_o_tape, .ref a_o_text, .int o_taped, .int o_size, .int o_token, .int o_from, .int o_end, .int o_value, .int o_faultKind, .int o_faultPlace, .int o_faults, .int o_seen, .int o_toldParts, .ref a_o_opened, .int o_depth, .int o_counted, .ref a_o_farBy, .int o_becameThen, .ref a_o_attendsBy, .ref a_o_coveredBy, .ref a_o_cameBy, .ref a_o_cameThen, .int o_firstCorner, .ref a_o_fallsBy, .int o_drawn, .int o_ranSteps, .ref a_o_loops, .ref a_o_ran, .ref a_o_told1, .int o_isTold, .int o_marks])), (a_o_at, .inl (E.2.1, 3097, .inl o_at)), (a_o_names, .inl (E.2.2.1, 162, .inr (.inl o_names))), (a_o_text, .inl (E.2.2.2.1, 900, .inl o_text))]
set_option maxHeartbeats 4000000 in
set_option maxRecDepth 100000 in
theorem ct_X12_newOne (l : Launch) (E : vE) (F : Nat) (a_o a_o_at a_o_names a_o_sort a_o_trayMany a_o_trays a_o_tape a_o_text a_o_opened a_o_farBy a_o_attendsBy a_o_coveredBy a_o_cameBy a_o_cameThen a_o_fallsBy a_o_loops a_o_ran a_o_told1 : Nat) (o_status : Int32) (o_top : Int64) (o_bottom : Int64) (o_taped : Int32) (o_size : Int32) (o_token : Int32) (o_from : Int32) (o_end : Int32) (o_value : Int32) (o_faultKind : Int32) (o_faultPlace : Int32) (o_faults : Int32) (o_seen : Int32) (o_toldParts : Int32) (o_depth : Int32) (o_counted : Int32) (o_becameThen : Int32) (o_firstCorner : Int32) (o_drawn : Int32) (o_ranSteps : Int32) (o_isTold : Int32) (o_marks : Int32) (o_at : Nat → Int32) (o_names : Nat → Int64) (o_text : Nat → Int32) (v1 : Int32) (v2 : Int32) (v3 : Int32) (u : Int32 × Int32 × Int32 × Int32 × Int32 × Int32 × Int32 × (Nat → Int64)) (hf : X12_newOne F o_size o_token o_from o_end o_value o_faultPlace o_faults o_at o_names o_text v1 v2 v3 = some u) :
    CtI l yX12_newOne cX12_newOne 4 (some .boolean) 6 E [.ref a_o, .int v1, .int v2, .int v3] (wd_X12_newOne E a_o a_o_at a_o_names a_o_sort a_o_trayMany a_o_trays a_o_tape a_o_text a_o_opened a_o_farBy a_o_attendsBy a_o_coveredBy a_o_cameBy a_o_cameThen a_o_fallsBy a_o_loops a_o_ran a_o_told1 o_status o_top o_bottom o_taped o_size o_token o_from o_end o_value o_faultKind o_faultPlace o_faults o_seen o_toldParts o_depth o_counted o_becameThen o_firstCorner o_drawn o_ranSteps o_isTold o_marks o_at o_names o_text) (wd_X12_newOne E a_o a_o_at a_o_names a_o_sort a_o_trayMany a_o_trays a_o_tape a_o_text a_o_opened a_o_farBy a_o_attendsBy a_o_coveredBy a_o_cameBy a_o_cameThen a_o_fallsBy a_o_loops a_o_ran a_o_told1 o_status o_top o_bottom o_taped o_size u.2.1 u.2.2.1 u.2.2.2.1 u.2.2.2.2.1 o_faultKind u.2.2.2.2.2.1 u.2.2.2.2.2.2.1 o_seen o_toldParts o_depth o_counted o_becameThen o_firstCorner o_drawn o_ranSteps o_isTold o_marks o_at u.2.2.2.2.2.2.2 o_text) u.1 := by
  refine ctI (by decide) (Nat.le_of_ble_eq_true rfl) ?_
  intro p e s m below meth cd A ls aa QQ hq cx hP hD hS hl
  obtain ⟨⟨hx, hb, hml, hown, hts⟩, hr, hlocks, hK, hA, hX⟩ := id cx
  have hl : lv_has ls 4 [(0, .ref a_o), (1, .int v1), (2, .int v2), (3, .int v3)] := hl
  unfold X12_newOne at hf
  refine lv_aload_n hx hb dX12_newOne_0 rfl (lv_at hl 0 rfl) ?_
  refine va_get (D := E.1) (ci := 12) (v := .ref a_o_at) (C := RX12) (T := TX12) (N := 39) hx hb hts inX12 hown hK hP 0 rfl rfl 0 (by decide) (hts _ fl_X12_7) (fun _ h9 => h9) rfl dX12_newOne_1 ?_
  refine lv_sipush (v := 1980) hx hb dX12_newOne_4 (by decide) ?_
  refine lv_iload_n hx hb dX12_newOne_7 rfl (lv_at hl 1 rfl) ?_
  refine lv_iadd hx hb dX12_newOne_8 ?_
  obtain ⟨hi, hf⟩ := ck hf
  refine r_iald 1 cx hP rfl hi dX12_newOne_9 ?_
  refine lv_iload_n hx hb dX12_newOne_10 rfl (lv_at hl 2 rfl) ?_
  refine lv_icmp_ne (tgt := 21) hx hb dX12_newOne_11 (by decide) (fun hc => ?_) (fun hc => ?_)
  · have hf := it_f hc hf
    refine lv_aload_n hx hb dX12_newOne_21 rfl (lv_at hl 0 rfl) ?_
    obtain ⟨u22, hu22, hf⟩ := bd hf
    refine callVV (wn := (wd_X12_newOne E a_o a_o_at a_o_names a_o_sort a_o_trayMany a_o_trays a_o_tape a_o_text a_o_opened a_o_farBy a_o_attendsBy a_o_coveredBy a_o_cameBy a_o_cameThen a_o_fallsBy a_o_loops a_o_ran a_o_told1 o_status o_top o_bottom o_taped o_size u22.1 u22.2.1 u22.2.2.1 u22.2.2.2 o_faultKind o_faultPlace o_faults o_seen o_toldParts o_depth o_counted o_becameThen o_firstCorner o_drawn o_ranSteps o_isTold o_marks o_at o_names o_text)) (n1 := 4) (ct_X12_ahead l E F a_o a_o_at a_o_names a_o_sort a_o_trayMany a_o_trays a_o_tape a_o_text a_o_opened a_o_farBy a_o_attendsBy a_o_coveredBy a_o_cameBy a_o_cameThen a_o_fallsBy a_o_loops a_o_ran a_o_told1 o_status o_top o_bottom o_taped o_size o_token o_from o_end o_value o_faultKind o_faultPlace o_faults o_seen o_toldParts o_depth o_counted o_becameThen o_firstCorner o_drawn o_ranSteps o_isTold o_marks o_text u22 hu22) [0, 3] cal_X12_ahead cav_X12_ahead lk_X12_161 cx hP hD hS hl dX12_newOne_22 rfl rfl rfl rfl (Nat.le_of_ble_eq_true rfl) ⟨Nat.le_of_ble_eq_true rfl, Nat.le_of_ble_eq_true rfl⟩ rfl (by decide +kernel) rfl [some 0, none, none, some 1] rfl (by decide +kernel) rfl (fun H locs hP hD hS => ?_)
    refine lv_aload_n hx hb dX12_newOne_25 rfl (lv_at hl 0 rfl) ?_
    refine va_ldcS hx hb hown hX.2.2.2.2.1 dX12_newOne_26 ?_
    obtain ⟨u28, hu28, hf⟩ := bd hf
    refine keepVI (ct_X12_isName l E F a_o a_o_at a_o_names a_o_sort a_o_trayMany a_o_trays a_o_tape a_o_text a_o_opened a_o_farBy a_o_attendsBy a_o_coveredBy a_o_cameBy a_o_cameThen a_o_fallsBy a_o_loops a_o_ran a_o_told1 o_status o_top o_bottom o_taped o_size u22.1 u22.2.1 u22.2.2.1 u22.2.2.2 o_faultKind o_faultPlace o_faults o_seen o_toldParts o_depth o_counted o_becameThen o_firstCorner o_drawn o_ranSteps o_isTold o_marks o_text u28 hu28) [0, 3] cal_X12_isName cav_X12_isName lk_X12_183 cx hP hD hS hl dX12_newOne_28 rfl rfl rfl rfl (Nat.le_of_ble_eq_true rfl) ⟨Nat.le_of_ble_eq_true rfl, Nat.le_of_ble_eq_true rfl⟩ rfl (by decide) (fun H locs hP hS => ?_)
    refine lv_if_ne (tgt := 40) hx hb dX12_newOne_31 (by decide) (fun hc => ?_) (fun hc => ?_)
    · have hf := it_f hc hf
      refine lv_aload_n hx hb dX12_newOne_40 rfl (lv_at hl 0 rfl) ?_
      obtain ⟨u41, hu41, hf⟩ := bd hf
      refine keepVI (ct_X12_isTaken l E F a_o a_o_at a_o_names a_o_sort a_o_trayMany a_o_trays a_o_tape a_o_text a_o_opened a_o_farBy a_o_attendsBy a_o_coveredBy a_o_cameBy a_o_cameThen a_o_fallsBy a_o_loops a_o_ran a_o_told1 o_status o_top o_bottom o_taped o_size u22.1 u22.2.1 u22.2.2.1 u22.2.2.2 o_faultKind o_faultPlace o_faults o_seen o_toldParts o_depth o_counted o_becameThen o_firstCorner o_drawn o_ranSteps o_isTold o_marks o_at o_names o_text u41 hu41) [0, 1, 2, 3] cal_X12_isTaken cav_X12_isTaken lk_X12_187 cx hP hD hS hl dX12_newOne_41 rfl rfl rfl rfl (Nat.le_of_ble_eq_true rfl) ⟨Nat.le_of_ble_eq_true rfl, Nat.le_of_ble_eq_true rfl⟩ rfl (by decide) (fun H locs hP hS => ?_)
      refine lv_if_eq (tgt := 53) hx hb dX12_newOne_44 (by decide) (fun hc => ?_) (fun hc => ?_)
      · have hf := it_t hc hf
        refine lv_aload_n hx hb dX12_newOne_53 rfl (lv_at hl 0 rfl) ?_
        refine va_get (D := E.1) (ci := 12) (v := .ref a_o_names) (C := RX12) (T := TX12) (N := 39) hx hb hts inX12 hown hK hP 0 rfl rfl 1 (by decide) (hts _ fl_X12_13) (fun _ h9 => h9) rfl dX12_newOne_54 ?_
        refine lv_bipush (v := 108) hx hb dX12_newOne_57 (by decide) ?_
        refine lv_iload_n hx hb dX12_newOne_59 rfl (lv_at hl 3 rfl) ?_
        refine lv_iadd hx hb dX12_newOne_60 ?_
        refine lv_aload_n hx hb dX12_newOne_61 rfl (lv_at hl 0 rfl) ?_
        refine va_get (D := E.1) (ci := 12) (v := .ref a_o_at) (C := RX12) (T := TX12) (N := 39) hx hb hts inX12 hown hK hP 0 rfl rfl 0 (by decide) (hts _ fl_X12_7) (fun _ h9 => h9) rfl dX12_newOne_62 ?_
        refine lv_sipush (v := 1980) hx hb dX12_newOne_65 (by decide) ?_
        refine lv_iload_n hx hb dX12_newOne_68 rfl (lv_at hl 1 rfl) ?_
        refine lv_iadd hx hb dX12_newOne_69 ?_
        obtain ⟨hi, hf⟩ := ck hf
        refine r_iald 1 cx hP rfl hi dX12_newOne_70 ?_
        refine lv_iadd hx hb dX12_newOne_71 ?_
        refine lv_aload_n hx hb dX12_newOne_72 rfl (lv_at hl 0 rfl) ?_
        obtain ⟨u73, hu73, hf⟩ := bd hf
        refine keepVL (ct_X12_nameHere l E F a_o a_o_at a_o_names a_o_sort a_o_trayMany a_o_trays a_o_tape a_o_text a_o_opened a_o_farBy a_o_attendsBy a_o_coveredBy a_o_cameBy a_o_cameThen a_o_fallsBy a_o_loops a_o_ran a_o_told1 o_status o_top o_bottom o_taped o_size u22.1 u22.2.1 u22.2.2.1 u22.2.2.2 o_faultKind o_faultPlace o_faults o_seen o_toldParts o_depth o_counted o_becameThen o_firstCorner o_drawn o_ranSteps o_isTold o_marks o_text u73 hu73) [0, 3] cal_X12_nameHere cav_X12_nameHere lk_X12_174 cx hP hD hS hl dX12_newOne_73 rfl rfl rfl rfl (Nat.le_of_ble_eq_true rfl) ⟨Nat.le_of_ble_eq_true rfl, Nat.le_of_ble_eq_true rfl⟩ rfl (by decide) (fun H locs hP hS => ?_)
        obtain ⟨hi, hf⟩ := ck hf
        refine r_last 2 cx hP hD hS rfl hi dX12_newOne_76 (fun H locs hP hD hS => ?_)
        have hP : va_P E.1 vwCl (wd_X12_newOne E a_o a_o_at a_o_names a_o_sort a_o_trayMany a_o_trays a_o_tape a_o_text a_o_opened a_o_farBy a_o_attendsBy a_o_coveredBy a_o_cameBy a_o_cameThen a_o_fallsBy a_o_loops a_o_ran a_o_told1 o_status o_top o_bottom o_taped o_size u22.1 u22.2.1 u22.2.2.1 u22.2.2.2 o_faultKind o_faultPlace o_faults o_seen o_toldParts o_depth o_counted o_becameThen o_firstCorner o_drawn o_ranSteps o_isTold o_marks o_at (jputL o_names ((108 + v3) + (jat o_at (1980 + v1))) u73) o_text) H := hP
        have hD : va_D A (wd_X12_newOne E a_o a_o_at a_o_names a_o_sort a_o_trayMany a_o_trays a_o_tape a_o_text a_o_opened a_o_farBy a_o_attendsBy a_o_coveredBy a_o_cameBy a_o_cameThen a_o_fallsBy a_o_loops a_o_ran a_o_told1 o_status o_top o_bottom o_taped o_size u22.1 u22.2.1 u22.2.2.1 u22.2.2.2 o_faultKind o_faultPlace o_faults o_seen o_toldParts o_depth o_counted o_becameThen o_firstCorner o_drawn o_ranSteps o_isTold o_marks o_at (jputL o_names ((108 + v3) + (jat o_at (1980 + v1))) u73) o_text) := hD
        refine lv_aload_n hx hb dX12_newOne_77 rfl (lv_at hl 0 rfl) ?_
        obtain ⟨u78, hu78, hf⟩ := bd hf
        refine callVV (wn := (wd_X12_newOne E a_o a_o_at a_o_names a_o_sort a_o_trayMany a_o_trays a_o_tape a_o_text a_o_opened a_o_farBy a_o_attendsBy a_o_coveredBy a_o_cameBy a_o_cameThen a_o_fallsBy a_o_loops a_o_ran a_o_told1 o_status o_top o_bottom o_taped o_size u78.1 u78.2.1 u78.2.2.1 u78.2.2.2 o_faultKind o_faultPlace o_faults o_seen o_toldParts o_depth o_counted o_becameThen o_firstCorner o_drawn o_ranSteps o_isTold o_marks o_at (jputL o_names ((108 + v3) + (jat o_at (1980 + v1))) u73) o_text)) (n1 := 4) (ct_X12_ahead l E F a_o a_o_at a_o_names a_o_sort a_o_trayMany a_o_trays a_o_tape a_o_text a_o_opened a_o_farBy a_o_attendsBy a_o_coveredBy a_o_cameBy a_o_cameThen a_o_fallsBy a_o_loops a_o_ran a_o_told1 o_status o_top o_bottom o_taped o_size u22.1 u22.2.1 u22.2.2.1 u22.2.2.2 o_faultKind o_faultPlace o_faults o_seen o_toldParts o_depth o_counted o_becameThen o_firstCorner o_drawn o_ranSteps o_isTold o_marks o_text u78 hu78) [0, 3] cal_X12_ahead cav_X12_ahead lk_X12_161 cx hP hD hS hl dX12_newOne_78 rfl rfl rfl rfl (Nat.le_of_ble_eq_true rfl) ⟨Nat.le_of_ble_eq_true rfl, Nat.le_of_ble_eq_true rfl⟩ rfl (by decide +kernel) rfl [some 0, none, none, some 1] rfl (by decide +kernel) rfl (fun H locs hP hD hS => ?_)
        refine lv_iconst (v := 1) hx hb dX12_newOne_81 (by decide) ?_
        obtain rfl := Option.some.inj hf
        subst hq
        exact retZ cx rfl hP hD hS dX12_newOne_82
      · have hf := it_f hc hf
        refine lv_aload_n hx hb dX12_newOne_47 rfl (lv_at hl 0 rfl) ?_
        refine lv_iconst (v := 3) hx hb dX12_newOne_48 (by decide) ?_
        obtain ⟨u49, hu49, hf⟩ := bd hf
        refine callVI (wn := (wd_X12_newOne E a_o a_o_at a_o_names a_o_sort a_o_trayMany a_o_trays a_o_tape a_o_text a_o_opened a_o_farBy a_o_attendsBy a_o_coveredBy a_o_cameBy a_o_cameThen a_o_fallsBy a_o_loops a_o_ran a_o_told1 o_status o_top o_bottom o_taped o_size u22.1 u22.2.1 u22.2.2.1 u22.2.2.2 o_faultKind u49.2.1 u49.2.2 o_seen o_toldParts o_depth o_counted o_becameThen o_firstCorner o_drawn o_ranSteps o_isTold o_marks o_at o_names o_text)) (n1 := 4) (ct_X12_fails l E a_o a_o_at a_o_names a_o_sort a_o_trayMany a_o_trays a_o_tape a_o_text a_o_opened a_o_farBy a_o_attendsBy a_o_coveredBy a_o_cameBy a_o_cameThen a_o_fallsBy a_o_loops a_o_ran a_o_told1 o_status o_top o_bottom o_taped o_size u22.1 u22.2.1 u22.2.2.1 u22.2.2.2 o_faultKind o_faultPlace o_faults o_seen o_toldParts o_depth o_counted o_becameThen o_firstCorner o_drawn o_ranSteps o_isTold o_marks (3 : Int32) u49 hu49) [0] cal_X12_fails cav_X12_fails lk_X12_167 cx hP hD hS hl dX12_newOne_49 rfl rfl rfl rfl (Nat.le_of_ble_eq_true rfl) ⟨Nat.le_of_ble_eq_true rfl, Nat.le_of_ble_eq_true rfl⟩ rfl (by decide +kernel) rfl [some 0, none, none, none] rfl (by decide +kernel) rfl (fun H locs hP hD hS => ?_)
        obtain ⟨hz, hf⟩ := ck hf
        obtain rfl := Option.some.inj hf
        subst hq
        exact retZ cx hz hP hD hS dX12_newOne_52
    · have hf := it_t hc hf
      refine lv_aload_n hx hb dX12_newOne_34 rfl (lv_at hl 0 rfl) ?_
      refine lv_iconst (v := 2) hx hb dX12_newOne_35 (by decide) ?_
      obtain ⟨u36, hu36, hf⟩ := bd hf
      refine callVI (wn := (wd_X12_newOne E a_o a_o_at a_o_names a_o_sort a_o_trayMany a_o_trays a_o_tape a_o_text a_o_opened a_o_farBy a_o_attendsBy a_o_coveredBy a_o_cameBy a_o_cameThen a_o_fallsBy a_o_loops a_o_ran a_o_told1 o_status o_top o_bottom o_taped o_size u22.1 u22.2.1 u22.2.2.1 u22.2.2.2 o_faultKind u36.2.1 u36.2.2 o_seen o_toldParts o_depth o_counted o_becameThen o_firstCorner o_drawn o_ranSteps o_isTold o_marks o_at o_names o_text)) (n1 := 4) (ct_X12_fails l E a_o a_o_at a_o_names a_o_sort a_o_trayMany a_o_trays a_o_tape a_o_text a_o_opened a_o_farBy a_o_attendsBy a_o_coveredBy a_o_cameBy a_o_cameThen a_o_fallsBy a_o_loops a_o_ran a_o_told1 o_status o_top o_bottom o_taped o_size u22.1 u22.2.1 u22.2.2.1 u22.2.2.2 o_faultKind o_faultPlace o_faults o_seen o_toldParts o_depth o_counted o_becameThen o_firstCorner o_drawn o_ranSteps o_isTold o_marks (2 : Int32) u36 hu36) [0] cal_X12_fails cav_X12_fails lk_X12_167 cx hP hD hS hl dX12_newOne_36 rfl rfl rfl rfl (Nat.le_of_ble_eq_true rfl) ⟨Nat.le_of_ble_eq_true rfl, Nat.le_of_ble_eq_true rfl⟩ rfl (by decide +kernel) rfl [some 0, none, none, none] rfl (by decide +kernel) rfl (fun H locs hP hD hS => ?_)
      obtain ⟨hz, hf⟩ := ck hf
      obtain rfl := Option.some.inj hf
      subst hq
      exact retZ cx hz hP hD hS dX12_newOne_39
  · have hf := it_t hc hf
    refine lv_aload_n hx hb dX12_newOne_14 rfl (lv_at hl 0 rfl) ?_
    refine lv_bipush (v := 6) hx hb dX12_newOne_15 (by decide) ?_
    obtain ⟨u17, hu17, hf⟩ := bd hf
    refine callVI (wn := (wd_X12_newOne E a_o a_o_at a_o_names a_o_sort a_o_trayMany a_o_trays a_o_tape a_o_text a_o_opened a_o_farBy a_o_attendsBy a_o_coveredBy a_o_cameBy a_o_cameThen a_o_fallsBy a_o_loops a_o_ran a_o_told1 o_status o_top o_bottom o_taped o_size o_token o_from o_end o_value o_faultKind u17.2.1 u17.2.2 o_seen o_toldParts o_depth o_counted o_becameThen o_firstCorner o_drawn o_ranSteps o_isTold o_marks o_at o_names o_text)) (n1 := 4) (ct_X12_fails l E a_o a_o_at a_o_names a_o_sort a_o_trayMany a_o_trays a_o_tape a_o_text a_o_opened a_o_farBy a_o_attendsBy a_o_coveredBy a_o_cameBy a_o_cameThen a_o_fallsBy a_o_loops a_o_ran a_o_told1 o_status o_top o_bottom o_taped o_size o_token o_from o_end o_value o_faultKind o_faultPlace o_faults o_seen o_toldParts o_depth o_counted o_becameThen o_firstCorner o_drawn o_ranSteps o_isTold o_marks (6 : Int32) u17 hu17) [0] cal_X12_fails cav_X12_fails lk_X12_167 cx hP hD hS hl dX12_newOne_17 rfl rfl rfl rfl (Nat.le_of_ble_eq_true rfl) ⟨Nat.le_of_ble_eq_true rfl, Nat.le_of_ble_eq_true rfl⟩ rfl (by decide +kernel) rfl [some 0, none, none, none] rfl (by decide +kernel) rfl (fun H locs hP hD hS => ?_)
    obtain ⟨hz, hf⟩ := ck hf
    obtain rfl := Option.some.inj hf
    subst hq
    exact retZ cx hz hP hD hS dX12_newOne_20
def X12_oldOne (F : Nat) (o_size : Int32) (o_token : Int32) (o_from : Int32) (o_end : Int32) (o_value : Int32) (o_faultPlace : Int32) (o_faults : Int32) (o_at : Nat → Int32) (o_names : Nat → Int64) (o_text : Nat → Int32) (v1 : Int32) (v2 : Int32) (v3 : Int32) : Option (Int32 × Int32 × Int32 × Int32 × Int32 × Int32 × Int32 × (Nat → Int32)) :=
  (X12_isName F o_size o_token o_from o_end o_text).bind fun u3 =>
  if u3 = 0 then
  (X12_fails o_token o_from o_faultPlace o_faults (2 : Int32)).bind fun u11 =>
  if isZ u11.1 then some (u11.1, o_token, o_from, o_end, o_value, u11.2.1, u11.2.2, o_at) else none
  else
  (X12_findHere F o_size o_from o_end o_names o_text v1 v2).bind fun u23 =>
  if ix v3 3097 then
  if ix v3 3097 then
  if (jat (jput o_at v3 u23) v3) = (-1) then
  (X12_fails o_token o_from o_faultPlace o_faults (3 : Int32)).bind fun u39 =>
  if isZ u39.1 then some (u39.1, o_token, o_from, o_end, o_value, u39.2.1, u39.2.2, (jput o_at v3 u23)) else none
  else
  (X12_ahead F o_size o_token o_from o_end o_value o_text).bind fun u44 =>
  some (1, u44.1, u44.2.1, u44.2.2.1, u44.2.2.2, o_faultPlace, o_faults, (jput o_at v3 u23))
  else none
  else none
abbrev wd_X12_oldOne (E : vE) (a_o a_o_at a_o_names a_o_sort a_o_trayMany a_o_trays a_o_tape a_o_text a_o_opened a_o_farBy a_o_attendsBy a_o_coveredBy a_o_cameBy a_o_cameThen a_o_fallsBy a_o_loops a_o_ran a_o_told1 : Nat) (o_status : Int32) (o_top : Int64) (o_bottom : Int64) (o_taped : Int32) (o_size : Int32) (o_token : Int32) (o_from : Int32) (o_end : Int32) (o_value : Int32) (o_faultKind : Int32) (o_faultPlace : Int32) (o_faults : Int32) (o_seen : Int32) (o_toldParts : Int32) (o_depth : Int32) (o_counted : Int32) (o_becameThen : Int32) (o_firstCorner : Int32) (o_drawn : Int32) (o_ranSteps : Int32) (o_isTold : Int32) (o_marks : Int32) (o_at : Nat → Int32) (o_names : Nat → Int64) (o_text : Nat → Int32) : va_W := [(a_o, .inr (12, [.ref a_o_at, .ref a_o_names, .int o_status, .long o_top, .long o_bottom, .ref a_o_sort, .ref a_o_trayMany, .ref a_o_trays, .ref a_o_tape, .ref a_o_text, .int o_taped, .int o_size, .int o_token, .int o_from, .int o_end, .int o_value, .int o_faultKind, .int o_faultPlace, .int o_faults, .int o_seen, .int o_toldParts, .ref a_o_opened, .int o_depth, .int o_counted, .ref a_o_farBy, .int o_becameThen, .ref a_o_attendsBy, .ref a_o_coveredBy, .ref a_o_cameBy, .ref a_o_cameThen, .int o_firstCorner, .ref a_o_fallsBy, .int o_drawn, .int o_ranSteps, .ref a_o_loops, .ref a_o_ran, .ref a_o_told1, .int o_isTold, .int o_marks])), (a_o_at, .inl (E.2.1, 3097, .inl o_at)), (a_o_names, .inl (E.2.2.1, 162, .inr (.inl o_names))), (a_o_text, .inl (E.2.2.2.1, 900, .inl o_text))]
set_option maxHeartbeats 4000000 in
set_option maxRecDepth 100000 in
theorem ct_X12_oldOne (l : Launch) (E : vE) (F : Nat) (a_o a_o_at a_o_names a_o_sort a_o_trayMany a_o_trays a_o_tape a_o_text a_o_opened a_o_farBy a_o_attendsBy a_o_coveredBy a_o_cameBy a_o_cameThen a_o_fallsBy a_o_loops a_o_ran a_o_told1 : Nat) (o_status : Int32) (o_top : Int64) (o_bottom : Int64) (o_taped : Int32) (o_size : Int32) (o_token : Int32) (o_from : Int32) (o_end : Int32) (o_value : Int32) (o_faultKind : Int32) (o_faultPlace : Int32) (o_faults : Int32) (o_seen : Int32) (o_toldParts : Int32) (o_depth : Int32) (o_counted : Int32) (o_becameThen : Int32) (o_firstCorner : Int32) (o_drawn : Int32) (o_ranSteps : Int32) (o_isTold : Int32) (o_marks : Int32) (o_at : Nat → Int32) (o_names : Nat → Int64) (o_text : Nat → Int32) (v1 : Int32) (v2 : Int32) (v3 : Int32) (u : Int32 × Int32 × Int32 × Int32 × Int32 × Int32 × Int32 × (Nat → Int32)) (hf : X12_oldOne F o_size o_token o_from o_end o_value o_faultPlace o_faults o_at o_names o_text v1 v2 v3 = some u) :
    CtI l yX12_oldOne cX12_oldOne 4 (some .boolean) 6 E [.ref a_o, .int v1, .int v2, .int v3] (wd_X12_oldOne E a_o a_o_at a_o_names a_o_sort a_o_trayMany a_o_trays a_o_tape a_o_text a_o_opened a_o_farBy a_o_attendsBy a_o_coveredBy a_o_cameBy a_o_cameThen a_o_fallsBy a_o_loops a_o_ran a_o_told1 o_status o_top o_bottom o_taped o_size o_token o_from o_end o_value o_faultKind o_faultPlace o_faults o_seen o_toldParts o_depth o_counted o_becameThen o_firstCorner o_drawn o_ranSteps o_isTold o_marks o_at o_names o_text) (wd_X12_oldOne E a_o a_o_at a_o_names a_o_sort a_o_trayMany a_o_trays a_o_tape a_o_text a_o_opened a_o_farBy a_o_attendsBy a_o_coveredBy a_o_cameBy a_o_cameThen a_o_fallsBy a_o_loops a_o_ran a_o_told1 o_status o_top o_bottom o_taped o_size u.2.1 u.2.2.1 u.2.2.2.1 u.2.2.2.2.1 o_faultKind u.2.2.2.2.2.1 u.2.2.2.2.2.2.1 o_seen o_toldParts o_depth o_counted o_becameThen o_firstCorner o_drawn o_ranSteps o_isTold o_marks u.2.2.2.2.2.2.2 o_names o_text) u.1 := by
  refine ctI (by decide) (Nat.le_of_ble_eq_true rfl) ?_
  intro p e s m below meth cd A ls aa QQ hq cx hP hD hS hl
  obtain ⟨⟨hx, hb, hml, hown, hts⟩, hr, hlocks, hK, hA, hX⟩ := id cx
  have hl : lv_has ls 4 [(0, .ref a_o), (1, .int v1), (2, .int v2), (3, .int v3)] := hl
  unfold X12_oldOne at hf
  refine lv_aload_n hx hb dX12_oldOne_0 rfl (lv_at hl 0 rfl) ?_
  refine va_ldcS hx hb hown hX.2.2.2.2.1 dX12_oldOne_1 ?_
  obtain ⟨u3, hu3, hf⟩ := bd hf
  refine keepVI (ct_X12_isName l E F a_o a_o_at a_o_names a_o_sort a_o_trayMany a_o_trays a_o_tape a_o_text a_o_opened a_o_farBy a_o_attendsBy a_o_coveredBy a_o_cameBy a_o_cameThen a_o_fallsBy a_o_loops a_o_ran a_o_told1 o_status o_top o_bottom o_taped o_size o_token o_from o_end o_value o_faultKind o_faultPlace o_faults o_seen o_toldParts o_depth o_counted o_becameThen o_firstCorner o_drawn o_ranSteps o_isTold o_marks o_text u3 hu3) [0, 3] cal_X12_isName cav_X12_isName lk_X12_183 cx hP hD hS hl dX12_oldOne_3 rfl rfl rfl rfl (Nat.le_of_ble_eq_true rfl) ⟨Nat.le_of_ble_eq_true rfl, Nat.le_of_ble_eq_true rfl⟩ rfl (by decide) (fun H locs hP hS => ?_)
  refine lv_if_ne (tgt := 15) hx hb dX12_oldOne_6 (by decide) (fun hc => ?_) (fun hc => ?_)
  · have hf := it_f hc hf
    refine lv_aload_n hx hb dX12_oldOne_15 rfl (lv_at hl 0 rfl) ?_
    refine va_get (D := E.1) (ci := 12) (v := .ref a_o_at) (C := RX12) (T := TX12) (N := 39) hx hb hts inX12 hown hK hP 0 rfl rfl 0 (by decide) (hts _ fl_X12_7) (fun _ h9 => h9) rfl dX12_oldOne_16 ?_
    refine lv_iload_n hx hb dX12_oldOne_19 rfl (lv_at hl 3 rfl) ?_
    refine lv_aload_n hx hb dX12_oldOne_20 rfl (lv_at hl 0 rfl) ?_
    refine lv_iload_n hx hb dX12_oldOne_21 rfl (lv_at hl 1 rfl) ?_
    refine lv_iload_n hx hb dX12_oldOne_22 rfl (lv_at hl 2 rfl) ?_
    obtain ⟨u23, hu23, hf⟩ := bd hf
    refine keepVI (ct_X12_findHere l E F a_o a_o_at a_o_names a_o_sort a_o_trayMany a_o_trays a_o_tape a_o_text a_o_opened a_o_farBy a_o_attendsBy a_o_coveredBy a_o_cameBy a_o_cameThen a_o_fallsBy a_o_loops a_o_ran a_o_told1 o_status o_top o_bottom o_taped o_size o_token o_from o_end o_value o_faultKind o_faultPlace o_faults o_seen o_toldParts o_depth o_counted o_becameThen o_firstCorner o_drawn o_ranSteps o_isTold o_marks o_names o_text v1 v2 u23 hu23) [0, 2, 3] cal_X12_findHere cav_X12_findHere lk_X12_178 cx hP hD hS hl dX12_oldOne_23 rfl rfl rfl rfl (Nat.le_of_ble_eq_true rfl) ⟨Nat.le_of_ble_eq_true rfl, Nat.le_of_ble_eq_true rfl⟩ rfl (by decide) (fun H locs hP hS => ?_)
    obtain ⟨hi, hf⟩ := ck hf
    refine r_iast 1 cx hP hD hS rfl hi dX12_oldOne_26 (fun H locs hP hD hS => ?_)
    have hP : va_P E.1 vwCl (wd_X12_oldOne E a_o a_o_at a_o_names a_o_sort a_o_trayMany a_o_trays a_o_tape a_o_text a_o_opened a_o_farBy a_o_attendsBy a_o_coveredBy a_o_cameBy a_o_cameThen a_o_fallsBy a_o_loops a_o_ran a_o_told1 o_status o_top o_bottom o_taped o_size o_token o_from o_end o_value o_faultKind o_faultPlace o_faults o_seen o_toldParts o_depth o_counted o_becameThen o_firstCorner o_drawn o_ranSteps o_isTold o_marks (jput o_at v3 u23) o_names o_text) H := hP
    have hD : va_D A (wd_X12_oldOne E a_o a_o_at a_o_names a_o_sort a_o_trayMany a_o_trays a_o_tape a_o_text a_o_opened a_o_farBy a_o_attendsBy a_o_coveredBy a_o_cameBy a_o_cameThen a_o_fallsBy a_o_loops a_o_ran a_o_told1 o_status o_top o_bottom o_taped o_size o_token o_from o_end o_value o_faultKind o_faultPlace o_faults o_seen o_toldParts o_depth o_counted o_becameThen o_firstCorner o_drawn o_ranSteps o_isTold o_marks (jput o_at v3 u23) o_names o_text) := hD
    refine lv_aload_n hx hb dX12_oldOne_27 rfl (lv_at hl 0 rfl) ?_
    refine va_get (D := E.1) (ci := 12) (v := .ref a_o_at) (C := RX12) (T := TX12) (N := 39) hx hb hts inX12 hown hK hP 0 rfl rfl 0 (by decide) (hts _ fl_X12_7) (fun _ h9 => h9) rfl dX12_oldOne_28 ?_
    refine lv_iload_n hx hb dX12_oldOne_31 rfl (lv_at hl 3 rfl) ?_
    obtain ⟨hi, hf⟩ := ck hf
    refine r_iald 1 cx hP rfl hi dX12_oldOne_32 ?_
    refine lv_iconst (v := (-1)) hx hb dX12_oldOne_33 (by decide) ?_
    refine lv_icmp_ne (tgt := 43) hx hb dX12_oldOne_34 (by decide) (fun hc => ?_) (fun hc => ?_)
    · have hf := it_f hc hf
      refine lv_aload_n hx hb dX12_oldOne_43 rfl (lv_at hl 0 rfl) ?_
      obtain ⟨u44, hu44, hf⟩ := bd hf
      refine callVV (wn := (wd_X12_oldOne E a_o a_o_at a_o_names a_o_sort a_o_trayMany a_o_trays a_o_tape a_o_text a_o_opened a_o_farBy a_o_attendsBy a_o_coveredBy a_o_cameBy a_o_cameThen a_o_fallsBy a_o_loops a_o_ran a_o_told1 o_status o_top o_bottom o_taped o_size u44.1 u44.2.1 u44.2.2.1 u44.2.2.2 o_faultKind o_faultPlace o_faults o_seen o_toldParts o_depth o_counted o_becameThen o_firstCorner o_drawn o_ranSteps o_isTold o_marks (jput o_at v3 u23) o_names o_text)) (n1 := 4) (ct_X12_ahead l E F a_o a_o_at a_o_names a_o_sort a_o_trayMany a_o_trays a_o_tape a_o_text a_o_opened a_o_farBy a_o_attendsBy a_o_coveredBy a_o_cameBy a_o_cameThen a_o_fallsBy a_o_loops a_o_ran a_o_told1 o_status o_top o_bottom o_taped o_size o_token o_from o_end o_value o_faultKind o_faultPlace o_faults o_seen o_toldParts o_depth o_counted o_becameThen o_firstCorner o_drawn o_ranSteps o_isTold o_marks o_text u44 hu44) [0, 3] cal_X12_ahead cav_X12_ahead lk_X12_161 cx hP hD hS hl dX12_oldOne_44 rfl rfl rfl rfl (Nat.le_of_ble_eq_true rfl) ⟨Nat.le_of_ble_eq_true rfl, Nat.le_of_ble_eq_true rfl⟩ rfl (by decide +kernel) rfl [some 0, none, none, some 1] rfl (by decide +kernel) rfl (fun H locs hP hD hS => ?_)
      refine lv_iconst (v := 1) hx hb dX12_oldOne_47 (by decide) ?_
      obtain rfl := Option.some.inj hf
      subst hq
      exact retZ cx rfl hP hD hS dX12_oldOne_48
    · have hf := it_t hc hf
      refine lv_aload_n hx hb dX12_oldOne_37 rfl (lv_at hl 0 rfl) ?_
      refine lv_iconst (v := 3) hx hb dX12_oldOne_38 (by decide) ?_
      obtain ⟨u39, hu39, hf⟩ := bd hf
      refine callVI (wn := (wd_X12_oldOne E a_o a_o_at a_o_names a_o_sort a_o_trayMany a_o_trays a_o_tape a_o_text a_o_opened a_o_farBy a_o_attendsBy a_o_coveredBy a_o_cameBy a_o_cameThen a_o_fallsBy a_o_loops a_o_ran a_o_told1 o_status o_top o_bottom o_taped o_size o_token o_from o_end o_value o_faultKind u39.2.1 u39.2.2 o_seen o_toldParts o_depth o_counted o_becameThen o_firstCorner o_drawn o_ranSteps o_isTold o_marks (jput o_at v3 u23) o_names o_text)) (n1 := 4) (ct_X12_fails l E a_o a_o_at a_o_names a_o_sort a_o_trayMany a_o_trays a_o_tape a_o_text a_o_opened a_o_farBy a_o_attendsBy a_o_coveredBy a_o_cameBy a_o_cameThen a_o_fallsBy a_o_loops a_o_ran a_o_told1 o_status o_top o_bottom o_taped o_size o_token o_from o_end o_value o_faultKind o_faultPlace o_faults o_seen o_toldParts o_depth o_counted o_becameThen o_firstCorner o_drawn o_ranSteps o_isTold o_marks (3 : Int32) u39 hu39) [0] cal_X12_fails cav_X12_fails lk_X12_167 cx hP hD hS hl dX12_oldOne_39 rfl rfl rfl rfl (Nat.le_of_ble_eq_true rfl) ⟨Nat.le_of_ble_eq_true rfl, Nat.le_of_ble_eq_true rfl⟩ rfl (by decide +kernel) rfl [some 0, none, none, none] rfl (by decide +kernel) rfl (fun H locs hP hD hS => ?_)
      obtain ⟨hz, hf⟩ := ck hf
      obtain rfl := Option.some.inj hf
      subst hq
      exact retZ cx hz hP hD hS dX12_oldOne_42
  · have hf := it_t hc hf
    refine lv_aload_n hx hb dX12_oldOne_9 rfl (lv_at hl 0 rfl) ?_
    refine lv_iconst (v := 2) hx hb dX12_oldOne_10 (by decide) ?_
    obtain ⟨u11, hu11, hf⟩ := bd hf
    refine callVI (wn := (wd_X12_oldOne E a_o a_o_at a_o_names a_o_sort a_o_trayMany a_o_trays a_o_tape a_o_text a_o_opened a_o_farBy a_o_attendsBy a_o_coveredBy a_o_cameBy a_o_cameThen a_o_fallsBy a_o_loops a_o_ran a_o_told1 o_status o_top o_bottom o_taped o_size o_token o_from o_end o_value o_faultKind u11.2.1 u11.2.2 o_seen o_toldParts o_depth o_counted o_becameThen o_firstCorner o_drawn o_ranSteps o_isTold o_marks o_at o_names o_text)) (n1 := 4) (ct_X12_fails l E a_o a_o_at a_o_names a_o_sort a_o_trayMany a_o_trays a_o_tape a_o_text a_o_opened a_o_farBy a_o_attendsBy a_o_coveredBy a_o_cameBy a_o_cameThen a_o_fallsBy a_o_loops a_o_ran a_o_told1 o_status o_top o_bottom o_taped o_size o_token o_from o_end o_value o_faultKind o_faultPlace o_faults o_seen o_toldParts o_depth o_counted o_becameThen o_firstCorner o_drawn o_ranSteps o_isTold o_marks (2 : Int32) u11 hu11) [0] cal_X12_fails cav_X12_fails lk_X12_167 cx hP hD hS hl dX12_oldOne_11 rfl rfl rfl rfl (Nat.le_of_ble_eq_true rfl) ⟨Nat.le_of_ble_eq_true rfl, Nat.le_of_ble_eq_true rfl⟩ rfl (by decide +kernel) rfl [some 0, none, none, none] rfl (by decide +kernel) rfl (fun H locs hP hD hS => ?_)
    obtain ⟨hz, hf⟩ := ck hf
    obtain rfl := Option.some.inj hf
    subst hq
    exact retZ cx hz hP hD hS dX12_oldOne_14
def X12_newCornerTo (F : Nat) (o_size : Int32) (o_token : Int32) (o_from : Int32) (o_end : Int32) (o_value : Int32) (o_faultPlace : Int32) (o_faults : Int32) (o_at : Nat → Int32) (o_names : Nat → Int64) (o_text : Nat → Int32) (v1 : Int32) : Option (Int32 × Int32 × Int32 × Int32 × Int32 × Int32 × Int32 × (Nat → Int32)) :=
  if ix 1980 3097 then
  (X12_oldOne F o_size o_token o_from o_end o_value o_faultPlace o_faults o_at o_names o_text (108 : Int32) (jat o_at 1980) v1).bind fun u12 =>
  if isZ u12.1 then some (u12.1, u12.2.1, u12.2.2.1, u12.2.2.2.1, u12.2.2.2.2.1, u12.2.2.2.2.2.1, u12.2.2.2.2.2.2.1, u12.2.2.2.2.2.2.2) else none
  else none
abbrev wd_X12_newCornerTo (E : vE) (a_o a_o_at a_o_names a_o_sort a_o_trayMany a_o_trays a_o_tape a_o_text a_o_opened a_o_farBy a_o_attendsBy a_o_coveredBy a_o_cameBy a_o_cameThen a_o_fallsBy a_o_loops a_o_ran a_o_told1 : Nat) (o_status : Int32) (o_top : Int64) (o_bottom : Int64) (o_taped : Int32) (o_size : Int32) (o_token : Int32) (o_from : Int32) (o_end : Int32) (o_value : Int32) (o_faultKind : Int32) (o_faultPlace : Int32) (o_faults : Int32) (o_seen : Int32) (o_toldParts : Int32) (o_depth : Int32) (o_counted : Int32) (o_becameThen : Int32) (o_firstCorner : Int32) (o_drawn : Int32) (o_ranSteps : Int32) (o_isTold : Int32) (o_marks : Int32) (o_at : Nat → Int32) (o_names : Nat → Int64) (o_text : Nat → Int32) : va_W := [(a_o, .inr (12, [.ref a_o_at, .ref a_o_names, .int o_status, .long o_top, .long o_bottom, .ref a_o_sort, .ref a_o_trayMany, .ref a_o_trays, .ref a_o_tape, .ref a_o_text, .int o_taped, .int o_size, .int o_token, .int o_from, .int o_end, .int o_value, .int o_faultKind, .int o_faultPlace, .int o_faults, .int o_seen, .int o_toldParts, .ref a_o_opened, .int o_depth, .int o_counted, .ref a_o_farBy, .int o_becameThen, .ref a_o_attendsBy, .ref a_o_coveredBy, .ref a_o_cameBy, .ref a_o_cameThen, .int o_firstCorner, .ref a_o_fallsBy, .int o_drawn, .int o_ranSteps, .ref a_o_loops, .ref a_o_ran, .ref a_o_told1, .int o_isTold, .int o_marks])), (a_o_at, .inl (E.2.1, 3097, .inl o_at)), (a_o_names, .inl (E.2.2.1, 162, .inr (.inl o_names))), (a_o_text, .inl (E.2.2.2.1, 900, .inl o_text))]
set_option maxHeartbeats 4000000 in
set_option maxRecDepth 100000 in
theorem ct_X12_newCornerTo (l : Launch) (E : vE) (F : Nat) (a_o a_o_at a_o_names a_o_sort a_o_trayMany a_o_trays a_o_tape a_o_text a_o_opened a_o_farBy a_o_attendsBy a_o_coveredBy a_o_cameBy a_o_cameThen a_o_fallsBy a_o_loops a_o_ran a_o_told1 : Nat) (o_status : Int32) (o_top : Int64) (o_bottom : Int64) (o_taped : Int32) (o_size : Int32) (o_token : Int32) (o_from : Int32) (o_end : Int32) (o_value : Int32) (o_faultKind : Int32) (o_faultPlace : Int32) (o_faults : Int32) (o_seen : Int32) (o_toldParts : Int32) (o_depth : Int32) (o_counted : Int32) (o_becameThen : Int32) (o_firstCorner : Int32) (o_drawn : Int32) (o_ranSteps : Int32) (o_isTold : Int32) (o_marks : Int32) (o_at : Nat → Int32) (o_names : Nat → Int64) (o_text : Nat → Int32) (v1 : Int32) (u : Int32 × Int32 × Int32 × Int32 × Int32 × Int32 × Int32 × (Nat → Int32)) (hf : X12_newCornerTo F o_size o_token o_from o_end o_value o_faultPlace o_faults o_at o_names o_text v1 = some u) :
    CtI l yX12_newCornerTo cX12_newCornerTo 2 (some .boolean) 7 E [.ref a_o, .int v1] (wd_X12_newCornerTo E a_o a_o_at a_o_names a_o_sort a_o_trayMany a_o_trays a_o_tape a_o_text a_o_opened a_o_farBy a_o_attendsBy a_o_coveredBy a_o_cameBy a_o_cameThen a_o_fallsBy a_o_loops a_o_ran a_o_told1 o_status o_top o_bottom o_taped o_size o_token o_from o_end o_value o_faultKind o_faultPlace o_faults o_seen o_toldParts o_depth o_counted o_becameThen o_firstCorner o_drawn o_ranSteps o_isTold o_marks o_at o_names o_text) (wd_X12_newCornerTo E a_o a_o_at a_o_names a_o_sort a_o_trayMany a_o_trays a_o_tape a_o_text a_o_opened a_o_farBy a_o_attendsBy a_o_coveredBy a_o_cameBy a_o_cameThen a_o_fallsBy a_o_loops a_o_ran a_o_told1 o_status o_top o_bottom o_taped o_size u.2.1 u.2.2.1 u.2.2.2.1 u.2.2.2.2.1 o_faultKind u.2.2.2.2.2.1 u.2.2.2.2.2.2.1 o_seen o_toldParts o_depth o_counted o_becameThen o_firstCorner o_drawn o_ranSteps o_isTold o_marks u.2.2.2.2.2.2.2 o_names o_text) u.1 := by
  refine ctI (by decide) (Nat.le_of_ble_eq_true rfl) ?_
  intro p e s m below meth cd A ls aa QQ hq cx hP hD hS hl
  obtain ⟨⟨hx, hb, hml, hown, hts⟩, hr, hlocks, hK, hA, hX⟩ := id cx
  have hl : lv_has ls 2 [(0, .ref a_o), (1, .int v1)] := hl
  unfold X12_newCornerTo at hf
  refine lv_aload_n hx hb dX12_newCornerTo_0 rfl (lv_at hl 0 rfl) ?_
  refine lv_bipush (v := 108) hx hb dX12_newCornerTo_1 (by decide) ?_
  refine lv_aload_n hx hb dX12_newCornerTo_3 rfl (lv_at hl 0 rfl) ?_
  refine va_get (D := E.1) (ci := 12) (v := .ref a_o_at) (C := RX12) (T := TX12) (N := 39) hx hb hts inX12 hown hK hP 0 rfl rfl 0 (by decide) (hts _ fl_X12_7) (fun _ h9 => h9) rfl dX12_newCornerTo_4 ?_
  refine lv_sipush (v := 1980) hx hb dX12_newCornerTo_7 (by decide) ?_
  obtain ⟨hi, hf⟩ := ck hf
  refine r_iald 1 cx hP rfl hi dX12_newCornerTo_10 ?_
  refine lv_iload_n hx hb dX12_newCornerTo_11 rfl (lv_at hl 1 rfl) ?_
  obtain ⟨u12, hu12, hf⟩ := bd hf
  refine callVI (wn := (wd_X12_newCornerTo E a_o a_o_at a_o_names a_o_sort a_o_trayMany a_o_trays a_o_tape a_o_text a_o_opened a_o_farBy a_o_attendsBy a_o_coveredBy a_o_cameBy a_o_cameThen a_o_fallsBy a_o_loops a_o_ran a_o_told1 o_status o_top o_bottom o_taped o_size u12.2.1 u12.2.2.1 u12.2.2.2.1 u12.2.2.2.2.1 o_faultKind u12.2.2.2.2.2.1 u12.2.2.2.2.2.2.1 o_seen o_toldParts o_depth o_counted o_becameThen o_firstCorner o_drawn o_ranSteps o_isTold o_marks u12.2.2.2.2.2.2.2 o_names o_text)) (n1 := 4) (ct_X12_oldOne l E F a_o a_o_at a_o_names a_o_sort a_o_trayMany a_o_trays a_o_tape a_o_text a_o_opened a_o_farBy a_o_attendsBy a_o_coveredBy a_o_cameBy a_o_cameThen a_o_fallsBy a_o_loops a_o_ran a_o_told1 o_status o_top o_bottom o_taped o_size o_token o_from o_end o_value o_faultKind o_faultPlace o_faults o_seen o_toldParts o_depth o_counted o_becameThen o_firstCorner o_drawn o_ranSteps o_isTold o_marks o_at o_names o_text (108 : Int32) (jat o_at 1980) v1 u12 hu12) [0, 1, 2, 3] cal_X12_oldOne cav_X12_oldOne lk_X12_191 cx hP hD hS hl dX12_newCornerTo_12 rfl rfl rfl rfl (Nat.le_of_ble_eq_true rfl) ⟨Nat.le_of_ble_eq_true rfl, Nat.le_of_ble_eq_true rfl⟩ rfl (by decide +kernel) rfl [some 0, some 1, some 2, some 3] rfl (by decide +kernel) rfl (fun H locs hP hD hS => ?_)
  obtain ⟨hz, hf⟩ := ck hf
  obtain rfl := Option.some.inj hf
  subst hq
  exact retZ cx hz hP hD hS dX12_newCornerTo_15
def X12_aCorner (F : Nat) (o_size : Int32) (o_token : Int32) (o_from : Int32) (o_end : Int32) (o_value : Int32) (o_faultPlace : Int32) (o_faults : Int32) (o_at : Nat → Int32) (o_names : Nat → Int64) (o_text : Nat → Int32) : Option (Int32 × Int32 × Int32 × Int32 × Int32 × Int32 × Int32 × (Nat → Int32) × (Nat → Int64)) :=
  (X12_newOne F o_size o_token o_from o_end o_value o_faultPlace o_faults o_at o_names o_text (0 : Int32) (8 : Int32) (0 : Int32)).bind fun u5 =>
  if u5.1 = 0 then
  some (0, u5.2.1, u5.2.2.1, u5.2.2.2.1, u5.2.2.2.2.1, u5.2.2.2.2.2.1, u5.2.2.2.2.2.2.1, o_at, u5.2.2.2.2.2.2.2)
  else
  if ix 1980 3097 then
  if ix 1980 3097 then
  some (1, u5.2.1, u5.2.2.1, u5.2.2.2.1, u5.2.2.2.2.1, u5.2.2.2.2.2.1, u5.2.2.2.2.2.2.1, (jput o_at 1980 ((jat o_at 1980) + 1)), u5.2.2.2.2.2.2.2)
  else none
  else none
abbrev wd_X12_aCorner (E : vE) (a_o a_o_at a_o_names a_o_sort a_o_trayMany a_o_trays a_o_tape a_o_text a_o_opened a_o_farBy a_o_attendsBy a_o_coveredBy a_o_cameBy a_o_cameThen a_o_fallsBy a_o_loops a_o_ran a_o_told1 : Nat) (o_status : Int32) (o_top : Int64) (o_bottom : Int64) (o_taped : Int32) (o_size : Int32) (o_token : Int32) (o_from : Int32) (o_end : Int32) (o_value : Int32) (o_faultKind : Int32) (o_faultPlace : Int32) (o_faults : Int32) (o_seen : Int32) (o_toldParts : Int32) (o_depth : Int32) (o_counted : Int32) (o_becameThen : Int32) (o_firstCorner : Int32) (o_drawn : Int32) (o_ranSteps : Int32) (o_isTold : Int32) (o_marks : Int32) (o_at : Nat → Int32) (o_names : Nat → Int64) (o_text : Nat → Int32) : va_W := [(a_o, .inr (12, [.ref a_o_at, .ref a_o_names, .int o_status, .long o_top, .long o_bottom, .ref a_o_sort, .ref a_o_trayMany, .ref a_o_trays, .ref a_o_tape, .ref a_o_text, .int o_taped, .int o_size, .int o_token, .int o_from, .int o_end, .int o_value, .int o_faultKind, .int o_faultPlace, .int o_faults, .int o_seen, .int o_toldParts, .ref a_o_opened, .int o_depth, .int o_counted, .ref a_o_farBy, .int o_becameThen, .ref a_o_attendsBy, .ref a_o_coveredBy, .ref a_o_cameBy, .ref a_o_cameThen, .int o_firstCorner, .ref a_o_fallsBy, .int o_drawn, .int o_ranSteps, .ref a_o_loops, .ref a_o_ran, .ref a_o_told1, .int o_isTold, .int o_marks])), (a_o_at, .inl (E.2.1, 3097, .inl o_at)), (a_o_names, .inl (E.2.2.1, 162, .inr (.inl o_names))), (a_o_text, .inl (E.2.2.2.1, 900, .inl o_text))]
set_option maxHeartbeats 4000000 in
set_option maxRecDepth 100000 in
theorem ct_X12_aCorner (l : Launch) (E : vE) (F : Nat) (a_o a_o_at a_o_names a_o_sort a_o_trayMany a_o_trays a_o_tape a_o_text a_o_opened a_o_farBy a_o_attendsBy a_o_coveredBy a_o_cameBy a_o_cameThen a_o_fallsBy a_o_loops a_o_ran a_o_told1 : Nat) (o_status : Int32) (o_top : Int64) (o_bottom : Int64) (o_taped : Int32) (o_size : Int32) (o_token : Int32) (o_from : Int32) (o_end : Int32) (o_value : Int32) (o_faultKind : Int32) (o_faultPlace : Int32) (o_faults : Int32) (o_seen : Int32) (o_toldParts : Int32) (o_depth : Int32) (o_counted : Int32) (o_becameThen : Int32) (o_firstCorner : Int32) (o_drawn : Int32) (o_ranSteps : Int32) (o_isTold : Int32) (o_marks : Int32) (o_at : Nat → Int32) (o_names : Nat → Int64) (o_text : Nat → Int32) (u : Int32 × Int32 × Int32 × Int32 × Int32 × Int32 × Int32 × (Nat → Int32) × (Nat → Int64)) (hf : X12_aCorner F o_size o_token o_from o_end o_value o_faultPlace o_faults o_at o_names o_text = some u) :
    CtI l yX12_aCorner cX12_aCorner 1 (some .boolean) 7 E [.ref a_o] (wd_X12_aCorner E a_o a_o_at a_o_names a_o_sort a_o_trayMany a_o_trays a_o_tape a_o_text a_o_opened a_o_farBy a_o_attendsBy a_o_coveredBy a_o_cameBy a_o_cameThen a_o_fallsBy a_o_loops a_o_ran a_o_told1 o_status o_top o_bottom o_taped o_size o_token o_from o_end o_value o_faultKind o_faultPlace o_faults o_seen o_toldParts o_depth o_counted o_becameThen o_firstCorner o_drawn o_ranSteps o_isTold o_marks o_at o_names o_text) (wd_X12_aCorner E a_o a_o_at a_o_names a_o_sort a_o_trayMany a_o_trays a_o_tape a_o_text a_o_opened a_o_farBy a_o_attendsBy a_o_coveredBy a_o_cameBy a_o_cameThen a_o_fallsBy a_o_loops a_o_ran a_o_told1 o_status o_top o_bottom o_taped o_size u.2.1 u.2.2.1 u.2.2.2.1 u.2.2.2.2.1 o_faultKind u.2.2.2.2.2.1 u.2.2.2.2.2.2.1 o_seen o_toldParts o_depth o_counted o_becameThen o_firstCorner o_drawn o_ranSteps o_isTold o_marks u.2.2.2.2.2.2.2.1 u.2.2.2.2.2.2.2.2 o_text) u.1 := by
  refine ctI (by decide) (Nat.le_of_ble_eq_true rfl) ?_
  intro p e s m below meth cd A ls aa QQ hq cx hP hD hS hl
  obtain ⟨⟨hx, hb, hml, hown, hts⟩, hr, hlocks, hK, hA, hX⟩ := id cx
  have hl : lv_has ls 1 [(0, .ref a_o)] := hl
  unfold X12_aCorner at hf
  refine lv_aload_n hx hb dX12_aCorner_0 rfl (lv_at hl 0 rfl) ?_
  refine lv_iconst (v := 0) hx hb dX12_aCorner_1 (by decide) ?_
  refine lv_bipush (v := 8) hx hb dX12_aCorner_2 (by decide) ?_
  refine lv_iconst (v := 0) hx hb dX12_aCorner_4 (by decide) ?_
  obtain ⟨u5, hu5, hf⟩ := bd hf
  refine callVI (wn := (wd_X12_aCorner E a_o a_o_at a_o_names a_o_sort a_o_trayMany a_o_trays a_o_tape a_o_text a_o_opened a_o_farBy a_o_attendsBy a_o_coveredBy a_o_cameBy a_o_cameThen a_o_fallsBy a_o_loops a_o_ran a_o_told1 o_status o_top o_bottom o_taped o_size u5.2.1 u5.2.2.1 u5.2.2.2.1 u5.2.2.2.2.1 o_faultKind u5.2.2.2.2.2.1 u5.2.2.2.2.2.2.1 o_seen o_toldParts o_depth o_counted o_becameThen o_firstCorner o_drawn o_ranSteps o_isTold o_marks o_at u5.2.2.2.2.2.2.2 o_text)) (n1 := 4) (ct_X12_newOne l E F a_o a_o_at a_o_names a_o_sort a_o_trayMany a_o_trays a_o_tape a_o_text a_o_opened a_o_farBy a_o_attendsBy a_o_coveredBy a_o_cameBy a_o_cameThen a_o_fallsBy a_o_loops a_o_ran a_o_told1 o_status o_top o_bottom o_taped o_size o_token o_from o_end o_value o_faultKind o_faultPlace o_faults o_seen o_toldParts o_depth o_counted o_becameThen o_firstCorner o_drawn o_ranSteps o_isTold o_marks o_at o_names o_text (0 : Int32) (8 : Int32) (0 : Int32) u5 hu5) [0, 1, 2, 3] cal_X12_newOne cav_X12_newOne lk_X12_195 cx hP hD hS hl dX12_aCorner_5 rfl rfl rfl rfl (Nat.le_of_ble_eq_true rfl) ⟨Nat.le_of_ble_eq_true rfl, Nat.le_of_ble_eq_true rfl⟩ rfl (by decide +kernel) rfl [some 0, some 1, some 2, some 3] rfl (by decide +kernel) rfl (fun H locs hP hD hS => ?_)
  refine lv_if_ne (tgt := 13) hx hb dX12_aCorner_8 (by decide) (fun hc => ?_) (fun hc => ?_)
  · have hf := it_f hc hf
    refine lv_aload_n hx hb dX12_aCorner_13 rfl (lv_at hl 0 rfl) ?_
    refine va_get (D := E.1) (ci := 12) (v := .ref a_o_at) (C := RX12) (T := TX12) (N := 39) hx hb hts inX12 hown hK hP 0 rfl rfl 0 (by decide) (hts _ fl_X12_7) (fun _ h9 => h9) rfl dX12_aCorner_14 ?_
    refine lv_sipush (v := 1980) hx hb dX12_aCorner_17 (by decide) ?_
    refine lv_dup2_11 hx hb dX12_aCorner_20 rfl rfl ?_
    obtain ⟨hi, hf⟩ := ck hf
    refine r_iald 1 cx hP rfl hi dX12_aCorner_21 ?_
    refine lv_iconst (v := 1) hx hb dX12_aCorner_22 (by decide) ?_
    refine lv_iadd hx hb dX12_aCorner_23 ?_
    obtain ⟨hi, hf⟩ := ck hf
    refine r_iast 1 cx hP hD hS rfl hi dX12_aCorner_24 (fun H locs hP hD hS => ?_)
    have hP : va_P E.1 vwCl (wd_X12_aCorner E a_o a_o_at a_o_names a_o_sort a_o_trayMany a_o_trays a_o_tape a_o_text a_o_opened a_o_farBy a_o_attendsBy a_o_coveredBy a_o_cameBy a_o_cameThen a_o_fallsBy a_o_loops a_o_ran a_o_told1 o_status o_top o_bottom o_taped o_size u5.2.1 u5.2.2.1 u5.2.2.2.1 u5.2.2.2.2.1 o_faultKind u5.2.2.2.2.2.1 u5.2.2.2.2.2.2.1 o_seen o_toldParts o_depth o_counted o_becameThen o_firstCorner o_drawn o_ranSteps o_isTold o_marks (jput o_at 1980 ((jat o_at 1980) + 1)) u5.2.2.2.2.2.2.2 o_text) H := hP
    have hD : va_D A (wd_X12_aCorner E a_o a_o_at a_o_names a_o_sort a_o_trayMany a_o_trays a_o_tape a_o_text a_o_opened a_o_farBy a_o_attendsBy a_o_coveredBy a_o_cameBy a_o_cameThen a_o_fallsBy a_o_loops a_o_ran a_o_told1 o_status o_top o_bottom o_taped o_size u5.2.1 u5.2.2.1 u5.2.2.2.1 u5.2.2.2.2.1 o_faultKind u5.2.2.2.2.2.1 u5.2.2.2.2.2.2.1 o_seen o_toldParts o_depth o_counted o_becameThen o_firstCorner o_drawn o_ranSteps o_isTold o_marks (jput o_at 1980 ((jat o_at 1980) + 1)) u5.2.2.2.2.2.2.2 o_text) := hD
    refine lv_iconst (v := 1) hx hb dX12_aCorner_25 (by decide) ?_
    obtain rfl := Option.some.inj hf
    subst hq
    exact retZ cx rfl hP hD hS dX12_aCorner_26
  · have hf := it_t hc hf
    refine lv_iconst (v := 0) hx hb dX12_aCorner_11 (by decide) ?_
    obtain rfl := Option.some.inj hf
    subst hq
    exact retZ cx rfl hP hD hS dX12_aCorner_12
def X12_roadRow (v0 : Int32) : Option (Int32) :=
  some (12 + (3 * v0))
abbrev wd_X12_roadRow (E : vE) : va_W := []
set_option maxHeartbeats 4000000 in
set_option maxRecDepth 100000 in
theorem ct_X12_roadRow (l : Launch) (E : vE) (v0 : Int32) (u : Int32) (hf : X12_roadRow v0 = some u) :
    CtI l yX12_roadRow cX12_roadRow 1 (some .int) 0 E [.int v0] (wd_X12_roadRow E) (wd_X12_roadRow E) u := by
  refine ctI (by decide) (Nat.le_of_ble_eq_true rfl) ?_
  intro p e s m below meth cd A ls aa QQ hq cx hP hD hS hl
  obtain ⟨⟨hx, hb, hml, hown, hts⟩, hr, hlocks, hK, hA, hX⟩ := id cx
  have hl : lv_has ls 1 [(0, .int v0)] := hl
  unfold X12_roadRow at hf
  refine lv_bipush (v := 12) hx hb dX12_roadRow_0 (by decide) ?_
  refine lv_iconst (v := 3) hx hb dX12_roadRow_2 (by decide) ?_
  refine lv_iload_n hx hb dX12_roadRow_3 rfl (lv_at hl 0 rfl) ?_
  refine lv_imul hx hb dX12_roadRow_4 ?_
  refine lv_iadd hx hb dX12_roadRow_5 ?_
  obtain rfl := Option.some.inj hf
  subst hq
  exact retI cx hP hD hS dX12_roadRow_6
def X12_aRoad_j88 (F : Nat) (o_size : Int32) (o_token : Int32) (o_from : Int32) (o_end : Int32) (o_value : Int32) (o_faultPlace : Int32) (o_faults : Int32) (o_at : Nat → Int32) (o_names : Nat → Int64) (o_text : Nat → Int32) (v1 : Int32) : Option (Int32 × Int32 × Int32 × Int32 × Int32 × Int32 × Int32 × (Nat → Int32)) :=
  (X12_newCornerTo F o_size o_token o_from o_end o_value o_faultPlace o_faults o_at o_names o_text (v1 + 1)).bind fun u92 =>
  if u92.1 = 0 then
  some (0, u92.2.1, u92.2.2.1, u92.2.2.2.1, u92.2.2.2.2.1, u92.2.2.2.2.2.1, u92.2.2.2.2.2.2.1, u92.2.2.2.2.2.2.2)
  else
  (X12_wantWord F o_size u92.2.1 u92.2.2.1 u92.2.2.2.1 u92.2.2.2.2.1 u92.2.2.2.2.2.1 u92.2.2.2.2.2.2.1 o_text (9 : Int32)).bind fun u103 =>
  if u103.1 = 0 then
  some (0, u103.2.1, u103.2.2.1, u103.2.2.2.1, u103.2.2.2.2.1, u103.2.2.2.2.2.1, u103.2.2.2.2.2.2, u92.2.2.2.2.2.2.2)
  else
  (X12_number F o_size u103.2.1 u103.2.2.1 u103.2.2.2.1 u103.2.2.2.2.1 u103.2.2.2.2.2.1 u103.2.2.2.2.2.2 u92.2.2.2.2.2.2.2 o_text (v1 + 2) (1 : Int32) (9 : Int32)).bind fun u116 =>
  if u116.1 = 0 then
  some (0, u116.2.1, u116.2.2.1, u116.2.2.2.1, u116.2.2.2.2.1, u116.2.2.2.2.2.1, u116.2.2.2.2.2.2.1, u116.2.2.2.2.2.2.2)
  else
  if ix 1981 3097 then
  if ix 1981 3097 then
  some (1, u116.2.1, u116.2.2.1, u116.2.2.2.1, u116.2.2.2.2.1, u116.2.2.2.2.2.1, u116.2.2.2.2.2.2.1, (jput u116.2.2.2.2.2.2.2 1981 ((jat u116.2.2.2.2.2.2.2 1981) + 1)))
  else none
  else none
def X12_aRoad (F : Nat) (o_size : Int32) (o_token : Int32) (o_from : Int32) (o_end : Int32) (o_value : Int32) (o_faultPlace : Int32) (o_faults : Int32) (o_at : Nat → Int32) (o_names : Nat → Int64) (o_text : Nat → Int32) : Option (Int32 × Int32 × Int32 × Int32 × Int32 × Int32 × Int32 × (Nat → Int32)) :=
  if ix 1981 3097 then
  if (jat o_at 1981) = 12 then
  (X12_fails o_token o_from o_faultPlace o_faults (6 : Int32)).bind fun u16 =>
  if isZ u16.1 then some (u16.1, o_token, o_from, o_end, o_value, u16.2.1, u16.2.2, o_at) else none
  else
  if ix 1981 3097 then
  (X12_roadRow (jat o_at 1981)).bind fun u31 =>
  (X12_ahead F o_size o_token o_from o_end o_value o_text).bind fun u37 =>
  (X12_newCornerTo F o_size u37.1 u37.2.1 u37.2.2.1 u37.2.2.2 o_faultPlace o_faults o_at o_names o_text (1980 + u31)).bind fun u42 =>
  if u42.1 = 0 then
  some (0, u42.2.1, u42.2.2.1, u42.2.2.2.1, u42.2.2.2.2.1, u42.2.2.2.2.2.1, u42.2.2.2.2.2.2.1, u42.2.2.2.2.2.2.2)
  else
  (X12_isName F o_size u42.2.1 u42.2.2.1 u42.2.2.2.1 o_text).bind fun u53 =>
  if u53 = 0 then
  X12_aRoad_j88 F o_size u42.2.1 u42.2.2.1 u42.2.2.2.1 u42.2.2.2.2.1 u42.2.2.2.2.2.1 u42.2.2.2.2.2.2.1 u42.2.2.2.2.2.2.2 o_names o_text (1980 + u31)
  else
  if ix 1980 3097 then
  (X12_findHere F o_size u42.2.2.1 u42.2.2.2.1 o_names o_text (108 : Int32) (jat u42.2.2.2.2.2.2.2 1980)).bind fun u70 =>
  if ix (1980 + u31) 3097 then
  if u70 = (jat u42.2.2.2.2.2.2.2 (1980 + u31)) then
  (X12_fails u42.2.1 u42.2.2.1 u42.2.2.2.2.2.1 u42.2.2.2.2.2.2.1 (5 : Int32)).bind fun u84 =>
  if isZ u84.1 then some (u84.1, u42.2.1, u42.2.2.1, u42.2.2.2.1, u42.2.2.2.2.1, u84.2.1, u84.2.2, u42.2.2.2.2.2.2.2) else none
  else
  X12_aRoad_j88 F o_size u42.2.1 u42.2.2.1 u42.2.2.2.1 u42.2.2.2.2.1 u42.2.2.2.2.2.1 u42.2.2.2.2.2.2.1 u42.2.2.2.2.2.2.2 o_names o_text (1980 + u31)
  else none
  else none
  else none
  else none
abbrev wd_X12_aRoad (E : vE) (a_o a_o_at a_o_names a_o_sort a_o_trayMany a_o_trays a_o_tape a_o_text a_o_opened a_o_farBy a_o_attendsBy a_o_coveredBy a_o_cameBy a_o_cameThen a_o_fallsBy a_o_loops a_o_ran a_o_told1 : Nat) (o_status : Int32) (o_top : Int64) (o_bottom : Int64) (o_taped : Int32) (o_size : Int32) (o_token : Int32) (o_from : Int32) (o_end : Int32) (o_value : Int32) (o_faultKind : Int32) (o_faultPlace : Int32) (o_faults : Int32) (o_seen : Int32) (o_toldParts : Int32) (o_depth : Int32) (o_counted : Int32) (o_becameThen : Int32) (o_firstCorner : Int32) (o_drawn : Int32) (o_ranSteps : Int32) (o_isTold : Int32) (o_marks : Int32) (o_at : Nat → Int32) (o_names : Nat → Int64) (o_text : Nat → Int32) : va_W := [(a_o, .inr (12, [.ref a_o_at, .ref a_o_names, .int o_status, .long o_top, .long o_bottom, .ref a_o_sort, .ref a_o_trayMany, .ref a_o_trays, .ref a_o_tape, .ref a_o_text, .int o_taped, .int o_size, .int o_token, .int o_from, .int o_end, .int o_value, .int o_faultKind, .int o_faultPlace, .int o_faults, .int o_seen, .int o_toldParts, .ref a_o_opened, .int o_depth, .int o_counted, .ref a_o_farBy, .int o_becameThen, .ref a_o_attendsBy, .ref a_o_coveredBy, .ref a_o_cameBy, .ref a_o_cameThen, .int o_firstCorner, .ref a_o_fallsBy, .int o_drawn, .int o_ranSteps, .ref a_o_loops, .ref a_o_ran, .ref a_o_told1, .int o_isTold, .int o_marks])), (a_o_at, .inl (E.2.1, 3097, .inl o_at)), (a_o_names, .inl (E.2.2.1, 162, .inr (.inl o_names))), (a_o_text, .inl (E.2.2.2.1, 900, .inl o_text))]
set_option maxHeartbeats 4000000 in
set_option maxRecDepth 100000 in
theorem ct_X12_aRoad (l : Launch) (E : vE) (F : Nat) (a_o a_o_at a_o_names a_o_sort a_o_trayMany a_o_trays a_o_tape a_o_text a_o_opened a_o_farBy a_o_attendsBy a_o_coveredBy a_o_cameBy a_o_cameThen a_o_fallsBy a_o_loops a_o_ran a_o_told1 : Nat) (o_status : Int32) (o_top : Int64) (o_bottom : Int64) (o_taped : Int32) (o_size : Int32) (o_token : Int32) (o_from : Int32) (o_end : Int32) (o_value : Int32) (o_faultKind : Int32) (o_faultPlace : Int32) (o_faults : Int32) (o_seen : Int32) (o_toldParts : Int32) (o_depth : Int32) (o_counted : Int32) (o_becameThen : Int32) (o_firstCorner : Int32) (o_drawn : Int32) (o_ranSteps : Int32) (o_isTold : Int32) (o_marks : Int32) (o_at : Nat → Int32) (o_names : Nat → Int64) (o_text : Nat → Int32) (u : Int32 × Int32 × Int32 × Int32 × Int32 × Int32 × Int32 × (Nat → Int32)) (hf : X12_aRoad F o_size o_token o_from o_end o_value o_faultPlace o_faults o_at o_names o_text = some u) :
    CtI l yX12_aRoad cX12_aRoad 2 (some .boolean) 8 E [.ref a_o] (wd_X12_aRoad E a_o a_o_at a_o_names a_o_sort a_o_trayMany a_o_trays a_o_tape a_o_text a_o_opened a_o_farBy a_o_attendsBy a_o_coveredBy a_o_cameBy a_o_cameThen a_o_fallsBy a_o_loops a_o_ran a_o_told1 o_status o_top o_bottom o_taped o_size o_token o_from o_end o_value o_faultKind o_faultPlace o_faults o_seen o_toldParts o_depth o_counted o_becameThen o_firstCorner o_drawn o_ranSteps o_isTold o_marks o_at o_names o_text) (wd_X12_aRoad E a_o a_o_at a_o_names a_o_sort a_o_trayMany a_o_trays a_o_tape a_o_text a_o_opened a_o_farBy a_o_attendsBy a_o_coveredBy a_o_cameBy a_o_cameThen a_o_fallsBy a_o_loops a_o_ran a_o_told1 o_status o_top o_bottom o_taped o_size u.2.1 u.2.2.1 u.2.2.2.1 u.2.2.2.2.1 o_faultKind u.2.2.2.2.2.1 u.2.2.2.2.2.2.1 o_seen o_toldParts o_depth o_counted o_becameThen o_firstCorner o_drawn o_ranSteps o_isTold o_marks u.2.2.2.2.2.2.2 o_names o_text) u.1 := by
  refine ctI (by decide) (Nat.le_of_ble_eq_true rfl) ?_
  intro p e s m below meth cd A ls aa QQ hq cx hP hD hS hl
  obtain ⟨⟨hx, hb, hml, hown, hts⟩, hr, hlocks, hK, hA, hX⟩ := id cx
  have hl : lv_has ls 2 [(0, .ref a_o)] := hl
  have hj88 : ∀ (v1_j88 : Int32) (o_token_j88 : Int32) (o_from_j88 : Int32) (o_end_j88 : Int32) (o_value_j88 : Int32) (o_faultPlace_j88 : Int32) (o_faults_j88 : Int32) (o_at_j88 : Nat → Int32) (H : Heap) (locs : List Loc) (ls : Array Slot), X12_aRoad_j88 F o_size o_token_j88 o_from_j88 o_end_j88 o_value_j88 o_faultPlace_j88 o_faults_j88 o_at_j88 o_names o_text v1_j88 = some u → va_P E.1 vwCl (wd_X12_aRoad E a_o a_o_at a_o_names a_o_sort a_o_trayMany a_o_trays a_o_tape a_o_text a_o_opened a_o_farBy a_o_attendsBy a_o_coveredBy a_o_cameBy a_o_cameThen a_o_fallsBy a_o_loops a_o_ran a_o_told1 o_status o_top o_bottom o_taped o_size o_token_j88 o_from_j88 o_end_j88 o_value_j88 o_faultKind o_faultPlace_j88 o_faults_j88 o_seen o_toldParts o_depth o_counted o_becameThen o_firstCorner o_drawn o_ranSteps o_isTold o_marks o_at_j88 o_names o_text) H → va_D A (wd_X12_aRoad E a_o a_o_at a_o_names a_o_sort a_o_trayMany a_o_trays a_o_tape a_o_text a_o_opened a_o_farBy a_o_attendsBy a_o_coveredBy a_o_cameBy a_o_cameThen a_o_fallsBy a_o_loops a_o_ran a_o_told1 o_status o_top o_bottom o_taped o_size o_token_j88 o_from_j88 o_end_j88 o_value_j88 o_faultKind o_faultPlace_j88 o_faults_j88 o_seen o_toldParts o_depth o_counted o_becameThen o_firstCorner o_drawn o_ranSteps o_isTold o_marks o_at_j88 o_names o_text) → va_S A s.heap H locs → lv_has ls 2 [(0, .ref a_o), (1, .int v1_j88)] → W p l e (rmd 8) s m aa below meth cd H locs 0 0 QQ (F0 m 88 ls []) := by
    intro v1_j88 o_token_j88 o_from_j88 o_end_j88 o_value_j88 o_faultPlace_j88 o_faults_j88 o_at_j88 H locs ls hf hP hD hS hl
    unfold X12_aRoad_j88 at hf
    refine lv_aload_n hx hb dX12_aRoad_88 rfl (lv_at hl 0 rfl) ?_
    refine lv_iload_n hx hb dX12_aRoad_89 rfl (lv_at hl 1 rfl) ?_
    refine lv_iconst (v := 1) hx hb dX12_aRoad_90 (by decide) ?_
    refine lv_iadd hx hb dX12_aRoad_91 ?_
    obtain ⟨u92, hu92, hf⟩ := bd hf
    refine callVI (wn := (wd_X12_aRoad E a_o a_o_at a_o_names a_o_sort a_o_trayMany a_o_trays a_o_tape a_o_text a_o_opened a_o_farBy a_o_attendsBy a_o_coveredBy a_o_cameBy a_o_cameThen a_o_fallsBy a_o_loops a_o_ran a_o_told1 o_status o_top o_bottom o_taped o_size u92.2.1 u92.2.2.1 u92.2.2.2.1 u92.2.2.2.2.1 o_faultKind u92.2.2.2.2.2.1 u92.2.2.2.2.2.2.1 o_seen o_toldParts o_depth o_counted o_becameThen o_firstCorner o_drawn o_ranSteps o_isTold o_marks u92.2.2.2.2.2.2.2 o_names o_text)) (n1 := 4) (ct_X12_newCornerTo l E F a_o a_o_at a_o_names a_o_sort a_o_trayMany a_o_trays a_o_tape a_o_text a_o_opened a_o_farBy a_o_attendsBy a_o_coveredBy a_o_cameBy a_o_cameThen a_o_fallsBy a_o_loops a_o_ran a_o_told1 o_status o_top o_bottom o_taped o_size o_token_j88 o_from_j88 o_end_j88 o_value_j88 o_faultKind o_faultPlace_j88 o_faults_j88 o_seen o_toldParts o_depth o_counted o_becameThen o_firstCorner o_drawn o_ranSteps o_isTold o_marks o_at_j88 o_names o_text (v1_j88 + 1) u92 hu92) [0, 1, 2, 3] cal_X12_newCornerTo cav_X12_newCornerTo lk_X12_201 cx hP hD hS hl dX12_aRoad_92 rfl rfl rfl rfl (Nat.le_of_ble_eq_true rfl) ⟨Nat.le_of_ble_eq_true rfl, Nat.le_of_ble_eq_true rfl⟩ rfl (by decide +kernel) rfl [some 0, some 1, some 2, some 3] rfl (by decide +kernel) rfl (fun H locs hP hD hS => ?_)
    refine lv_if_eq (tgt := 122) hx hb dX12_aRoad_95 (by decide) (fun hc => ?_) (fun hc => ?_)
    · have hf := it_t hc hf
      refine lv_iconst (v := 0) hx hb dX12_aRoad_122 (by decide) ?_
      obtain rfl := Option.some.inj hf
      subst hq
      exact retZ cx rfl hP hD hS dX12_aRoad_123
    · have hf := it_f hc hf
      refine lv_aload_n hx hb dX12_aRoad_98 rfl (lv_at hl 0 rfl) ?_
      refine va_ldcS hx hb hown hX.2.2.2.2.1 dX12_aRoad_99 ?_
      refine lv_bipush (v := 9) hx hb dX12_aRoad_101 (by decide) ?_
      obtain ⟨u103, hu103, hf⟩ := bd hf
      refine callVI (wn := (wd_X12_aRoad E a_o a_o_at a_o_names a_o_sort a_o_trayMany a_o_trays a_o_tape a_o_text a_o_opened a_o_farBy a_o_attendsBy a_o_coveredBy a_o_cameBy a_o_cameThen a_o_fallsBy a_o_loops a_o_ran a_o_told1 o_status o_top o_bottom o_taped o_size u103.2.1 u103.2.2.1 u103.2.2.2.1 u103.2.2.2.2.1 o_faultKind u103.2.2.2.2.2.1 u103.2.2.2.2.2.2 o_seen o_toldParts o_depth o_counted o_becameThen o_firstCorner o_drawn o_ranSteps o_isTold o_marks u92.2.2.2.2.2.2.2 o_names o_text)) (n1 := 4) (ct_X12_wantWord l E F a_o a_o_at a_o_names a_o_sort a_o_trayMany a_o_trays a_o_tape a_o_text a_o_opened a_o_farBy a_o_attendsBy a_o_coveredBy a_o_cameBy a_o_cameThen a_o_fallsBy a_o_loops a_o_ran a_o_told1 o_status o_top o_bottom o_taped o_size u92.2.1 u92.2.2.1 u92.2.2.2.1 u92.2.2.2.2.1 o_faultKind u92.2.2.2.2.2.1 u92.2.2.2.2.2.2.1 o_seen o_toldParts o_depth o_counted o_becameThen o_firstCorner o_drawn o_ranSteps o_isTold o_marks o_text (9 : Int32) u103 hu103) [0, 3] cal_X12_wantWord cav_X12_wantWord lk_X12_204 cx hP hD hS hl dX12_aRoad_103 rfl rfl rfl rfl (Nat.le_of_ble_eq_true rfl) ⟨Nat.le_of_ble_eq_true rfl, Nat.le_of_ble_eq_true rfl⟩ rfl (by decide +kernel) rfl [some 0, none, none, some 1] rfl (by decide +kernel) rfl (fun H locs hP hD hS => ?_)
      refine lv_if_eq (tgt := 122) hx hb dX12_aRoad_106 (by decide) (fun hc => ?_) (fun hc => ?_)
      · have hf := it_t hc hf
        refine lv_iconst (v := 0) hx hb dX12_aRoad_122 (by decide) ?_
        obtain rfl := Option.some.inj hf
        subst hq
        exact retZ cx rfl hP hD hS dX12_aRoad_123
      · have hf := it_f hc hf
        refine lv_aload_n hx hb dX12_aRoad_109 rfl (lv_at hl 0 rfl) ?_
        refine lv_iload_n hx hb dX12_aRoad_110 rfl (lv_at hl 1 rfl) ?_
        refine lv_iconst (v := 2) hx hb dX12_aRoad_111 (by decide) ?_
        refine lv_iadd hx hb dX12_aRoad_112 ?_
        refine lv_iconst (v := 1) hx hb dX12_aRoad_113 (by decide) ?_
        refine lv_bipush (v := 9) hx hb dX12_aRoad_114 (by decide) ?_
        obtain ⟨u116, hu116, hf⟩ := bd hf
        refine callVI (wn := (wd_X12_aRoad E a_o a_o_at a_o_names a_o_sort a_o_trayMany a_o_trays a_o_tape a_o_text a_o_opened a_o_farBy a_o_attendsBy a_o_coveredBy a_o_cameBy a_o_cameThen a_o_fallsBy a_o_loops a_o_ran a_o_told1 o_status o_top o_bottom o_taped o_size u116.2.1 u116.2.2.1 u116.2.2.2.1 u116.2.2.2.2.1 o_faultKind u116.2.2.2.2.2.1 u116.2.2.2.2.2.2.1 o_seen o_toldParts o_depth o_counted o_becameThen o_firstCorner o_drawn o_ranSteps o_isTold o_marks u116.2.2.2.2.2.2.2 o_names o_text)) (n1 := 4) (ct_X12_number l E F a_o a_o_at a_o_names a_o_sort a_o_trayMany a_o_trays a_o_tape a_o_text a_o_opened a_o_farBy a_o_attendsBy a_o_coveredBy a_o_cameBy a_o_cameThen a_o_fallsBy a_o_loops a_o_ran a_o_told1 o_status o_top o_bottom o_taped o_size u103.2.1 u103.2.2.1 u103.2.2.2.1 u103.2.2.2.2.1 o_faultKind u103.2.2.2.2.2.1 u103.2.2.2.2.2.2 o_seen o_toldParts o_depth o_counted o_becameThen o_firstCorner o_drawn o_ranSteps o_isTold o_marks u92.2.2.2.2.2.2.2 o_text (v1_j88 + 2) (1 : Int32) (9 : Int32) u116 hu116) [0, 1, 3] cal_X12_number cav_X12_number lk_X12_208 cx hP hD hS hl dX12_aRoad_116 rfl rfl rfl rfl (Nat.le_of_ble_eq_true rfl) ⟨Nat.le_of_ble_eq_true rfl, Nat.le_of_ble_eq_true rfl⟩ rfl (by decide +kernel) rfl [some 0, some 1, none, some 2] rfl (by decide +kernel) rfl (fun H locs hP hD hS => ?_)
        refine lv_if_ne (tgt := 124) hx hb dX12_aRoad_119 (by decide) (fun hc => ?_) (fun hc => ?_)
        · have hf := it_f hc hf
          refine lv_aload_n hx hb dX12_aRoad_124 rfl (lv_at hl 0 rfl) ?_
          refine va_get (D := E.1) (ci := 12) (v := .ref a_o_at) (C := RX12) (T := TX12) (N := 39) hx hb hts inX12 hown hK hP 0 rfl rfl 0 (by decide) (hts _ fl_X12_7) (fun _ h9 => h9) rfl dX12_aRoad_125 ?_
          refine lv_sipush (v := 1981) hx hb dX12_aRoad_128 (by decide) ?_
          refine lv_dup2_11 hx hb dX12_aRoad_131 rfl rfl ?_
          obtain ⟨hi, hf⟩ := ck hf
          refine r_iald 1 cx hP rfl hi dX12_aRoad_132 ?_
          refine lv_iconst (v := 1) hx hb dX12_aRoad_133 (by decide) ?_
          refine lv_iadd hx hb dX12_aRoad_134 ?_
          obtain ⟨hi, hf⟩ := ck hf
          refine r_iast 1 cx hP hD hS rfl hi dX12_aRoad_135 (fun H locs hP hD hS => ?_)
          have hP : va_P E.1 vwCl (wd_X12_aRoad E a_o a_o_at a_o_names a_o_sort a_o_trayMany a_o_trays a_o_tape a_o_text a_o_opened a_o_farBy a_o_attendsBy a_o_coveredBy a_o_cameBy a_o_cameThen a_o_fallsBy a_o_loops a_o_ran a_o_told1 o_status o_top o_bottom o_taped o_size u116.2.1 u116.2.2.1 u116.2.2.2.1 u116.2.2.2.2.1 o_faultKind u116.2.2.2.2.2.1 u116.2.2.2.2.2.2.1 o_seen o_toldParts o_depth o_counted o_becameThen o_firstCorner o_drawn o_ranSteps o_isTold o_marks (jput u116.2.2.2.2.2.2.2 1981 ((jat u116.2.2.2.2.2.2.2 1981) + 1)) o_names o_text) H := hP
          have hD : va_D A (wd_X12_aRoad E a_o a_o_at a_o_names a_o_sort a_o_trayMany a_o_trays a_o_tape a_o_text a_o_opened a_o_farBy a_o_attendsBy a_o_coveredBy a_o_cameBy a_o_cameThen a_o_fallsBy a_o_loops a_o_ran a_o_told1 o_status o_top o_bottom o_taped o_size u116.2.1 u116.2.2.1 u116.2.2.2.1 u116.2.2.2.2.1 o_faultKind u116.2.2.2.2.2.1 u116.2.2.2.2.2.2.1 o_seen o_toldParts o_depth o_counted o_becameThen o_firstCorner o_drawn o_ranSteps o_isTold o_marks (jput u116.2.2.2.2.2.2.2 1981 ((jat u116.2.2.2.2.2.2.2 1981) + 1)) o_names o_text) := hD
          refine lv_iconst (v := 1) hx hb dX12_aRoad_136 (by decide) ?_
          obtain rfl := Option.some.inj hf
          subst hq
          exact retZ cx rfl hP hD hS dX12_aRoad_137
        · have hf := it_t hc hf
          refine lv_iconst (v := 0) hx hb dX12_aRoad_122 (by decide) ?_
          obtain rfl := Option.some.inj hf
          subst hq
          exact retZ cx rfl hP hD hS dX12_aRoad_123
  unfold X12_aRoad at hf
  refine lv_aload_n hx hb dX12_aRoad_0 rfl (lv_at hl 0 rfl) ?_
  refine va_get (D := E.1) (ci := 12) (v := .ref a_o_at) (C := RX12) (T := TX12) (N := 39) hx hb hts inX12 hown hK hP 0 rfl rfl 0 (by decide) (hts _ fl_X12_7) (fun _ h9 => h9) rfl dX12_aRoad_1 ?_
  refine lv_sipush (v := 1981) hx hb dX12_aRoad_4 (by decide) ?_
  obtain ⟨hi, hf⟩ := ck hf
  refine r_iald 1 cx hP rfl hi dX12_aRoad_7 ?_
  refine lv_bipush (v := 12) hx hb dX12_aRoad_8 (by decide) ?_
  refine lv_icmp_ne (tgt := 20) hx hb dX12_aRoad_10 (by decide) (fun hc => ?_) (fun hc => ?_)
  · have hf := it_f hc hf
    refine lv_sipush (v := 1980) hx hb dX12_aRoad_20 (by decide) ?_
    refine lv_aload_n hx hb dX12_aRoad_23 rfl (lv_at hl 0 rfl) ?_
    refine va_get (D := E.1) (ci := 12) (v := .ref a_o_at) (C := RX12) (T := TX12) (N := 39) hx hb hts inX12 hown hK hP 0 rfl rfl 0 (by decide) (hts _ fl_X12_7) (fun _ h9 => h9) rfl dX12_aRoad_24 ?_
    refine lv_sipush (v := 1981) hx hb dX12_aRoad_27 (by decide) ?_
    obtain ⟨hi, hf⟩ := ck hf
    refine r_iald 1 cx hP rfl hi dX12_aRoad_30 ?_
    obtain ⟨u31, hu31, hf⟩ := bd hf
    refine keepSI (ct_X12_roadRow l E (jat o_at 1981) u31 hu31) [] cal_X12_roadRow sta_X12_roadRow lk_X12_198 cx hP hD hS hl dX12_aRoad_31 rfl rfl (Nat.le_of_ble_eq_true rfl) ⟨Nat.le_of_ble_eq_true rfl, Nat.le_of_ble_eq_true rfl⟩ rfl (by decide) (fun H locs hP hS => ?_)
    refine lv_iadd hx hb dX12_aRoad_34 ?_
    refine lv_istore_n (lv' := [(1, .int (1980 + u31)), (0, .ref a_o)]) hx hb dX12_aRoad_35 rfl hl (by decide) rfl (fun ls hl => ?_)
    refine lv_aload_n hx hb dX12_aRoad_36 rfl (lv_at hl 1 rfl) ?_
    obtain ⟨u37, hu37, hf⟩ := bd hf
    refine callVV (wn := (wd_X12_aRoad E a_o a_o_at a_o_names a_o_sort a_o_trayMany a_o_trays a_o_tape a_o_text a_o_opened a_o_farBy a_o_attendsBy a_o_coveredBy a_o_cameBy a_o_cameThen a_o_fallsBy a_o_loops a_o_ran a_o_told1 o_status o_top o_bottom o_taped o_size u37.1 u37.2.1 u37.2.2.1 u37.2.2.2 o_faultKind o_faultPlace o_faults o_seen o_toldParts o_depth o_counted o_becameThen o_firstCorner o_drawn o_ranSteps o_isTold o_marks o_at o_names o_text)) (n1 := 4) (ct_X12_ahead l E F a_o a_o_at a_o_names a_o_sort a_o_trayMany a_o_trays a_o_tape a_o_text a_o_opened a_o_farBy a_o_attendsBy a_o_coveredBy a_o_cameBy a_o_cameThen a_o_fallsBy a_o_loops a_o_ran a_o_told1 o_status o_top o_bottom o_taped o_size o_token o_from o_end o_value o_faultKind o_faultPlace o_faults o_seen o_toldParts o_depth o_counted o_becameThen o_firstCorner o_drawn o_ranSteps o_isTold o_marks o_text u37 hu37) [0, 3] cal_X12_ahead cav_X12_ahead lk_X12_161 cx hP hD hS hl dX12_aRoad_37 rfl rfl rfl rfl (Nat.le_of_ble_eq_true rfl) ⟨Nat.le_of_ble_eq_true rfl, Nat.le_of_ble_eq_true rfl⟩ rfl (by decide +kernel) rfl [some 0, none, none, some 1] rfl (by decide +kernel) rfl (fun H locs hP hD hS => ?_)
    refine lv_aload_n hx hb dX12_aRoad_40 rfl (lv_at hl 1 rfl) ?_
    refine lv_iload_n hx hb dX12_aRoad_41 rfl (lv_at hl 0 rfl) ?_
    obtain ⟨u42, hu42, hf⟩ := bd hf
    refine callVI (wn := (wd_X12_aRoad E a_o a_o_at a_o_names a_o_sort a_o_trayMany a_o_trays a_o_tape a_o_text a_o_opened a_o_farBy a_o_attendsBy a_o_coveredBy a_o_cameBy a_o_cameThen a_o_fallsBy a_o_loops a_o_ran a_o_told1 o_status o_top o_bottom o_taped o_size u42.2.1 u42.2.2.1 u42.2.2.2.1 u42.2.2.2.2.1 o_faultKind u42.2.2.2.2.2.1 u42.2.2.2.2.2.2.1 o_seen o_toldParts o_depth o_counted o_becameThen o_firstCorner o_drawn o_ranSteps o_isTold o_marks u42.2.2.2.2.2.2.2 o_names o_text)) (n1 := 4) (ct_X12_newCornerTo l E F a_o a_o_at a_o_names a_o_sort a_o_trayMany a_o_trays a_o_tape a_o_text a_o_opened a_o_farBy a_o_attendsBy a_o_coveredBy a_o_cameBy a_o_cameThen a_o_fallsBy a_o_loops a_o_ran a_o_told1 o_status o_top o_bottom o_taped o_size u37.1 u37.2.1 u37.2.2.1 u37.2.2.2 o_faultKind o_faultPlace o_faults o_seen o_toldParts o_depth o_counted o_becameThen o_firstCorner o_drawn o_ranSteps o_isTold o_marks o_at o_names o_text (1980 + u31) u42 hu42) [0, 1, 2, 3] cal_X12_newCornerTo cav_X12_newCornerTo lk_X12_201 cx hP hD hS hl dX12_aRoad_42 rfl rfl rfl rfl (Nat.le_of_ble_eq_true rfl) ⟨Nat.le_of_ble_eq_true rfl, Nat.le_of_ble_eq_true rfl⟩ rfl (by decide +kernel) rfl [some 0, some 1, some 2, some 3] rfl (by decide +kernel) rfl (fun H locs hP hD hS => ?_)
    refine lv_if_ne (tgt := 50) hx hb dX12_aRoad_45 (by decide) (fun hc => ?_) (fun hc => ?_)
    · have hf := it_f hc hf
      refine lv_aload_n hx hb dX12_aRoad_50 rfl (lv_at hl 1 rfl) ?_
      refine va_ldcS hx hb hown hX.2.2.2.2.1 dX12_aRoad_51 ?_
      obtain ⟨u53, hu53, hf⟩ := bd hf
      refine keepVI (ct_X12_isName l E F a_o a_o_at a_o_names a_o_sort a_o_trayMany a_o_trays a_o_tape a_o_text a_o_opened a_o_farBy a_o_attendsBy a_o_coveredBy a_o_cameBy a_o_cameThen a_o_fallsBy a_o_loops a_o_ran a_o_told1 o_status o_top o_bottom o_taped o_size u42.2.1 u42.2.2.1 u42.2.2.2.1 u42.2.2.2.2.1 o_faultKind u42.2.2.2.2.2.1 u42.2.2.2.2.2.2.1 o_seen o_toldParts o_depth o_counted o_becameThen o_firstCorner o_drawn o_ranSteps o_isTold o_marks o_text u53 hu53) [0, 3] cal_X12_isName cav_X12_isName lk_X12_183 cx hP hD hS hl dX12_aRoad_53 rfl rfl rfl rfl (Nat.le_of_ble_eq_true rfl) ⟨Nat.le_of_ble_eq_true rfl, Nat.le_of_ble_eq_true rfl⟩ rfl (by decide) (fun H locs hP hS => ?_)
      refine lv_if_eq (tgt := 88) hx hb dX12_aRoad_56 (by decide) (fun hc => ?_) (fun hc => ?_)
      · have hf := it_t hc hf
        exact hj88 _ _ _ _ _ _ _ _ _ _ _ hf hP hD hS (lv_sub hl [1, 0] rfl)
      · have hf := it_f hc hf
        refine lv_aload_n hx hb dX12_aRoad_59 rfl (lv_at hl 1 rfl) ?_
        refine lv_bipush (v := 108) hx hb dX12_aRoad_60 (by decide) ?_
        refine lv_aload_n hx hb dX12_aRoad_62 rfl (lv_at hl 1 rfl) ?_
        refine va_get (D := E.1) (ci := 12) (v := .ref a_o_at) (C := RX12) (T := TX12) (N := 39) hx hb hts inX12 hown hK hP 0 rfl rfl 0 (by decide) (hts _ fl_X12_7) (fun _ h9 => h9) rfl dX12_aRoad_63 ?_
        refine lv_sipush (v := 1980) hx hb dX12_aRoad_66 (by decide) ?_
        obtain ⟨hi, hf⟩ := ck hf
        refine r_iald 1 cx hP rfl hi dX12_aRoad_69 ?_
        obtain ⟨u70, hu70, hf⟩ := bd hf
        refine keepVI (ct_X12_findHere l E F a_o a_o_at a_o_names a_o_sort a_o_trayMany a_o_trays a_o_tape a_o_text a_o_opened a_o_farBy a_o_attendsBy a_o_coveredBy a_o_cameBy a_o_cameThen a_o_fallsBy a_o_loops a_o_ran a_o_told1 o_status o_top o_bottom o_taped o_size u42.2.1 u42.2.2.1 u42.2.2.2.1 u42.2.2.2.2.1 o_faultKind u42.2.2.2.2.2.1 u42.2.2.2.2.2.2.1 o_seen o_toldParts o_depth o_counted o_becameThen o_firstCorner o_drawn o_ranSteps o_isTold o_marks o_names o_text (108 : Int32) (jat u42.2.2.2.2.2.2.2 1980) u70 hu70) [0, 2, 3] cal_X12_findHere cav_X12_findHere lk_X12_178 cx hP hD hS hl dX12_aRoad_70 rfl rfl rfl rfl (Nat.le_of_ble_eq_true rfl) ⟨Nat.le_of_ble_eq_true rfl, Nat.le_of_ble_eq_true rfl⟩ rfl (by decide) (fun H locs hP hS => ?_)
        refine lv_aload_n hx hb dX12_aRoad_73 rfl (lv_at hl 1 rfl) ?_
        refine va_get (D := E.1) (ci := 12) (v := .ref a_o_at) (C := RX12) (T := TX12) (N := 39) hx hb hts inX12 hown hK hP 0 rfl rfl 0 (by decide) (hts _ fl_X12_7) (fun _ h9 => h9) rfl dX12_aRoad_74 ?_
        refine lv_iload_n hx hb dX12_aRoad_77 rfl (lv_at hl 0 rfl) ?_
        obtain ⟨hi, hf⟩ := ck hf
        refine r_iald 1 cx hP rfl hi dX12_aRoad_78 ?_
        refine lv_icmp_ne (tgt := 88) hx hb dX12_aRoad_79 (by decide) (fun hc => ?_) (fun hc => ?_)
        · have hf := it_f hc hf
          exact hj88 _ _ _ _ _ _ _ _ _ _ _ hf hP hD hS (lv_sub hl [1, 0] rfl)
        · have hf := it_t hc hf
          refine lv_aload_n hx hb dX12_aRoad_82 rfl (lv_at hl 1 rfl) ?_
          refine lv_iconst (v := 5) hx hb dX12_aRoad_83 (by decide) ?_
          obtain ⟨u84, hu84, hf⟩ := bd hf
          refine callVI (wn := (wd_X12_aRoad E a_o a_o_at a_o_names a_o_sort a_o_trayMany a_o_trays a_o_tape a_o_text a_o_opened a_o_farBy a_o_attendsBy a_o_coveredBy a_o_cameBy a_o_cameThen a_o_fallsBy a_o_loops a_o_ran a_o_told1 o_status o_top o_bottom o_taped o_size u42.2.1 u42.2.2.1 u42.2.2.2.1 u42.2.2.2.2.1 o_faultKind u84.2.1 u84.2.2 o_seen o_toldParts o_depth o_counted o_becameThen o_firstCorner o_drawn o_ranSteps o_isTold o_marks u42.2.2.2.2.2.2.2 o_names o_text)) (n1 := 4) (ct_X12_fails l E a_o a_o_at a_o_names a_o_sort a_o_trayMany a_o_trays a_o_tape a_o_text a_o_opened a_o_farBy a_o_attendsBy a_o_coveredBy a_o_cameBy a_o_cameThen a_o_fallsBy a_o_loops a_o_ran a_o_told1 o_status o_top o_bottom o_taped o_size u42.2.1 u42.2.2.1 u42.2.2.2.1 u42.2.2.2.2.1 o_faultKind u42.2.2.2.2.2.1 u42.2.2.2.2.2.2.1 o_seen o_toldParts o_depth o_counted o_becameThen o_firstCorner o_drawn o_ranSteps o_isTold o_marks (5 : Int32) u84 hu84) [0] cal_X12_fails cav_X12_fails lk_X12_167 cx hP hD hS hl dX12_aRoad_84 rfl rfl rfl rfl (Nat.le_of_ble_eq_true rfl) ⟨Nat.le_of_ble_eq_true rfl, Nat.le_of_ble_eq_true rfl⟩ rfl (by decide +kernel) rfl [some 0, none, none, none] rfl (by decide +kernel) rfl (fun H locs hP hD hS => ?_)
          obtain ⟨hz, hf⟩ := ck hf
          obtain rfl := Option.some.inj hf
          subst hq
          exact retZ cx hz hP hD hS dX12_aRoad_87
    · have hf := it_t hc hf
      refine lv_iconst (v := 0) hx hb dX12_aRoad_48 (by decide) ?_
      obtain rfl := Option.some.inj hf
      subst hq
      exact retZ cx rfl hP hD hS dX12_aRoad_49
  · have hf := it_t hc hf
    refine lv_aload_n hx hb dX12_aRoad_13 rfl (lv_at hl 0 rfl) ?_
    refine lv_bipush (v := 6) hx hb dX12_aRoad_14 (by decide) ?_
    obtain ⟨u16, hu16, hf⟩ := bd hf
    refine callVI (wn := (wd_X12_aRoad E a_o a_o_at a_o_names a_o_sort a_o_trayMany a_o_trays a_o_tape a_o_text a_o_opened a_o_farBy a_o_attendsBy a_o_coveredBy a_o_cameBy a_o_cameThen a_o_fallsBy a_o_loops a_o_ran a_o_told1 o_status o_top o_bottom o_taped o_size o_token o_from o_end o_value o_faultKind u16.2.1 u16.2.2 o_seen o_toldParts o_depth o_counted o_becameThen o_firstCorner o_drawn o_ranSteps o_isTold o_marks o_at o_names o_text)) (n1 := 4) (ct_X12_fails l E a_o a_o_at a_o_names a_o_sort a_o_trayMany a_o_trays a_o_tape a_o_text a_o_opened a_o_farBy a_o_attendsBy a_o_coveredBy a_o_cameBy a_o_cameThen a_o_fallsBy a_o_loops a_o_ran a_o_told1 o_status o_top o_bottom o_taped o_size o_token o_from o_end o_value o_faultKind o_faultPlace o_faults o_seen o_toldParts o_depth o_counted o_becameThen o_firstCorner o_drawn o_ranSteps o_isTold o_marks (6 : Int32) u16 hu16) [0] cal_X12_fails cav_X12_fails lk_X12_167 cx hP hD hS hl dX12_aRoad_16 rfl rfl rfl rfl (Nat.le_of_ble_eq_true rfl) ⟨Nat.le_of_ble_eq_true rfl, Nat.le_of_ble_eq_true rfl⟩ rfl (by decide +kernel) rfl [some 0, none, none, none] rfl (by decide +kernel) rfl (fun H locs hP hD hS => ?_)
    obtain ⟨hz, hf⟩ := ck hf
    obtain rfl := Option.some.inj hf
    subst hq
    exact retZ cx hz hP hD hS dX12_aRoad_19
