def X11_fewestSet (F : Nat) (o_latestStatus : Int32) (o_city_clock : Int32) (o_city_streets_hours : Nat → Int32) (o_city_extras_many : Int32) (o_city_extras_cells : Nat → Int32) (o_city_happenings_many : Int32) (o_city_happenings_cells : Nat → Int32) (o_planner_lined : Int32) (o_planner_open : Int32) (o_planner_line : Nat → Int32) (o_planner_reached : Nat → Int32) : Option (Int32 × Int32 × Int32 × Int32 × (Nat → Int32) × (Nat → Int32)) :=
  (X4_lineUp F o_planner_lined o_planner_open o_planner_line o_city_clock o_city_happenings_many o_city_happenings_cells).bind fun u8 =>
  (X4_smallestTeam F u8.1 u8.2.1 u8.2.2 o_planner_reached o_city_clock o_city_streets_hours o_city_extras_many o_city_extras_cells o_city_happenings_many o_city_happenings_cells).bind fun u19 =>
  if u19.1 = (-1) then
  (X11_none o_latestStatus (6 : Int32)).bind fun u31 =>
  some (u31.1, u31.2, u8.1, u8.2.1, u8.2.2, u19.2)
  else
  (X11_answer o_latestStatus u19.1).bind fun u39 =>
  some (u39.1, u39.2, u8.1, u8.2.1, u8.2.2, u19.2)
abbrev wd_X11_fewestSet (E : vE) (a_o a_o_city a_o_ahead a_o_marks a_o_tape a_o_cityReader a_o_weeksReader a_o_trays a_o_planner a_o_ruler a_o_life a_o_latestLife a_o_city_streets a_o_city_names a_o_city_extras a_o_city_happenings a_o_city_watchers a_o_city_weeks a_o_city_streets_roads a_o_city_streets_takes a_o_city_streets_hours a_o_city_extras_cells a_o_city_happenings_cells a_o_planner_line a_o_planner_reached : Nat) (o_marked : Int32) (o_wasLived : Int32) (o_wasParsed : Int32) (o_faultKind : Int32) (o_faultPlace : Int32) (o_latestStatus : Int32) (o_fractionTop : Int64) (o_fractionBottom : Int64) (o_city_wage : Int32) (o_city_delay : Int32) (o_city_odds : Int32) (o_city_clock : Int32) (o_city_hasWeeks : Int32) (o_city_streets_corners : Int32) (o_city_streets_hours : Nat → Int32) (o_city_extras_many : Int32) (o_city_extras_cells : Nat → Int32) (o_city_happenings_many : Int32) (o_city_happenings_cells : Nat → Int32) (o_planner_lined : Int32) (o_planner_open : Int32) (o_planner_line : Nat → Int32) (o_planner_reached : Nat → Int32) : va_W := [(a_o, .inr (11, [.ref a_o_city, .ref a_o_ahead, .ref a_o_marks, .int o_marked, .ref a_o_tape, .ref a_o_cityReader, .ref a_o_weeksReader, .ref a_o_trays, .ref a_o_planner, .ref a_o_ruler, .ref a_o_life, .ref a_o_latestLife, .int o_wasLived, .int o_wasParsed, .int o_faultKind, .int o_faultPlace, .int o_latestStatus, .long o_fractionTop, .long o_fractionBottom])), (a_o_city, .inr (0, [.int o_city_wage, .int o_city_delay, .int o_city_odds, .int o_city_clock, .int o_city_hasWeeks, .ref a_o_city_streets, .ref a_o_city_names, .ref a_o_city_extras, .ref a_o_city_happenings, .ref a_o_city_watchers, .ref a_o_city_weeks])), (a_o_city_streets, .inr (6, [.int o_city_streets_corners, .ref a_o_city_streets_roads, .ref a_o_city_streets_takes, .ref a_o_city_streets_hours])), (a_o_city_streets_hours, .inl (E.2.1, 64, .inl o_city_streets_hours)), (a_o_city_extras, .inr (7, [.int 5, .ref a_o_city_extras_cells, .int o_city_extras_many])), (a_o_city_extras_cells, .inl (E.2.1, 35, .inl o_city_extras_cells)), (a_o_city_happenings, .inr (7, [.int 5, .ref a_o_city_happenings_cells, .int o_city_happenings_many])), (a_o_city_happenings_cells, .inl (E.2.1, 40, .inl o_city_happenings_cells)), (a_o_planner, .inr (4, [.ref a_o_planner_line, .int o_planner_lined, .ref a_o_planner_reached, .int o_planner_open])), (a_o_planner_line, .inl (E.2.1, 8, .inl o_planner_line)), (a_o_planner_reached, .inl (E.2.1, 256, .inl o_planner_reached))]
set_option maxHeartbeats 4000000 in
set_option maxRecDepth 100000 in
theorem ct_X11_fewestSet (l : Launch) (E : vE) (F : Nat) (a_o a_o_city a_o_ahead a_o_marks a_o_tape a_o_cityReader a_o_weeksReader a_o_trays a_o_planner a_o_ruler a_o_life a_o_latestLife a_o_city_streets a_o_city_names a_o_city_extras a_o_city_happenings a_o_city_watchers a_o_city_weeks a_o_city_streets_roads a_o_city_streets_takes a_o_city_streets_hours a_o_city_extras_cells a_o_city_happenings_cells a_o_planner_line a_o_planner_reached : Nat) (o_marked : Int32) (o_wasLived : Int32) (o_wasParsed : Int32) (o_faultKind : Int32) (o_faultPlace : Int32) (o_latestStatus : Int32) (o_fractionTop : Int64) (o_fractionBottom : Int64) (o_city_wage : Int32) (o_city_delay : Int32) (o_city_odds : Int32) (o_city_clock : Int32) (o_city_hasWeeks : Int32) (o_city_streets_corners : Int32) (o_city_streets_hours : Nat → Int32) (o_city_extras_many : Int32) (o_city_extras_cells : Nat → Int32) (o_city_happenings_many : Int32) (o_city_happenings_cells : Nat → Int32) (o_planner_lined : Int32) (o_planner_open : Int32) (o_planner_line : Nat → Int32) (o_planner_reached : Nat → Int32) (u : Int32 × Int32 × Int32 × Int32 × (Nat → Int32) × (Nat → Int32)) (hf : X11_fewestSet F o_latestStatus o_city_clock o_city_streets_hours o_city_extras_many o_city_extras_cells o_city_happenings_many o_city_happenings_cells o_planner_lined o_planner_open o_planner_line o_planner_reached = some u) :
    CtI l yX11_fewestSet cX11_fewestSet 2 (some .int) 6 E [.ref a_o] (wd_X11_fewestSet E a_o a_o_city a_o_ahead a_o_marks a_o_tape a_o_cityReader a_o_weeksReader a_o_trays a_o_planner a_o_ruler a_o_life a_o_latestLife a_o_city_streets a_o_city_names a_o_city_extras a_o_city_happenings a_o_city_watchers a_o_city_weeks a_o_city_streets_roads a_o_city_streets_takes a_o_city_streets_hours a_o_city_extras_cells a_o_city_happenings_cells a_o_planner_line a_o_planner_reached o_marked o_wasLived o_wasParsed o_faultKind o_faultPlace o_latestStatus o_fractionTop o_fractionBottom o_city_wage o_city_delay o_city_odds o_city_clock o_city_hasWeeks o_city_streets_corners o_city_streets_hours o_city_extras_many o_city_extras_cells o_city_happenings_many o_city_happenings_cells o_planner_lined o_planner_open o_planner_line o_planner_reached) (wd_X11_fewestSet E a_o a_o_city a_o_ahead a_o_marks a_o_tape a_o_cityReader a_o_weeksReader a_o_trays a_o_planner a_o_ruler a_o_life a_o_latestLife a_o_city_streets a_o_city_names a_o_city_extras a_o_city_happenings a_o_city_watchers a_o_city_weeks a_o_city_streets_roads a_o_city_streets_takes a_o_city_streets_hours a_o_city_extras_cells a_o_city_happenings_cells a_o_planner_line a_o_planner_reached o_marked o_wasLived o_wasParsed o_faultKind o_faultPlace u.2.1 o_fractionTop o_fractionBottom o_city_wage o_city_delay o_city_odds o_city_clock o_city_hasWeeks o_city_streets_corners o_city_streets_hours o_city_extras_many o_city_extras_cells o_city_happenings_many o_city_happenings_cells u.2.2.1 u.2.2.2.1 u.2.2.2.2.1 u.2.2.2.2.2) u.1 := by
  refine ctI (by decide) (Nat.le_of_ble_eq_true rfl) ?_
  intro p e s m below meth cd A ls aa QQ hq cx hP hD hS hl
  obtain ⟨⟨hx, hb, hml, hown, hts⟩, hr, hlocks, hK, hA, hX⟩ := id cx
  have hl : lv_has ls 2 [(0, .ref a_o)] := hl
  unfold X11_fewestSet at hf
  refine lv_aload_n hx hb dX11_fewestSet_0 rfl (lv_at hl 0 rfl) ?_
  refine va_get (D := E.1) (ci := 11) (v := .ref a_o_planner) (C := RX11) (T := TX11) (N := 19) hx hb hts inX11 hown hK hP 0 rfl rfl 8 (by decide) (hts _ fl_X11_56) (fun _ h9 => h9) rfl dX11_fewestSet_1 ?_
  refine lv_aload_n hx hb dX11_fewestSet_4 rfl (lv_at hl 0 rfl) ?_
  refine va_get (D := E.1) (ci := 11) (v := .ref a_o_city) (C := RX11) (T := TX11) (N := 19) hx hb hts inX11 hown hK hP 0 rfl rfl 0 (by decide) (hts _ fl_X11_10) (fun _ h9 => h9) rfl dX11_fewestSet_5 ?_
  obtain ⟨u8, hu8, hf⟩ := bd hf
  refine callVV (wn := (wd_X11_fewestSet E a_o a_o_city a_o_ahead a_o_marks a_o_tape a_o_cityReader a_o_weeksReader a_o_trays a_o_planner a_o_ruler a_o_life a_o_latestLife a_o_city_streets a_o_city_names a_o_city_extras a_o_city_happenings a_o_city_watchers a_o_city_weeks a_o_city_streets_roads a_o_city_streets_takes a_o_city_streets_hours a_o_city_extras_cells a_o_city_happenings_cells a_o_planner_line a_o_planner_reached o_marked o_wasLived o_wasParsed o_faultKind o_faultPlace o_latestStatus o_fractionTop o_fractionBottom o_city_wage o_city_delay o_city_odds o_city_clock o_city_hasWeeks o_city_streets_corners o_city_streets_hours o_city_extras_many o_city_extras_cells o_city_happenings_many o_city_happenings_cells u8.1 u8.2.1 u8.2.2 o_planner_reached)) (n1 := 11) (ct_X4_lineUp l E F a_o_planner a_o_planner_line a_o_planner_reached a_o_city a_o_city_streets a_o_city_names a_o_city_extras a_o_city_happenings a_o_city_watchers a_o_city_weeks a_o_city_happenings_cells o_planner_lined o_planner_open o_planner_line o_city_wage o_city_delay o_city_odds o_city_clock o_city_hasWeeks o_city_happenings_many o_city_happenings_cells u8 hu8) [8, 9, 1, 6, 7] cal_X4_lineUp cav_X4_lineUp lk_X11_322 cx hP hD hS hl dX11_fewestSet_8 rfl rfl rfl rfl (Nat.le_of_ble_eq_true rfl) ⟨Nat.le_of_ble_eq_true rfl, Nat.le_of_ble_eq_true rfl⟩ rfl (by decide +kernel) rfl [none, some 2, none, none, none, none, some 3, some 4, some 0, some 1, none] rfl (by decide +kernel) rfl (fun H locs hP hD hS => ?_)
  refine lv_aload_n hx hb dX11_fewestSet_11 rfl (lv_at hl 0 rfl) ?_
  refine va_get (D := E.1) (ci := 11) (v := .ref a_o_planner) (C := RX11) (T := TX11) (N := 19) hx hb hts inX11 hown hK hP 0 rfl rfl 8 (by decide) (hts _ fl_X11_56) (fun _ h9 => h9) rfl dX11_fewestSet_12 ?_
  refine lv_aload_n hx hb dX11_fewestSet_15 rfl (lv_at hl 0 rfl) ?_
  refine va_get (D := E.1) (ci := 11) (v := .ref a_o_city) (C := RX11) (T := TX11) (N := 19) hx hb hts inX11 hown hK hP 0 rfl rfl 0 (by decide) (hts _ fl_X11_10) (fun _ h9 => h9) rfl dX11_fewestSet_16 ?_
  obtain ⟨u19, hu19, hf⟩ := bd hf
  refine callVI (wn := (wd_X11_fewestSet E a_o a_o_city a_o_ahead a_o_marks a_o_tape a_o_cityReader a_o_weeksReader a_o_trays a_o_planner a_o_ruler a_o_life a_o_latestLife a_o_city_streets a_o_city_names a_o_city_extras a_o_city_happenings a_o_city_watchers a_o_city_weeks a_o_city_streets_roads a_o_city_streets_takes a_o_city_streets_hours a_o_city_extras_cells a_o_city_happenings_cells a_o_planner_line a_o_planner_reached o_marked o_wasLived o_wasParsed o_faultKind o_faultPlace o_latestStatus o_fractionTop o_fractionBottom o_city_wage o_city_delay o_city_odds o_city_clock o_city_hasWeeks o_city_streets_corners o_city_streets_hours o_city_extras_many o_city_extras_cells o_city_happenings_many o_city_happenings_cells u8.1 u8.2.1 u8.2.2 u19.2)) (n1 := 11) (ct_X4_smallestTeam l E F a_o_planner a_o_planner_line a_o_planner_reached a_o_city a_o_city_streets a_o_city_names a_o_city_extras a_o_city_happenings a_o_city_watchers a_o_city_weeks a_o_city_streets_roads a_o_city_streets_takes a_o_city_streets_hours a_o_city_extras_cells a_o_city_happenings_cells u8.1 u8.2.1 u8.2.2 o_planner_reached o_city_wage o_city_delay o_city_odds o_city_clock o_city_hasWeeks o_city_streets_corners o_city_streets_hours o_city_extras_many o_city_extras_cells o_city_happenings_many o_city_happenings_cells u19 hu19) [8, 9, 10, 1, 2, 3, 4, 5, 6, 7] cal_X4_smallestTeam cav_X4_smallestTeam lk_X11_339 cx hP hD hS hl dX11_fewestSet_19 rfl rfl rfl rfl (Nat.le_of_ble_eq_true rfl) ⟨Nat.le_of_ble_eq_true rfl, Nat.le_of_ble_eq_true rfl⟩ rfl (by decide +kernel) rfl [none, some 3, some 4, some 5, some 6, some 7, some 8, some 9, some 0, some 1, some 2] rfl (by decide +kernel) rfl (fun H locs hP hD hS => ?_)
  refine lv_istore_n (lv' := [(1, .int u19.1), (0, .ref a_o)]) hx hb dX11_fewestSet_22 rfl hl (by decide) rfl (fun ls hl => ?_)
  refine lv_iload_n hx hb dX11_fewestSet_23 rfl (lv_at hl 0 rfl) ?_
  refine lv_iconst (v := (-1)) hx hb dX11_fewestSet_24 (by decide) ?_
  refine lv_icmp_ne (tgt := 37) hx hb dX11_fewestSet_25 (by decide) (fun hc => ?_) (fun hc => ?_)
  · have hf := it_f hc hf
    refine lv_aload_n hx hb dX11_fewestSet_37 rfl (lv_at hl 1 rfl) ?_
    refine lv_iload_n hx hb dX11_fewestSet_38 rfl (lv_at hl 0 rfl) ?_
    obtain ⟨u39, hu39, hf⟩ := bd hf
    refine callVI (wn := (wd_X11_fewestSet E a_o a_o_city a_o_ahead a_o_marks a_o_tape a_o_cityReader a_o_weeksReader a_o_trays a_o_planner a_o_ruler a_o_life a_o_latestLife a_o_city_streets a_o_city_names a_o_city_extras a_o_city_happenings a_o_city_watchers a_o_city_weeks a_o_city_streets_roads a_o_city_streets_takes a_o_city_streets_hours a_o_city_extras_cells a_o_city_happenings_cells a_o_planner_line a_o_planner_reached o_marked o_wasLived o_wasParsed o_faultKind o_faultPlace u39.2 o_fractionTop o_fractionBottom o_city_wage o_city_delay o_city_odds o_city_clock o_city_hasWeeks o_city_streets_corners o_city_streets_hours o_city_extras_many o_city_extras_cells o_city_happenings_many o_city_happenings_cells u8.1 u8.2.1 u8.2.2 u19.2)) (n1 := 11) (ct_X11_answer l E a_o a_o_city a_o_ahead a_o_marks a_o_tape a_o_cityReader a_o_weeksReader a_o_trays a_o_planner a_o_ruler a_o_life a_o_latestLife o_marked o_wasLived o_wasParsed o_faultKind o_faultPlace o_latestStatus o_fractionTop o_fractionBottom u19.1 u39 hu39) [0] cal_X11_answer cav_X11_answer lk_X11_172 cx hP hD hS hl dX11_fewestSet_39 rfl rfl rfl rfl (Nat.le_of_ble_eq_true rfl) ⟨Nat.le_of_ble_eq_true rfl, Nat.le_of_ble_eq_true rfl⟩ rfl (by decide +kernel) rfl [some 0, none, none, none, none, none, none, none, none, none, none] rfl (by decide +kernel) rfl (fun H locs hP hD hS => ?_)
    obtain rfl := Option.some.inj hf
    subst hq
    exact retI cx hP hD hS dX11_fewestSet_42
  · have hf := it_t hc hf
    refine lv_aload_n hx hb dX11_fewestSet_28 rfl (lv_at hl 1 rfl) ?_
    refine lv_bipush (v := 6) hx hb dX11_fewestSet_29 (by decide) ?_
    obtain ⟨u31, hu31, hf⟩ := bd hf
    refine callVI (wn := (wd_X11_fewestSet E a_o a_o_city a_o_ahead a_o_marks a_o_tape a_o_cityReader a_o_weeksReader a_o_trays a_o_planner a_o_ruler a_o_life a_o_latestLife a_o_city_streets a_o_city_names a_o_city_extras a_o_city_happenings a_o_city_watchers a_o_city_weeks a_o_city_streets_roads a_o_city_streets_takes a_o_city_streets_hours a_o_city_extras_cells a_o_city_happenings_cells a_o_planner_line a_o_planner_reached o_marked o_wasLived o_wasParsed o_faultKind o_faultPlace u31.2 o_fractionTop o_fractionBottom o_city_wage o_city_delay o_city_odds o_city_clock o_city_hasWeeks o_city_streets_corners o_city_streets_hours o_city_extras_many o_city_extras_cells o_city_happenings_many o_city_happenings_cells u8.1 u8.2.1 u8.2.2 u19.2)) (n1 := 11) (ct_X11_none l E a_o a_o_city a_o_ahead a_o_marks a_o_tape a_o_cityReader a_o_weeksReader a_o_trays a_o_planner a_o_ruler a_o_life a_o_latestLife o_marked o_wasLived o_wasParsed o_faultKind o_faultPlace o_latestStatus o_fractionTop o_fractionBottom (6 : Int32) u31 hu31) [0] cal_X11_none cav_X11_none lk_X11_119 cx hP hD hS hl dX11_fewestSet_31 rfl rfl rfl rfl (Nat.le_of_ble_eq_true rfl) ⟨Nat.le_of_ble_eq_true rfl, Nat.le_of_ble_eq_true rfl⟩ rfl (by decide +kernel) rfl [some 0, none, none, none, none, none, none, none, none, none, none] rfl (by decide +kernel) rfl (fun H locs hP hD hS => ?_)
    refine lv_goto (tgt := 42) hx hb dX11_fewestSet_34 (by decide) ?_
    obtain rfl := Option.some.inj hf
    subst hq
    exact retI cx hP hD hS dX11_fewestSet_42
def X11_rangeStatus (o_trays_sizes : Nat → Int32) (v1 : Int32) (v2 : Int32) : Option (Int32) :=
  (X9_isTray v1).bind fun u5 =>
  if u5 = 0 then
  some 1
  else
  (X9_isMissing o_trays_sizes v1).bind fun u18 =>
  if u18 = 0 then
  (X9_hasRange o_trays_sizes v1 (0 : Int32) v2).bind fun u33 =>
  if u33 = 0 then
  some 3
  else
  some 0
  else
  some 2
abbrev wd_X11_rangeStatus (E : vE) (a_o a_o_city a_o_ahead a_o_marks a_o_tape a_o_cityReader a_o_weeksReader a_o_trays a_o_planner a_o_ruler a_o_life a_o_latestLife a_o_trays_numbers a_o_trays_sorts a_o_trays_sizes : Nat) (o_marked : Int32) (o_wasLived : Int32) (o_wasParsed : Int32) (o_faultKind : Int32) (o_faultPlace : Int32) (o_latestStatus : Int32) (o_fractionTop : Int64) (o_fractionBottom : Int64) (o_trays_sizes : Nat → Int32) : va_W := [(a_o, .inr (11, [.ref a_o_city, .ref a_o_ahead, .ref a_o_marks, .int o_marked, .ref a_o_tape, .ref a_o_cityReader, .ref a_o_weeksReader, .ref a_o_trays, .ref a_o_planner, .ref a_o_ruler, .ref a_o_life, .ref a_o_latestLife, .int o_wasLived, .int o_wasParsed, .int o_faultKind, .int o_faultPlace, .int o_latestStatus, .long o_fractionTop, .long o_fractionBottom])), (a_o_trays, .inr (9, [.ref a_o_trays_numbers, .ref a_o_trays_sorts, .ref a_o_trays_sizes])), (a_o_trays_sizes, .inl (E.2.1, 4, .inl o_trays_sizes))]
set_option maxHeartbeats 4000000 in
set_option maxRecDepth 100000 in
theorem ct_X11_rangeStatus (l : Launch) (E : vE) (a_o a_o_city a_o_ahead a_o_marks a_o_tape a_o_cityReader a_o_weeksReader a_o_trays a_o_planner a_o_ruler a_o_life a_o_latestLife a_o_trays_numbers a_o_trays_sorts a_o_trays_sizes : Nat) (o_marked : Int32) (o_wasLived : Int32) (o_wasParsed : Int32) (o_faultKind : Int32) (o_faultPlace : Int32) (o_latestStatus : Int32) (o_fractionTop : Int64) (o_fractionBottom : Int64) (o_trays_sizes : Nat → Int32) (v1 : Int32) (v2 : Int32) (u : Int32) (hf : X11_rangeStatus o_trays_sizes v1 v2 = some u) :
    CtI l yX11_rangeStatus cX11_rangeStatus 3 (some .int) 2 E [.ref a_o, .int v1, .int v2] (wd_X11_rangeStatus E a_o a_o_city a_o_ahead a_o_marks a_o_tape a_o_cityReader a_o_weeksReader a_o_trays a_o_planner a_o_ruler a_o_life a_o_latestLife a_o_trays_numbers a_o_trays_sorts a_o_trays_sizes o_marked o_wasLived o_wasParsed o_faultKind o_faultPlace o_latestStatus o_fractionTop o_fractionBottom o_trays_sizes) (wd_X11_rangeStatus E a_o a_o_city a_o_ahead a_o_marks a_o_tape a_o_cityReader a_o_weeksReader a_o_trays a_o_planner a_o_ruler a_o_life a_o_latestLife a_o_trays_numbers a_o_trays_sorts a_o_trays_sizes o_marked o_wasLived o_wasParsed o_faultKind o_faultPlace o_latestStatus o_fractionTop o_fractionBottom o_trays_sizes) u := by
  refine ctI (by decide) (Nat.le_of_ble_eq_true rfl) ?_
  intro p e s m below meth cd A ls aa QQ hq cx hP hD hS hl
  obtain ⟨⟨hx, hb, hml, hown, hts⟩, hr, hlocks, hK, hA, hX⟩ := id cx
  have hl : lv_has ls 3 [(0, .ref a_o), (1, .int v1), (2, .int v2)] := hl
  unfold X11_rangeStatus at hf
  refine lv_aload_n hx hb dX11_rangeStatus_0 rfl (lv_at hl 0 rfl) ?_
  refine va_get (D := E.1) (ci := 11) (v := .ref a_o_trays) (C := RX11) (T := TX11) (N := 19) hx hb hts inX11 hown hK hP 0 rfl rfl 7 (by decide) (hts _ fl_X11_49) (fun _ h9 => h9) rfl dX11_rangeStatus_1 ?_
  refine lv_iload_n hx hb dX11_rangeStatus_4 rfl (lv_at hl 1 rfl) ?_
  obtain ⟨u5, hu5, hf⟩ := bd hf
  refine keepVI (ct_X9_isTray l E a_o_trays a_o_trays_numbers a_o_trays_sorts a_o_trays_sizes v1 u5 hu5) [1] cal_X9_isTray cav_X9_isTray lk_X11_92 cx hP hD hS hl dX11_rangeStatus_5 rfl rfl rfl rfl (Nat.le_of_ble_eq_true rfl) ⟨Nat.le_of_ble_eq_true rfl, Nat.le_of_ble_eq_true rfl⟩ rfl (by decide) (fun H locs hP hS => ?_)
  refine lv_if_ne (tgt := 13) hx hb dX11_rangeStatus_8 (by decide) (fun hc => ?_) (fun hc => ?_)
  · have hf := it_f hc hf
    refine lv_aload_n hx hb dX11_rangeStatus_13 rfl (lv_at hl 0 rfl) ?_
    refine va_get (D := E.1) (ci := 11) (v := .ref a_o_trays) (C := RX11) (T := TX11) (N := 19) hx hb hts inX11 hown hK hP 0 rfl rfl 7 (by decide) (hts _ fl_X11_49) (fun _ h9 => h9) rfl dX11_rangeStatus_14 ?_
    refine lv_iload_n hx hb dX11_rangeStatus_17 rfl (lv_at hl 1 rfl) ?_
    obtain ⟨u18, hu18, hf⟩ := bd hf
    refine keepVI (ct_X9_isMissing l E a_o_trays a_o_trays_numbers a_o_trays_sorts a_o_trays_sizes o_trays_sizes v1 u18 hu18) [1, 2] cal_X9_isMissing cav_X9_isMissing lk_X11_127 cx hP hD hS hl dX11_rangeStatus_18 rfl rfl rfl rfl (Nat.le_of_ble_eq_true rfl) ⟨Nat.le_of_ble_eq_true rfl, Nat.le_of_ble_eq_true rfl⟩ rfl (by decide) (fun H locs hP hS => ?_)
    refine lv_if_eq (tgt := 26) hx hb dX11_rangeStatus_21 (by decide) (fun hc => ?_) (fun hc => ?_)
    · have hf := it_t hc hf
      refine lv_aload_n hx hb dX11_rangeStatus_26 rfl (lv_at hl 0 rfl) ?_
      refine va_get (D := E.1) (ci := 11) (v := .ref a_o_trays) (C := RX11) (T := TX11) (N := 19) hx hb hts inX11 hown hK hP 0 rfl rfl 7 (by decide) (hts _ fl_X11_49) (fun _ h9 => h9) rfl dX11_rangeStatus_27 ?_
      refine lv_iload_n hx hb dX11_rangeStatus_30 rfl (lv_at hl 1 rfl) ?_
      refine lv_iconst (v := 0) hx hb dX11_rangeStatus_31 (by decide) ?_
      refine lv_iload_n hx hb dX11_rangeStatus_32 rfl (lv_at hl 2 rfl) ?_
      obtain ⟨u33, hu33, hf⟩ := bd hf
      refine keepVI (ct_X9_hasRange l E a_o_trays a_o_trays_numbers a_o_trays_sorts a_o_trays_sizes o_trays_sizes v1 (0 : Int32) v2 u33 hu33) [1, 2] cal_X9_hasRange cav_X9_hasRange lk_X11_133 cx hP hD hS hl dX11_rangeStatus_33 rfl rfl rfl rfl (Nat.le_of_ble_eq_true rfl) ⟨Nat.le_of_ble_eq_true rfl, Nat.le_of_ble_eq_true rfl⟩ rfl (by decide) (fun H locs hP hS => ?_)
      refine lv_if_eq (tgt := 43) hx hb dX11_rangeStatus_36 (by decide) (fun hc => ?_) (fun hc => ?_)
      · have hf := it_t hc hf
        refine lv_iconst (v := 3) hx hb dX11_rangeStatus_43 (by decide) ?_
        obtain rfl := Option.some.inj hf
        subst hq
        exact retI cx hP hD hS dX11_rangeStatus_44
      · have hf := it_f hc hf
        refine lv_iconst (v := 0) hx hb dX11_rangeStatus_39 (by decide) ?_
        refine lv_goto (tgt := 44) hx hb dX11_rangeStatus_40 (by decide) ?_
        obtain rfl := Option.some.inj hf
        subst hq
        exact retI cx hP hD hS dX11_rangeStatus_44
    · have hf := it_f hc hf
      refine lv_iconst (v := 2) hx hb dX11_rangeStatus_24 (by decide) ?_
      obtain rfl := Option.some.inj hf
      subst hq
      exact retI cx hP hD hS dX11_rangeStatus_25
  · have hf := it_t hc hf
    refine lv_iconst (v := 1) hx hb dX11_rangeStatus_11 (by decide) ?_
    obtain rfl := Option.some.inj hf
    subst hq
    exact retI cx hP hD hS dX11_rangeStatus_12
def X11_seenStatus_b27 (F : Nat) (o_city_streets_corners : Int32) (o_trays_numbers : Nat → Int64) (o_trays_sizes : Nat → Int32) (v1 : Int32) (v2 : Int32) (st27 : Int32) : Option ((Int32) ⊕ ((Unit) ⊕ (Unit))) :=
  if v2 ≤ st27 then
  some (.inr (.inr (())))
  else
  (X9_holds o_trays_numbers o_trays_sizes v1 st27 (0 : Int32) (99 : Int32)).bind fun u43 =>
  if u43 = 0 then
  some (.inr (.inl (())))
  else
  some (.inl (st27 + 1))
def X11_seenStatus (F : Nat) (o_city_streets_corners : Int32) (o_trays_numbers : Nat → Int64) (o_trays_sizes : Nat → Int32) (v1 : Int32) : Option (Int32) :=
  (X11_rangeStatus o_trays_sizes v1 o_city_streets_corners).bind fun u14 =>
  if u14 = 0 then
  (iter (X11_seenStatus_b27 F o_city_streets_corners o_trays_numbers o_trays_sizes v1 o_city_streets_corners) F 0).bind (Sum.elim (fun (e27 : Unit) =>
    some 5) (fun (e27 : Unit) =>
    some 0))
  else
  some u14
abbrev wd_X11_seenStatus (E : vE) (a_o a_o_city a_o_ahead a_o_marks a_o_tape a_o_cityReader a_o_weeksReader a_o_trays a_o_planner a_o_ruler a_o_life a_o_latestLife a_o_city_streets a_o_city_names a_o_city_extras a_o_city_happenings a_o_city_watchers a_o_city_weeks a_o_city_streets_roads a_o_city_streets_takes a_o_city_streets_hours a_o_trays_numbers a_o_trays_sorts a_o_trays_sizes : Nat) (o_marked : Int32) (o_wasLived : Int32) (o_wasParsed : Int32) (o_faultKind : Int32) (o_faultPlace : Int32) (o_latestStatus : Int32) (o_fractionTop : Int64) (o_fractionBottom : Int64) (o_city_wage : Int32) (o_city_delay : Int32) (o_city_odds : Int32) (o_city_clock : Int32) (o_city_hasWeeks : Int32) (o_city_streets_corners : Int32) (o_trays_numbers : Nat → Int64) (o_trays_sizes : Nat → Int32) : va_W := [(a_o, .inr (11, [.ref a_o_city, .ref a_o_ahead, .ref a_o_marks, .int o_marked, .ref a_o_tape, .ref a_o_cityReader, .ref a_o_weeksReader, .ref a_o_trays, .ref a_o_planner, .ref a_o_ruler, .ref a_o_life, .ref a_o_latestLife, .int o_wasLived, .int o_wasParsed, .int o_faultKind, .int o_faultPlace, .int o_latestStatus, .long o_fractionTop, .long o_fractionBottom])), (a_o_city, .inr (0, [.int o_city_wage, .int o_city_delay, .int o_city_odds, .int o_city_clock, .int o_city_hasWeeks, .ref a_o_city_streets, .ref a_o_city_names, .ref a_o_city_extras, .ref a_o_city_happenings, .ref a_o_city_watchers, .ref a_o_city_weeks])), (a_o_city_streets, .inr (6, [.int o_city_streets_corners, .ref a_o_city_streets_roads, .ref a_o_city_streets_takes, .ref a_o_city_streets_hours])), (a_o_trays, .inr (9, [.ref a_o_trays_numbers, .ref a_o_trays_sorts, .ref a_o_trays_sizes])), (a_o_trays_numbers, .inl (E.2.2.1, 240, .inr (.inl o_trays_numbers))), (a_o_trays_sizes, .inl (E.2.1, 4, .inl o_trays_sizes))]
set_option maxHeartbeats 4000000 in
set_option maxRecDepth 100000 in
theorem ct_X11_seenStatus (l : Launch) (E : vE) (F : Nat) (a_o a_o_city a_o_ahead a_o_marks a_o_tape a_o_cityReader a_o_weeksReader a_o_trays a_o_planner a_o_ruler a_o_life a_o_latestLife a_o_city_streets a_o_city_names a_o_city_extras a_o_city_happenings a_o_city_watchers a_o_city_weeks a_o_city_streets_roads a_o_city_streets_takes a_o_city_streets_hours a_o_trays_numbers a_o_trays_sorts a_o_trays_sizes : Nat) (o_marked : Int32) (o_wasLived : Int32) (o_wasParsed : Int32) (o_faultKind : Int32) (o_faultPlace : Int32) (o_latestStatus : Int32) (o_fractionTop : Int64) (o_fractionBottom : Int64) (o_city_wage : Int32) (o_city_delay : Int32) (o_city_odds : Int32) (o_city_clock : Int32) (o_city_hasWeeks : Int32) (o_city_streets_corners : Int32) (o_trays_numbers : Nat → Int64) (o_trays_sizes : Nat → Int32) (v1 : Int32) (u : Int32) (hf : X11_seenStatus F o_city_streets_corners o_trays_numbers o_trays_sizes v1 = some u) :
    CtI l yX11_seenStatus cX11_seenStatus 5 (some .int) 4 E [.ref a_o, .int v1] (wd_X11_seenStatus E a_o a_o_city a_o_ahead a_o_marks a_o_tape a_o_cityReader a_o_weeksReader a_o_trays a_o_planner a_o_ruler a_o_life a_o_latestLife a_o_city_streets a_o_city_names a_o_city_extras a_o_city_happenings a_o_city_watchers a_o_city_weeks a_o_city_streets_roads a_o_city_streets_takes a_o_city_streets_hours a_o_trays_numbers a_o_trays_sorts a_o_trays_sizes o_marked o_wasLived o_wasParsed o_faultKind o_faultPlace o_latestStatus o_fractionTop o_fractionBottom o_city_wage o_city_delay o_city_odds o_city_clock o_city_hasWeeks o_city_streets_corners o_trays_numbers o_trays_sizes) (wd_X11_seenStatus E a_o a_o_city a_o_ahead a_o_marks a_o_tape a_o_cityReader a_o_weeksReader a_o_trays a_o_planner a_o_ruler a_o_life a_o_latestLife a_o_city_streets a_o_city_names a_o_city_extras a_o_city_happenings a_o_city_watchers a_o_city_weeks a_o_city_streets_roads a_o_city_streets_takes a_o_city_streets_hours a_o_trays_numbers a_o_trays_sorts a_o_trays_sizes o_marked o_wasLived o_wasParsed o_faultKind o_faultPlace o_latestStatus o_fractionTop o_fractionBottom o_city_wage o_city_delay o_city_odds o_city_clock o_city_hasWeeks o_city_streets_corners o_trays_numbers o_trays_sizes) u := by
  refine ctI (by decide) (Nat.le_of_ble_eq_true rfl) ?_
  intro p e s m below meth cd A ls aa QQ hq cx hP hD hS hl
  obtain ⟨⟨hx, hb, hml, hown, hts⟩, hr, hlocks, hK, hA, hX⟩ := id cx
  have hl : lv_has ls 5 [(0, .ref a_o), (1, .int v1)] := hl
  unfold X11_seenStatus at hf
  refine lv_aload_n hx hb dX11_seenStatus_0 rfl (lv_at hl 0 rfl) ?_
  refine va_get (D := E.1) (ci := 11) (v := .ref a_o_city) (C := RX11) (T := TX11) (N := 19) hx hb hts inX11 hown hK hP 0 rfl rfl 0 (by decide) (hts _ fl_X11_10) (fun _ h9 => h9) rfl dX11_seenStatus_1 ?_
  refine va_get (D := E.1) (ci := 0) (v := .ref a_o_city_streets) (C := RX0) (T := TX0) (N := 11) hx hb hts inX0 hown hK hP 1 rfl rfl 5 (by decide) (hts _ fl_X11_163) (fun _ h9 => h9) rfl dX11_seenStatus_4 ?_
  refine va_get (D := E.1) (ci := 6) (v := .int o_city_streets_corners) (C := RX6) (T := TX6) (N := 4) hx hb hts inX6 hown hK hP 2 rfl rfl 0 (by decide) (hts _ fl_X11_167) (fun _ h9 => h9) rfl dX11_seenStatus_7 ?_
  refine lv_istore_n (lv' := [(2, .int o_city_streets_corners), (0, .ref a_o), (1, .int v1)]) hx hb dX11_seenStatus_10 rfl hl (by decide) rfl (fun ls hl => ?_)
  refine lv_aload_n hx hb dX11_seenStatus_11 rfl (lv_at hl 1 rfl) ?_
  refine lv_iload_n hx hb dX11_seenStatus_12 rfl (lv_at hl 2 rfl) ?_
  refine lv_iload_n hx hb dX11_seenStatus_13 rfl (lv_at hl 0 rfl) ?_
  obtain ⟨u14, hu14, hf⟩ := bd hf
  refine keepVI (ct_X11_rangeStatus l E a_o a_o_city a_o_ahead a_o_marks a_o_tape a_o_cityReader a_o_weeksReader a_o_trays a_o_planner a_o_ruler a_o_life a_o_latestLife a_o_trays_numbers a_o_trays_sorts a_o_trays_sizes o_marked o_wasLived o_wasParsed o_faultKind o_faultPlace o_latestStatus o_fractionTop o_fractionBottom o_trays_sizes v1 o_city_streets_corners u14 hu14) [0, 3, 5] cal_X11_rangeStatus cav_X11_rangeStatus lk_X11_382 cx hP hD hS hl dX11_seenStatus_14 rfl rfl rfl rfl (Nat.le_of_ble_eq_true rfl) ⟨Nat.le_of_ble_eq_true rfl, Nat.le_of_ble_eq_true rfl⟩ rfl (by decide) (fun H locs hP hS => ?_)
  refine lv_istore_n (lv' := [(3, .int u14), (2, .int o_city_streets_corners), (0, .ref a_o), (1, .int v1)]) hx hb dX11_seenStatus_17 rfl hl (by decide) rfl (fun ls hl => ?_)
  refine lv_iload_n hx hb dX11_seenStatus_18 rfl (lv_at hl 0 rfl) ?_
  refine lv_if_eq (tgt := 24) hx hb dX11_seenStatus_19 (by decide) (fun hc => ?_) (fun hc => ?_)
  · have hf := it_t hc hf
    refine lv_iconst (v := 0) hx hb dX11_seenStatus_24 (by decide) ?_
    refine lv_istore (lv' := [(4, .int 0), (3, .int u14), (2, .int o_city_streets_corners), (0, .ref a_o), (1, .int v1)]) hx hb dX11_seenStatus_25 hl (by decide) rfl (fun ls hl => ?_)
    obtain ⟨e27, hit27, hf⟩ := bd hf
    refine iter_W (b := X11_seenStatus_b27 F o_city_streets_corners o_trays_numbers o_trays_sizes v1 o_city_streets_corners) (P := fun st27 => ∀ (H : Heap) (locs : List Loc) (ls : Array Slot), va_P E.1 vwCl (wd_X11_seenStatus E a_o a_o_city a_o_ahead a_o_marks a_o_tape a_o_cityReader a_o_weeksReader a_o_trays a_o_planner a_o_ruler a_o_life a_o_latestLife a_o_city_streets a_o_city_names a_o_city_extras a_o_city_happenings a_o_city_watchers a_o_city_weeks a_o_city_streets_roads a_o_city_streets_takes a_o_city_streets_hours a_o_trays_numbers a_o_trays_sorts a_o_trays_sizes o_marked o_wasLived o_wasParsed o_faultKind o_faultPlace o_latestStatus o_fractionTop o_fractionBottom o_city_wage o_city_delay o_city_odds o_city_clock o_city_hasWeeks o_city_streets_corners o_trays_numbers o_trays_sizes) H → va_D A (wd_X11_seenStatus E a_o a_o_city a_o_ahead a_o_marks a_o_tape a_o_cityReader a_o_weeksReader a_o_trays a_o_planner a_o_ruler a_o_life a_o_latestLife a_o_city_streets a_o_city_names a_o_city_extras a_o_city_happenings a_o_city_watchers a_o_city_weeks a_o_city_streets_roads a_o_city_streets_takes a_o_city_streets_hours a_o_trays_numbers a_o_trays_sorts a_o_trays_sizes o_marked o_wasLived o_wasParsed o_faultKind o_faultPlace o_latestStatus o_fractionTop o_fractionBottom o_city_wage o_city_delay o_city_odds o_city_clock o_city_hasWeeks o_city_streets_corners o_trays_numbers o_trays_sizes) → va_S A s.heap H locs → lv_has ls 5 [(0, .ref a_o), (1, .int v1), (2, .int o_city_streets_corners), (4, .int st27)] → W p l e (rmd 4) s m aa below meth cd H locs 0 0 QQ (F0 m 27 ls [])) (G := (Sum.elim (fun (e27 : Unit) => ∀ (H : Heap) (locs : List Loc) (ls : Array Slot), va_P E.1 vwCl (wd_X11_seenStatus E a_o a_o_city a_o_ahead a_o_marks a_o_tape a_o_cityReader a_o_weeksReader a_o_trays a_o_planner a_o_ruler a_o_life a_o_latestLife a_o_city_streets a_o_city_names a_o_city_extras a_o_city_happenings a_o_city_watchers a_o_city_weeks a_o_city_streets_roads a_o_city_streets_takes a_o_city_streets_hours a_o_trays_numbers a_o_trays_sorts a_o_trays_sizes o_marked o_wasLived o_wasParsed o_faultKind o_faultPlace o_latestStatus o_fractionTop o_fractionBottom o_city_wage o_city_delay o_city_odds o_city_clock o_city_hasWeeks o_city_streets_corners o_trays_numbers o_trays_sizes) H → va_D A (wd_X11_seenStatus E a_o a_o_city a_o_ahead a_o_marks a_o_tape a_o_cityReader a_o_weeksReader a_o_trays a_o_planner a_o_ruler a_o_life a_o_latestLife a_o_city_streets a_o_city_names a_o_city_extras a_o_city_happenings a_o_city_watchers a_o_city_weeks a_o_city_streets_roads a_o_city_streets_takes a_o_city_streets_hours a_o_trays_numbers a_o_trays_sorts a_o_trays_sizes o_marked o_wasLived o_wasParsed o_faultKind o_faultPlace o_latestStatus o_fractionTop o_fractionBottom o_city_wage o_city_delay o_city_odds o_city_clock o_city_hasWeeks o_city_streets_corners o_trays_numbers o_trays_sizes) → va_S A s.heap H locs → lv_has ls 5 [] → W p l e (rmd 4) s m aa below meth cd H locs 0 0 QQ (F0 m 49 ls [])) (fun (e27 : Unit) => ∀ (H : Heap) (locs : List Loc) (ls : Array Slot), va_P E.1 vwCl (wd_X11_seenStatus E a_o a_o_city a_o_ahead a_o_marks a_o_tape a_o_cityReader a_o_weeksReader a_o_trays a_o_planner a_o_ruler a_o_life a_o_latestLife a_o_city_streets a_o_city_names a_o_city_extras a_o_city_happenings a_o_city_watchers a_o_city_weeks a_o_city_streets_roads a_o_city_streets_takes a_o_city_streets_hours a_o_trays_numbers a_o_trays_sorts a_o_trays_sizes o_marked o_wasLived o_wasParsed o_faultKind o_faultPlace o_latestStatus o_fractionTop o_fractionBottom o_city_wage o_city_delay o_city_odds o_city_clock o_city_hasWeeks o_city_streets_corners o_trays_numbers o_trays_sizes) H → va_D A (wd_X11_seenStatus E a_o a_o_city a_o_ahead a_o_marks a_o_tape a_o_cityReader a_o_weeksReader a_o_trays a_o_planner a_o_ruler a_o_life a_o_latestLife a_o_city_streets a_o_city_names a_o_city_extras a_o_city_happenings a_o_city_watchers a_o_city_weeks a_o_city_streets_roads a_o_city_streets_takes a_o_city_streets_hours a_o_trays_numbers a_o_trays_sorts a_o_trays_sizes o_marked o_wasLived o_wasParsed o_faultKind o_faultPlace o_latestStatus o_fractionTop o_fractionBottom o_city_wage o_city_delay o_city_odds o_city_clock o_city_hasWeeks o_city_streets_corners o_trays_numbers o_trays_sizes) → va_S A s.heap H locs → lv_has ls 5 [] → W p l e (rmd 4) s m aa below meth cd H locs 0 0 QQ (F0 m 57 ls [])))) ?_ F 0 e27 hit27 ?_ _ _ _ hP hD hS (lv_sub hl [3, 4, 2, 0] rfl)
    · intro st27 r27 hf hk27 he27 H locs ls hP hD hS hl
      unfold X11_seenStatus_b27 at hf
      refine lv_iload hx hb dX11_seenStatus_27 (lv_at hl 3 rfl) ?_
      refine lv_iload_n hx hb dX11_seenStatus_29 rfl (lv_at hl 2 rfl) ?_
      refine lv_icmp_ge (tgt := 57) hx hb dX11_seenStatus_30 (by decide) (fun hc => ?_) (fun hc => ?_)
      · have hf := it_t hc hf
        exact he27 _ (Option.some.inj hf).symm _ _ _ hP hD hS (lv_sub hl [] rfl)
      · have hf := it_f hc hf
        refine lv_aload_n hx hb dX11_seenStatus_33 rfl (lv_at hl 0 rfl) ?_
        refine va_get (D := E.1) (ci := 11) (v := .ref a_o_trays) (C := RX11) (T := TX11) (N := 19) hx hb hts inX11 hown hK hP 0 rfl rfl 7 (by decide) (hts _ fl_X11_49) (fun _ h9 => h9) rfl dX11_seenStatus_34 ?_
        refine lv_iload_n hx hb dX11_seenStatus_37 rfl (lv_at hl 1 rfl) ?_
        refine lv_iload hx hb dX11_seenStatus_38 (lv_at hl 3 rfl) ?_
        refine lv_iconst (v := 0) hx hb dX11_seenStatus_40 (by decide) ?_
        refine lv_bipush (v := 99) hx hb dX11_seenStatus_41 (by decide) ?_
        obtain ⟨u43, hu43, hf⟩ := bd hf
        refine keepVI (ct_X9_holds l E a_o_trays a_o_trays_numbers a_o_trays_sorts a_o_trays_sizes o_trays_numbers o_trays_sizes v1 st27 (0 : Int32) (99 : Int32) u43 hu43) [3, 4, 5] cal_X9_holds cav_X9_holds lk_X11_401 cx hP hD hS hl dX11_seenStatus_43 rfl rfl rfl rfl (Nat.le_of_ble_eq_true rfl) ⟨Nat.le_of_ble_eq_true rfl, Nat.le_of_ble_eq_true rfl⟩ rfl (by decide) (fun H locs hP hS => ?_)
        refine lv_if_ne (tgt := 51) hx hb dX11_seenStatus_46 (by decide) (fun hc => ?_) (fun hc => ?_)
        · have hf := it_f hc hf
          refine lv_iinc (v := (st27 + 1)) (lv' := [(4, .int (st27 + 1)), (0, .ref a_o), (1, .int v1), (2, .int o_city_streets_corners)]) hx hb dX11_seenStatus_51 hl (k := 3) rfl rfl (by decide) rfl (fun ls hl => ?_)
          refine lv_goto (tgt := 27) hx hb dX11_seenStatus_54 (by decide) ?_
          exact hk27 _ (Option.some.inj hf).symm _ _ _ hP hD hS (lv_sub hl [1, 2, 3, 0] rfl)
        · have hf := it_t hc hf
          exact he27 _ (Option.some.inj hf).symm _ _ _ hP hD hS (lv_sub hl [] rfl)
    · rcases e27 with e27 | e27
      · have hf := se_l hf
        refine fun H locs ls hP hD hS hl => ?_
        refine lv_iconst (v := 5) hx hb dX11_seenStatus_49 (by decide) ?_
        obtain rfl := Option.some.inj hf
        subst hq
        exact retI cx hP hD hS dX11_seenStatus_50
      · have hf := se_r hf
        refine fun H locs ls hP hD hS hl => ?_
        refine lv_iconst (v := 0) hx hb dX11_seenStatus_57 (by decide) ?_
        obtain rfl := Option.some.inj hf
        subst hq
        exact retI cx hP hD hS dX11_seenStatus_58
  · have hf := it_f hc hf
    refine lv_iload_n hx hb dX11_seenStatus_22 rfl (lv_at hl 0 rfl) ?_
    obtain rfl := Option.some.inj hf
    subst hq
    exact retI cx hP hD hS dX11_seenStatus_23
def X11_explains_b2 (F : Nat) (o_city_streets_corners : Int32) (o_city_happenings_many : Int32) (o_city_happenings_cells : Nat → Int32) (o_trays_numbers : Nat → Int64) (o_trays_sizes : Nat → Int32) (v1 : Int32) (v2 : Int32) (st2 : Int32) : Option ((Int32) ⊕ ((Unit) ⊕ (Unit))) :=
  if o_city_streets_corners ≤ st2 then
  some (.inr (.inr (())))
  else
  (X7_withValue F 40 5 o_city_happenings_many o_city_happenings_cells (0 : Int32) st2).bind fun u26 =>
  (X0_greatnessOf F o_city_happenings_many o_city_happenings_cells (v1 &&& u26)).bind fun u38 =>
  (X9_get o_trays_numbers o_trays_sizes v2 st2).bind fun u48 =>
  if (lg_cmp (u38.toInt64) u48) = 0 then
  some (.inl (st2 + 1))
  else
  some (.inr (.inl (())))
def X11_explains (F : Nat) (o_city_streets_corners : Int32) (o_city_happenings_many : Int32) (o_city_happenings_cells : Nat → Int32) (o_trays_numbers : Nat → Int64) (o_trays_sizes : Nat → Int32) (v1 : Int32) (v2 : Int32) : Option (Int32) :=
  (iter (X11_explains_b2 F o_city_streets_corners o_city_happenings_many o_city_happenings_cells o_trays_numbers o_trays_sizes v1 v2) F 0).bind (Sum.elim (fun (e2 : Unit) =>
    some 0) (fun (e2 : Unit) =>
    some 1))
abbrev wd_X11_explains (E : vE) (a_o a_o_city a_o_ahead a_o_marks a_o_tape a_o_cityReader a_o_weeksReader a_o_trays a_o_planner a_o_ruler a_o_life a_o_latestLife a_o_city_streets a_o_city_names a_o_city_extras a_o_city_happenings a_o_city_watchers a_o_city_weeks a_o_city_streets_roads a_o_city_streets_takes a_o_city_streets_hours a_o_city_happenings_cells a_o_trays_numbers a_o_trays_sorts a_o_trays_sizes : Nat) (o_marked : Int32) (o_wasLived : Int32) (o_wasParsed : Int32) (o_faultKind : Int32) (o_faultPlace : Int32) (o_latestStatus : Int32) (o_fractionTop : Int64) (o_fractionBottom : Int64) (o_city_wage : Int32) (o_city_delay : Int32) (o_city_odds : Int32) (o_city_clock : Int32) (o_city_hasWeeks : Int32) (o_city_streets_corners : Int32) (o_city_happenings_many : Int32) (o_city_happenings_cells : Nat → Int32) (o_trays_numbers : Nat → Int64) (o_trays_sizes : Nat → Int32) : va_W := [(a_o, .inr (11, [.ref a_o_city, .ref a_o_ahead, .ref a_o_marks, .int o_marked, .ref a_o_tape, .ref a_o_cityReader, .ref a_o_weeksReader, .ref a_o_trays, .ref a_o_planner, .ref a_o_ruler, .ref a_o_life, .ref a_o_latestLife, .int o_wasLived, .int o_wasParsed, .int o_faultKind, .int o_faultPlace, .int o_latestStatus, .long o_fractionTop, .long o_fractionBottom])), (a_o_city, .inr (0, [.int o_city_wage, .int o_city_delay, .int o_city_odds, .int o_city_clock, .int o_city_hasWeeks, .ref a_o_city_streets, .ref a_o_city_names, .ref a_o_city_extras, .ref a_o_city_happenings, .ref a_o_city_watchers, .ref a_o_city_weeks])), (a_o_city_streets, .inr (6, [.int o_city_streets_corners, .ref a_o_city_streets_roads, .ref a_o_city_streets_takes, .ref a_o_city_streets_hours])), (a_o_city_happenings, .inr (7, [.int 5, .ref a_o_city_happenings_cells, .int o_city_happenings_many])), (a_o_city_happenings_cells, .inl (E.2.1, 40, .inl o_city_happenings_cells)), (a_o_trays, .inr (9, [.ref a_o_trays_numbers, .ref a_o_trays_sorts, .ref a_o_trays_sizes])), (a_o_trays_numbers, .inl (E.2.2.1, 240, .inr (.inl o_trays_numbers))), (a_o_trays_sizes, .inl (E.2.1, 4, .inl o_trays_sizes))]
set_option maxHeartbeats 4000000 in
set_option maxRecDepth 100000 in
theorem ct_X11_explains (l : Launch) (E : vE) (F : Nat) (a_o a_o_city a_o_ahead a_o_marks a_o_tape a_o_cityReader a_o_weeksReader a_o_trays a_o_planner a_o_ruler a_o_life a_o_latestLife a_o_city_streets a_o_city_names a_o_city_extras a_o_city_happenings a_o_city_watchers a_o_city_weeks a_o_city_streets_roads a_o_city_streets_takes a_o_city_streets_hours a_o_city_happenings_cells a_o_trays_numbers a_o_trays_sorts a_o_trays_sizes : Nat) (o_marked : Int32) (o_wasLived : Int32) (o_wasParsed : Int32) (o_faultKind : Int32) (o_faultPlace : Int32) (o_latestStatus : Int32) (o_fractionTop : Int64) (o_fractionBottom : Int64) (o_city_wage : Int32) (o_city_delay : Int32) (o_city_odds : Int32) (o_city_clock : Int32) (o_city_hasWeeks : Int32) (o_city_streets_corners : Int32) (o_city_happenings_many : Int32) (o_city_happenings_cells : Nat → Int32) (o_trays_numbers : Nat → Int64) (o_trays_sizes : Nat → Int32) (v1 : Int32) (v2 : Int32) (u : Int32) (hf : X11_explains F o_city_streets_corners o_city_happenings_many o_city_happenings_cells o_trays_numbers o_trays_sizes v1 v2 = some u) :
    CtI l yX11_explains cX11_explains 5 (some .boolean) 3 E [.ref a_o, .int v1, .int v2] (wd_X11_explains E a_o a_o_city a_o_ahead a_o_marks a_o_tape a_o_cityReader a_o_weeksReader a_o_trays a_o_planner a_o_ruler a_o_life a_o_latestLife a_o_city_streets a_o_city_names a_o_city_extras a_o_city_happenings a_o_city_watchers a_o_city_weeks a_o_city_streets_roads a_o_city_streets_takes a_o_city_streets_hours a_o_city_happenings_cells a_o_trays_numbers a_o_trays_sorts a_o_trays_sizes o_marked o_wasLived o_wasParsed o_faultKind o_faultPlace o_latestStatus o_fractionTop o_fractionBottom o_city_wage o_city_delay o_city_odds o_city_clock o_city_hasWeeks o_city_streets_corners o_city_happenings_many o_city_happenings_cells o_trays_numbers o_trays_sizes) (wd_X11_explains E a_o a_o_city a_o_ahead a_o_marks a_o_tape a_o_cityReader a_o_weeksReader a_o_trays a_o_planner a_o_ruler a_o_life a_o_latestLife a_o_city_streets a_o_city_names a_o_city_extras a_o_city_happenings a_o_city_watchers a_o_city_weeks a_o_city_streets_roads a_o_city_streets_takes a_o_city_streets_hours a_o_city_happenings_cells a_o_trays_numbers a_o_trays_sorts a_o_trays_sizes o_marked o_wasLived o_wasParsed o_faultKind o_faultPlace o_latestStatus o_fractionTop o_fractionBottom o_city_wage o_city_delay o_city_odds o_city_clock o_city_hasWeeks o_city_streets_corners o_city_happenings_many o_city_happenings_cells o_trays_numbers o_trays_sizes) u := by
  refine ctI (by decide) (Nat.le_of_ble_eq_true rfl) ?_
  intro p e s m below meth cd A ls aa QQ hq cx hP hD hS hl
  obtain ⟨⟨hx, hb, hml, hown, hts⟩, hr, hlocks, hK, hA, hX⟩ := id cx
  have hl : lv_has ls 5 [(0, .ref a_o), (1, .int v1), (2, .int v2)] := hl
  unfold X11_explains at hf
  refine lv_iconst (v := 0) hx hb dX11_explains_0 (by decide) ?_
  refine lv_istore_n (lv' := [(3, .int 0), (0, .ref a_o), (1, .int v1), (2, .int v2)]) hx hb dX11_explains_1 rfl hl (by decide) rfl (fun ls hl => ?_)
  obtain ⟨e2, hit2, hf⟩ := bd hf
  refine iter_W (b := X11_explains_b2 F o_city_streets_corners o_city_happenings_many o_city_happenings_cells o_trays_numbers o_trays_sizes v1 v2) (P := fun st2 => ∀ (H : Heap) (locs : List Loc) (ls : Array Slot), va_P E.1 vwCl (wd_X11_explains E a_o a_o_city a_o_ahead a_o_marks a_o_tape a_o_cityReader a_o_weeksReader a_o_trays a_o_planner a_o_ruler a_o_life a_o_latestLife a_o_city_streets a_o_city_names a_o_city_extras a_o_city_happenings a_o_city_watchers a_o_city_weeks a_o_city_streets_roads a_o_city_streets_takes a_o_city_streets_hours a_o_city_happenings_cells a_o_trays_numbers a_o_trays_sorts a_o_trays_sizes o_marked o_wasLived o_wasParsed o_faultKind o_faultPlace o_latestStatus o_fractionTop o_fractionBottom o_city_wage o_city_delay o_city_odds o_city_clock o_city_hasWeeks o_city_streets_corners o_city_happenings_many o_city_happenings_cells o_trays_numbers o_trays_sizes) H → va_D A (wd_X11_explains E a_o a_o_city a_o_ahead a_o_marks a_o_tape a_o_cityReader a_o_weeksReader a_o_trays a_o_planner a_o_ruler a_o_life a_o_latestLife a_o_city_streets a_o_city_names a_o_city_extras a_o_city_happenings a_o_city_watchers a_o_city_weeks a_o_city_streets_roads a_o_city_streets_takes a_o_city_streets_hours a_o_city_happenings_cells a_o_trays_numbers a_o_trays_sorts a_o_trays_sizes o_marked o_wasLived o_wasParsed o_faultKind o_faultPlace o_latestStatus o_fractionTop o_fractionBottom o_city_wage o_city_delay o_city_odds o_city_clock o_city_hasWeeks o_city_streets_corners o_city_happenings_many o_city_happenings_cells o_trays_numbers o_trays_sizes) → va_S A s.heap H locs → lv_has ls 5 [(0, .ref a_o), (1, .int v1), (2, .int v2), (3, .int st2)] → W p l e (rmd 3) s m aa below meth cd H locs 0 0 QQ (F0 m 2 ls [])) (G := (Sum.elim (fun (e2 : Unit) => ∀ (H : Heap) (locs : List Loc) (ls : Array Slot), va_P E.1 vwCl (wd_X11_explains E a_o a_o_city a_o_ahead a_o_marks a_o_tape a_o_cityReader a_o_weeksReader a_o_trays a_o_planner a_o_ruler a_o_life a_o_latestLife a_o_city_streets a_o_city_names a_o_city_extras a_o_city_happenings a_o_city_watchers a_o_city_weeks a_o_city_streets_roads a_o_city_streets_takes a_o_city_streets_hours a_o_city_happenings_cells a_o_trays_numbers a_o_trays_sorts a_o_trays_sizes o_marked o_wasLived o_wasParsed o_faultKind o_faultPlace o_latestStatus o_fractionTop o_fractionBottom o_city_wage o_city_delay o_city_odds o_city_clock o_city_hasWeeks o_city_streets_corners o_city_happenings_many o_city_happenings_cells o_trays_numbers o_trays_sizes) H → va_D A (wd_X11_explains E a_o a_o_city a_o_ahead a_o_marks a_o_tape a_o_cityReader a_o_weeksReader a_o_trays a_o_planner a_o_ruler a_o_life a_o_latestLife a_o_city_streets a_o_city_names a_o_city_extras a_o_city_happenings a_o_city_watchers a_o_city_weeks a_o_city_streets_roads a_o_city_streets_takes a_o_city_streets_hours a_o_city_happenings_cells a_o_trays_numbers a_o_trays_sorts a_o_trays_sizes o_marked o_wasLived o_wasParsed o_faultKind o_faultPlace o_latestStatus o_fractionTop o_fractionBottom o_city_wage o_city_delay o_city_odds o_city_clock o_city_hasWeeks o_city_streets_corners o_city_happenings_many o_city_happenings_cells o_trays_numbers o_trays_sizes) → va_S A s.heap H locs → lv_has ls 5 [] → W p l e (rmd 3) s m aa below meth cd H locs 0 0 QQ (F0 m 55 ls [])) (fun (e2 : Unit) => ∀ (H : Heap) (locs : List Loc) (ls : Array Slot), va_P E.1 vwCl (wd_X11_explains E a_o a_o_city a_o_ahead a_o_marks a_o_tape a_o_cityReader a_o_weeksReader a_o_trays a_o_planner a_o_ruler a_o_life a_o_latestLife a_o_city_streets a_o_city_names a_o_city_extras a_o_city_happenings a_o_city_watchers a_o_city_weeks a_o_city_streets_roads a_o_city_streets_takes a_o_city_streets_hours a_o_city_happenings_cells a_o_trays_numbers a_o_trays_sorts a_o_trays_sizes o_marked o_wasLived o_wasParsed o_faultKind o_faultPlace o_latestStatus o_fractionTop o_fractionBottom o_city_wage o_city_delay o_city_odds o_city_clock o_city_hasWeeks o_city_streets_corners o_city_happenings_many o_city_happenings_cells o_trays_numbers o_trays_sizes) H → va_D A (wd_X11_explains E a_o a_o_city a_o_ahead a_o_marks a_o_tape a_o_cityReader a_o_weeksReader a_o_trays a_o_planner a_o_ruler a_o_life a_o_latestLife a_o_city_streets a_o_city_names a_o_city_extras a_o_city_happenings a_o_city_watchers a_o_city_weeks a_o_city_streets_roads a_o_city_streets_takes a_o_city_streets_hours a_o_city_happenings_cells a_o_trays_numbers a_o_trays_sorts a_o_trays_sizes o_marked o_wasLived o_wasParsed o_faultKind o_faultPlace o_latestStatus o_fractionTop o_fractionBottom o_city_wage o_city_delay o_city_odds o_city_clock o_city_hasWeeks o_city_streets_corners o_city_happenings_many o_city_happenings_cells o_trays_numbers o_trays_sizes) → va_S A s.heap H locs → lv_has ls 5 [] → W p l e (rmd 3) s m aa below meth cd H locs 0 0 QQ (F0 m 63 ls [])))) ?_ F 0 e2 hit2 ?_ _ _ _ hP hD hS (lv_sub hl [1, 2, 3, 0] rfl)
  · intro st2 r2 hf hk2 he2 H locs ls hP hD hS hl
    unfold X11_explains_b2 at hf
    refine lv_iload_n hx hb dX11_explains_2 rfl (lv_at hl 3 rfl) ?_
    refine lv_aload_n hx hb dX11_explains_3 rfl (lv_at hl 0 rfl) ?_
    refine va_get (D := E.1) (ci := 11) (v := .ref a_o_city) (C := RX11) (T := TX11) (N := 19) hx hb hts inX11 hown hK hP 0 rfl rfl 0 (by decide) (hts _ fl_X11_10) (fun _ h9 => h9) rfl dX11_explains_4 ?_
    refine va_get (D := E.1) (ci := 0) (v := .ref a_o_city_streets) (C := RX0) (T := TX0) (N := 11) hx hb hts inX0 hown hK hP 1 rfl rfl 5 (by decide) (hts _ fl_X11_163) (fun _ h9 => h9) rfl dX11_explains_7 ?_
    refine va_get (D := E.1) (ci := 6) (v := .int o_city_streets_corners) (C := RX6) (T := TX6) (N := 4) hx hb hts inX6 hown hK hP 2 rfl rfl 0 (by decide) (hts _ fl_X11_167) (fun _ h9 => h9) rfl dX11_explains_10 ?_
    refine lv_icmp_ge (tgt := 63) hx hb dX11_explains_13 (by decide) (fun hc => ?_) (fun hc => ?_)
    · have hf := it_t hc hf
      exact he2 _ (Option.some.inj hf).symm _ _ _ hP hD hS (lv_sub hl [] rfl)
    · have hf := it_f hc hf
      refine lv_iload_n hx hb dX11_explains_16 rfl (lv_at hl 1 rfl) ?_
      refine lv_aload_n hx hb dX11_explains_17 rfl (lv_at hl 0 rfl) ?_
      refine va_get (D := E.1) (ci := 11) (v := .ref a_o_city) (C := RX11) (T := TX11) (N := 19) hx hb hts inX11 hown hK hP 0 rfl rfl 0 (by decide) (hts _ fl_X11_10) (fun _ h9 => h9) rfl dX11_explains_18 ?_
      refine va_get (D := E.1) (ci := 0) (v := .ref a_o_city_happenings) (C := RX0) (T := TX0) (N := 11) hx hb hts inX0 hown hK hP 1 rfl rfl 8 (by decide) (hts _ fl_X11_213) (fun _ h9 => h9) rfl dX11_explains_21 ?_
      refine lv_iconst (v := 0) hx hb dX11_explains_24 (by decide) ?_
      refine lv_iload_n hx hb dX11_explains_25 rfl (lv_at hl 3 rfl) ?_
      obtain ⟨u26, hu26, hf⟩ := bd hf
      refine keepVI (ct_X7_withValue l E F a_o_city_happenings a_o_city_happenings_cells 40 5 o_city_happenings_many o_city_happenings_cells (0 : Int32) st2 u26 hu26) [3, 4] cal_X7_withValue cav_X7_withValue lk_X11_404 cx hP hD hS hl dX11_explains_26 rfl rfl rfl rfl (Nat.le_of_ble_eq_true rfl) ⟨Nat.le_of_ble_eq_true rfl, Nat.le_of_ble_eq_true rfl⟩ rfl (by decide) (fun H locs hP hS => ?_)
      refine lv_iand hx hb dX11_explains_29 ?_
      refine lv_istore (lv' := [(4, .int (v1 &&& u26)), (0, .ref a_o), (1, .int v1), (2, .int v2), (3, .int st2)]) hx hb dX11_explains_30 hl (by decide) rfl (fun ls hl => ?_)
      refine lv_aload_n hx hb dX11_explains_32 rfl (lv_at hl 1 rfl) ?_
      refine va_get (D := E.1) (ci := 11) (v := .ref a_o_city) (C := RX11) (T := TX11) (N := 19) hx hb hts inX11 hown hK hP 0 rfl rfl 0 (by decide) (hts _ fl_X11_10) (fun _ h9 => h9) rfl dX11_explains_33 ?_
      refine lv_iload hx hb dX11_explains_36 (lv_at hl 0 rfl) ?_
      obtain ⟨u38, hu38, hf⟩ := bd hf
      refine keepVI (ct_X0_greatnessOf l E F a_o_city a_o_city_streets a_o_city_names a_o_city_extras a_o_city_happenings a_o_city_watchers a_o_city_weeks a_o_city_happenings_cells o_city_wage o_city_delay o_city_odds o_city_clock o_city_hasWeeks o_city_happenings_many o_city_happenings_cells (v1 &&& u26) u38 hu38) [1, 3, 4] cal_X0_greatnessOf cav_X0_greatnessOf lk_X11_407 cx hP hD hS hl dX11_explains_38 rfl rfl rfl rfl (Nat.le_of_ble_eq_true rfl) ⟨Nat.le_of_ble_eq_true rfl, Nat.le_of_ble_eq_true rfl⟩ rfl (by decide) (fun H locs hP hS => ?_)
      refine lv_i2l (v := (u38.toInt64)) hx hb dX11_explains_41 rfl ?_
      refine lv_aload_n hx hb dX11_explains_42 rfl (lv_at hl 1 rfl) ?_
      refine va_get (D := E.1) (ci := 11) (v := .ref a_o_trays) (C := RX11) (T := TX11) (N := 19) hx hb hts inX11 hown hK hP 0 rfl rfl 7 (by decide) (hts _ fl_X11_49) (fun _ h9 => h9) rfl dX11_explains_43 ?_
      refine lv_iload_n hx hb dX11_explains_46 rfl (lv_at hl 3 rfl) ?_
      refine lv_iload_n hx hb dX11_explains_47 rfl (lv_at hl 4 rfl) ?_
      obtain ⟨u48, hu48, hf⟩ := bd hf
      refine keepVL (ct_X9_get l E a_o_trays a_o_trays_numbers a_o_trays_sorts a_o_trays_sizes o_trays_numbers o_trays_sizes v2 st2 u48 hu48) [5, 6, 7] cal_X9_get cav_X9_get lk_X11_123 cx hP hD hS hl dX11_explains_48 rfl rfl rfl rfl (Nat.le_of_ble_eq_true rfl) ⟨Nat.le_of_ble_eq_true rfl, Nat.le_of_ble_eq_true rfl⟩ rfl (by decide) (fun H locs hP hS => ?_)
      refine W.lcmp hx hb dX11_explains_51 ?_
      refine lv_if_eq (tgt := 57) hx hb dX11_explains_52 (by decide) (fun hc => ?_) (fun hc => ?_)
      · have hf := it_t hc hf
        refine lv_iinc (v := (st2 + 1)) (lv' := [(3, .int (st2 + 1)), (4, .int (v1 &&& u26)), (0, .ref a_o), (1, .int v1), (2, .int v2)]) hx hb dX11_explains_57 hl (k := 4) rfl rfl (by decide) rfl (fun ls hl => ?_)
        refine lv_goto (tgt := 2) hx hb dX11_explains_60 (by decide) ?_
        exact hk2 _ (Option.some.inj hf).symm _ _ _ hP hD hS (lv_sub hl [2, 3, 4, 0] rfl)
      · have hf := it_f hc hf
        exact he2 _ (Option.some.inj hf).symm _ _ _ hP hD hS (lv_sub hl [] rfl)
  · rcases e2 with e2 | e2
    · have hf := se_l hf
      refine fun H locs ls hP hD hS hl => ?_
      refine lv_iconst (v := 0) hx hb dX11_explains_55 (by decide) ?_
      obtain rfl := Option.some.inj hf
      subst hq
      exact retZ cx rfl hP hD hS dX11_explains_56
    · have hf := se_r hf
      refine fun H locs ls hP hD hS hl => ?_
      refine lv_iconst (v := 1) hx hb dX11_explains_63 (by decide) ?_
      obtain rfl := Option.some.inj hf
      subst hq
      exact retZ cx rfl hP hD hS dX11_explains_64
def X11_explained_j59 (F : Nat) (o_latestStatus : Int32) (o_city_streets_corners : Int32) (o_city_happenings_many : Int32) (o_city_happenings_cells : Nat → Int32) (o_trays_numbers : Nat → Int64) (o_trays_sizes : Nat → Int32) (v1 : Int32) (v3 : Int32) (v4 : Int32) (v5 : Int32) : Option ((Int32 × Int32) ⊕ ((Int32))) :=
  some (.inl (v4, (v5 + 1)))
def X11_explained_b31 (F : Nat) (o_latestStatus : Int32) (o_city_streets_corners : Int32) (o_city_happenings_many : Int32) (o_city_happenings_cells : Nat → Int32) (o_trays_numbers : Nat → Int64) (o_trays_sizes : Nat → Int32) (v1 : Int32) (v3 : Int32) (st31 : Int32 × Int32) : Option ((Int32 × Int32) ⊕ ((Int32))) :=
  if v3 < st31.2 then
  some (.inr st31.1)
  else
  if (st31.2 &&& (v3 ^^^ (-1))) = 0 then
  (X11_explains F o_city_streets_corners o_city_happenings_many o_city_happenings_cells o_trays_numbers o_trays_sizes st31.2 v1).bind fun u50 =>
  if u50 = 0 then
  X11_explained_j59 F o_latestStatus o_city_streets_corners o_city_happenings_many o_city_happenings_cells o_trays_numbers o_trays_sizes v1 v3 st31.1 st31.2
  else
  X11_explained_j59 F o_latestStatus o_city_streets_corners o_city_happenings_many o_city_happenings_cells o_trays_numbers o_trays_sizes v1 v3 (st31.1 + 1) st31.2
  else
  X11_explained_j59 F o_latestStatus o_city_streets_corners o_city_happenings_many o_city_happenings_cells o_trays_numbers o_trays_sizes v1 v3 st31.1 st31.2
def X11_explained (F : Nat) (o_latestStatus : Int32) (o_city_streets_corners : Int32) (o_city_happenings_many : Int32) (o_city_happenings_cells : Nat → Int32) (o_trays_numbers : Nat → Int64) (o_trays_sizes : Nat → Int32) (v1 : Int32) : Option (Int32 × Int32) :=
  (X11_seenStatus F o_city_streets_corners o_trays_numbers o_trays_sizes v1).bind fun u2 =>
  if u2 = 0 then
  (X0_withFate F o_city_happenings_many o_city_happenings_cells (0 : Int32)).bind fun u21 =>
  (iter (X11_explained_b31 F o_latestStatus o_city_streets_corners o_city_happenings_many o_city_happenings_cells o_trays_numbers o_trays_sizes v1 u21) F (0, 0)).bind (fun (e31 : Int32) =>
    (X11_answer o_latestStatus e31).bind fun u68 =>
  some (u68.1, u68.2))
  else
  (X11_none o_latestStatus u2).bind fun u12 =>
  some (u12.1, u12.2)
abbrev wd_X11_explained (E : vE) (a_o a_o_city a_o_ahead a_o_marks a_o_tape a_o_cityReader a_o_weeksReader a_o_trays a_o_planner a_o_ruler a_o_life a_o_latestLife a_o_city_streets a_o_city_names a_o_city_extras a_o_city_happenings a_o_city_watchers a_o_city_weeks a_o_city_streets_roads a_o_city_streets_takes a_o_city_streets_hours a_o_city_happenings_cells a_o_trays_numbers a_o_trays_sorts a_o_trays_sizes : Nat) (o_marked : Int32) (o_wasLived : Int32) (o_wasParsed : Int32) (o_faultKind : Int32) (o_faultPlace : Int32) (o_latestStatus : Int32) (o_fractionTop : Int64) (o_fractionBottom : Int64) (o_city_wage : Int32) (o_city_delay : Int32) (o_city_odds : Int32) (o_city_clock : Int32) (o_city_hasWeeks : Int32) (o_city_streets_corners : Int32) (o_city_happenings_many : Int32) (o_city_happenings_cells : Nat → Int32) (o_trays_numbers : Nat → Int64) (o_trays_sizes : Nat → Int32) : va_W := [(a_o, .inr (11, [.ref a_o_city, .ref a_o_ahead, .ref a_o_marks, .int o_marked, .ref a_o_tape, .ref a_o_cityReader, .ref a_o_weeksReader, .ref a_o_trays, .ref a_o_planner, .ref a_o_ruler, .ref a_o_life, .ref a_o_latestLife, .int o_wasLived, .int o_wasParsed, .int o_faultKind, .int o_faultPlace, .int o_latestStatus, .long o_fractionTop, .long o_fractionBottom])), (a_o_city, .inr (0, [.int o_city_wage, .int o_city_delay, .int o_city_odds, .int o_city_clock, .int o_city_hasWeeks, .ref a_o_city_streets, .ref a_o_city_names, .ref a_o_city_extras, .ref a_o_city_happenings, .ref a_o_city_watchers, .ref a_o_city_weeks])), (a_o_city_streets, .inr (6, [.int o_city_streets_corners, .ref a_o_city_streets_roads, .ref a_o_city_streets_takes, .ref a_o_city_streets_hours])), (a_o_city_happenings, .inr (7, [.int 5, .ref a_o_city_happenings_cells, .int o_city_happenings_many])), (a_o_city_happenings_cells, .inl (E.2.1, 40, .inl o_city_happenings_cells)), (a_o_trays, .inr (9, [.ref a_o_trays_numbers, .ref a_o_trays_sorts, .ref a_o_trays_sizes])), (a_o_trays_numbers, .inl (E.2.2.1, 240, .inr (.inl o_trays_numbers))), (a_o_trays_sizes, .inl (E.2.1, 4, .inl o_trays_sizes))]
set_option maxHeartbeats 4000000 in
set_option maxRecDepth 100000 in
theorem ct_X11_explained (l : Launch) (E : vE) (F : Nat) (a_o a_o_city a_o_ahead a_o_marks a_o_tape a_o_cityReader a_o_weeksReader a_o_trays a_o_planner a_o_ruler a_o_life a_o_latestLife a_o_city_streets a_o_city_names a_o_city_extras a_o_city_happenings a_o_city_watchers a_o_city_weeks a_o_city_streets_roads a_o_city_streets_takes a_o_city_streets_hours a_o_city_happenings_cells a_o_trays_numbers a_o_trays_sorts a_o_trays_sizes : Nat) (o_marked : Int32) (o_wasLived : Int32) (o_wasParsed : Int32) (o_faultKind : Int32) (o_faultPlace : Int32) (o_latestStatus : Int32) (o_fractionTop : Int64) (o_fractionBottom : Int64) (o_city_wage : Int32) (o_city_delay : Int32) (o_city_odds : Int32) (o_city_clock : Int32) (o_city_hasWeeks : Int32) (o_city_streets_corners : Int32) (o_city_happenings_many : Int32) (o_city_happenings_cells : Nat → Int32) (o_trays_numbers : Nat → Int64) (o_trays_sizes : Nat → Int32) (v1 : Int32) (u : Int32 × Int32) (hf : X11_explained F o_latestStatus o_city_streets_corners o_city_happenings_many o_city_happenings_cells o_trays_numbers o_trays_sizes v1 = some u) :
    CtI l yX11_explained cX11_explained 6 (some .int) 5 E [.ref a_o, .int v1] (wd_X11_explained E a_o a_o_city a_o_ahead a_o_marks a_o_tape a_o_cityReader a_o_weeksReader a_o_trays a_o_planner a_o_ruler a_o_life a_o_latestLife a_o_city_streets a_o_city_names a_o_city_extras a_o_city_happenings a_o_city_watchers a_o_city_weeks a_o_city_streets_roads a_o_city_streets_takes a_o_city_streets_hours a_o_city_happenings_cells a_o_trays_numbers a_o_trays_sorts a_o_trays_sizes o_marked o_wasLived o_wasParsed o_faultKind o_faultPlace o_latestStatus o_fractionTop o_fractionBottom o_city_wage o_city_delay o_city_odds o_city_clock o_city_hasWeeks o_city_streets_corners o_city_happenings_many o_city_happenings_cells o_trays_numbers o_trays_sizes) (wd_X11_explained E a_o a_o_city a_o_ahead a_o_marks a_o_tape a_o_cityReader a_o_weeksReader a_o_trays a_o_planner a_o_ruler a_o_life a_o_latestLife a_o_city_streets a_o_city_names a_o_city_extras a_o_city_happenings a_o_city_watchers a_o_city_weeks a_o_city_streets_roads a_o_city_streets_takes a_o_city_streets_hours a_o_city_happenings_cells a_o_trays_numbers a_o_trays_sorts a_o_trays_sizes o_marked o_wasLived o_wasParsed o_faultKind o_faultPlace u.2 o_fractionTop o_fractionBottom o_city_wage o_city_delay o_city_odds o_city_clock o_city_hasWeeks o_city_streets_corners o_city_happenings_many o_city_happenings_cells o_trays_numbers o_trays_sizes) u.1 := by
  refine ctI (by decide) (Nat.le_of_ble_eq_true rfl) ?_
  intro p e s m below meth cd A ls aa QQ hq cx hP hD hS hl
  obtain ⟨⟨hx, hb, hml, hown, hts⟩, hr, hlocks, hK, hA, hX⟩ := id cx
  have hl : lv_has ls 6 [(0, .ref a_o), (1, .int v1)] := hl
  unfold X11_explained at hf
  refine lv_aload_n hx hb dX11_explained_0 rfl (lv_at hl 0 rfl) ?_
  refine lv_iload_n hx hb dX11_explained_1 rfl (lv_at hl 1 rfl) ?_
  obtain ⟨u2, hu2, hf⟩ := bd hf
  refine keepVI (ct_X11_seenStatus l E F a_o a_o_city a_o_ahead a_o_marks a_o_tape a_o_cityReader a_o_weeksReader a_o_trays a_o_planner a_o_ruler a_o_life a_o_latestLife a_o_city_streets a_o_city_names a_o_city_extras a_o_city_happenings a_o_city_watchers a_o_city_weeks a_o_city_streets_roads a_o_city_streets_takes a_o_city_streets_hours a_o_trays_numbers a_o_trays_sorts a_o_trays_sizes o_marked o_wasLived o_wasParsed o_faultKind o_faultPlace o_latestStatus o_fractionTop o_fractionBottom o_city_wage o_city_delay o_city_odds o_city_clock o_city_hasWeeks o_city_streets_corners o_trays_numbers o_trays_sizes v1 u2 hu2) [0, 1, 2, 5, 6, 7] cal_X11_seenStatus cav_X11_seenStatus lk_X11_343 cx hP hD hS hl dX11_explained_2 rfl rfl rfl rfl (Nat.le_of_ble_eq_true rfl) ⟨Nat.le_of_ble_eq_true rfl, Nat.le_of_ble_eq_true rfl⟩ rfl (by decide) (fun H locs hP hS => ?_)
  refine lv_istore_n (lv' := [(2, .int u2), (0, .ref a_o), (1, .int v1)]) hx hb dX11_explained_5 rfl hl (by decide) rfl (fun ls hl => ?_)
  refine lv_iload_n hx hb dX11_explained_6 rfl (lv_at hl 0 rfl) ?_
  refine lv_if_eq (tgt := 16) hx hb dX11_explained_7 (by decide) (fun hc => ?_) (fun hc => ?_)
  · have hf := it_t hc hf
    refine lv_aload_n hx hb dX11_explained_16 rfl (lv_at hl 1 rfl) ?_
    refine va_get (D := E.1) (ci := 11) (v := .ref a_o_city) (C := RX11) (T := TX11) (N := 19) hx hb hts inX11 hown hK hP 0 rfl rfl 0 (by decide) (hts _ fl_X11_10) (fun _ h9 => h9) rfl dX11_explained_17 ?_
    refine lv_iconst (v := 0) hx hb dX11_explained_20 (by decide) ?_
    obtain ⟨u21, hu21, hf⟩ := bd hf
    refine keepVI (ct_X0_withFate l E F a_o_city a_o_city_streets a_o_city_names a_o_city_extras a_o_city_happenings a_o_city_watchers a_o_city_weeks a_o_city_happenings_cells o_city_wage o_city_delay o_city_odds o_city_clock o_city_hasWeeks o_city_happenings_many o_city_happenings_cells (0 : Int32) u21 hu21) [1, 3, 4] cal_X0_withFate cav_X0_withFate lk_X11_231 cx hP hD hS hl dX11_explained_21 rfl rfl rfl rfl (Nat.le_of_ble_eq_true rfl) ⟨Nat.le_of_ble_eq_true rfl, Nat.le_of_ble_eq_true rfl⟩ rfl (by decide) (fun H locs hP hS => ?_)
    refine lv_istore_n (lv' := [(3, .int u21), (2, .int u2), (0, .ref a_o), (1, .int v1)]) hx hb dX11_explained_24 rfl hl (by decide) rfl (fun ls hl => ?_)
    refine lv_iconst (v := 0) hx hb dX11_explained_25 (by decide) ?_
    refine lv_istore (lv' := [(4, .int 0), (3, .int u21), (2, .int u2), (0, .ref a_o), (1, .int v1)]) hx hb dX11_explained_26 hl (by decide) rfl (fun ls hl => ?_)
    refine lv_iconst (v := 0) hx hb dX11_explained_28 (by decide) ?_
    refine lv_istore (lv' := [(5, .int 0), (4, .int 0), (3, .int u21), (2, .int u2), (0, .ref a_o), (1, .int v1)]) hx hb dX11_explained_29 hl (by decide) rfl (fun ls hl => ?_)
    obtain ⟨e31, hit31, hf⟩ := bd hf
    refine iter_W (b := X11_explained_b31 F o_latestStatus o_city_streets_corners o_city_happenings_many o_city_happenings_cells o_trays_numbers o_trays_sizes v1 u21) (P := fun st31 => ∀ (H : Heap) (locs : List Loc) (ls : Array Slot), va_P E.1 vwCl (wd_X11_explained E a_o a_o_city a_o_ahead a_o_marks a_o_tape a_o_cityReader a_o_weeksReader a_o_trays a_o_planner a_o_ruler a_o_life a_o_latestLife a_o_city_streets a_o_city_names a_o_city_extras a_o_city_happenings a_o_city_watchers a_o_city_weeks a_o_city_streets_roads a_o_city_streets_takes a_o_city_streets_hours a_o_city_happenings_cells a_o_trays_numbers a_o_trays_sorts a_o_trays_sizes o_marked o_wasLived o_wasParsed o_faultKind o_faultPlace o_latestStatus o_fractionTop o_fractionBottom o_city_wage o_city_delay o_city_odds o_city_clock o_city_hasWeeks o_city_streets_corners o_city_happenings_many o_city_happenings_cells o_trays_numbers o_trays_sizes) H → va_D A (wd_X11_explained E a_o a_o_city a_o_ahead a_o_marks a_o_tape a_o_cityReader a_o_weeksReader a_o_trays a_o_planner a_o_ruler a_o_life a_o_latestLife a_o_city_streets a_o_city_names a_o_city_extras a_o_city_happenings a_o_city_watchers a_o_city_weeks a_o_city_streets_roads a_o_city_streets_takes a_o_city_streets_hours a_o_city_happenings_cells a_o_trays_numbers a_o_trays_sorts a_o_trays_sizes o_marked o_wasLived o_wasParsed o_faultKind o_faultPlace o_latestStatus o_fractionTop o_fractionBottom o_city_wage o_city_delay o_city_odds o_city_clock o_city_hasWeeks o_city_streets_corners o_city_happenings_many o_city_happenings_cells o_trays_numbers o_trays_sizes) → va_S A s.heap H locs → lv_has ls 6 [(0, .ref a_o), (1, .int v1), (3, .int u21), (4, .int st31.1), (5, .int st31.2)] → W p l e (rmd 5) s m aa below meth cd H locs 0 0 QQ (F0 m 31 ls [])) (G := (fun (e31 : Int32) => ∀ (H : Heap) (locs : List Loc) (ls : Array Slot), va_P E.1 vwCl (wd_X11_explained E a_o a_o_city a_o_ahead a_o_marks a_o_tape a_o_cityReader a_o_weeksReader a_o_trays a_o_planner a_o_ruler a_o_life a_o_latestLife a_o_city_streets a_o_city_names a_o_city_extras a_o_city_happenings a_o_city_watchers a_o_city_weeks a_o_city_streets_roads a_o_city_streets_takes a_o_city_streets_hours a_o_city_happenings_cells a_o_trays_numbers a_o_trays_sorts a_o_trays_sizes o_marked o_wasLived o_wasParsed o_faultKind o_faultPlace o_latestStatus o_fractionTop o_fractionBottom o_city_wage o_city_delay o_city_odds o_city_clock o_city_hasWeeks o_city_streets_corners o_city_happenings_many o_city_happenings_cells o_trays_numbers o_trays_sizes) H → va_D A (wd_X11_explained E a_o a_o_city a_o_ahead a_o_marks a_o_tape a_o_cityReader a_o_weeksReader a_o_trays a_o_planner a_o_ruler a_o_life a_o_latestLife a_o_city_streets a_o_city_names a_o_city_extras a_o_city_happenings a_o_city_watchers a_o_city_weeks a_o_city_streets_roads a_o_city_streets_takes a_o_city_streets_hours a_o_city_happenings_cells a_o_trays_numbers a_o_trays_sorts a_o_trays_sizes o_marked o_wasLived o_wasParsed o_faultKind o_faultPlace o_latestStatus o_fractionTop o_fractionBottom o_city_wage o_city_delay o_city_odds o_city_clock o_city_hasWeeks o_city_streets_corners o_city_happenings_many o_city_happenings_cells o_trays_numbers o_trays_sizes) → va_S A s.heap H locs → lv_has ls 6 [(0, .ref a_o), (4, .int e31)] → W p l e (rmd 5) s m aa below meth cd H locs 0 0 QQ (F0 m 65 ls []))) ?_ F (0, 0) e31 hit31 ?_ _ _ _ hP hD hS (lv_sub hl [4, 5, 2, 1, 0] rfl)
    · intro st31 r31 hf hk31 he31 H locs ls hP hD hS hl
      have hj59 : ∀ (v4_j59 : Int32) (v5_j59 : Int32) (H : Heap) (locs : List Loc) (ls : Array Slot), X11_explained_j59 F o_latestStatus o_city_streets_corners o_city_happenings_many o_city_happenings_cells o_trays_numbers o_trays_sizes v1 u21 v4_j59 v5_j59 = some r31 → va_P E.1 vwCl (wd_X11_explained E a_o a_o_city a_o_ahead a_o_marks a_o_tape a_o_cityReader a_o_weeksReader a_o_trays a_o_planner a_o_ruler a_o_life a_o_latestLife a_o_city_streets a_o_city_names a_o_city_extras a_o_city_happenings a_o_city_watchers a_o_city_weeks a_o_city_streets_roads a_o_city_streets_takes a_o_city_streets_hours a_o_city_happenings_cells a_o_trays_numbers a_o_trays_sorts a_o_trays_sizes o_marked o_wasLived o_wasParsed o_faultKind o_faultPlace o_latestStatus o_fractionTop o_fractionBottom o_city_wage o_city_delay o_city_odds o_city_clock o_city_hasWeeks o_city_streets_corners o_city_happenings_many o_city_happenings_cells o_trays_numbers o_trays_sizes) H → va_D A (wd_X11_explained E a_o a_o_city a_o_ahead a_o_marks a_o_tape a_o_cityReader a_o_weeksReader a_o_trays a_o_planner a_o_ruler a_o_life a_o_latestLife a_o_city_streets a_o_city_names a_o_city_extras a_o_city_happenings a_o_city_watchers a_o_city_weeks a_o_city_streets_roads a_o_city_streets_takes a_o_city_streets_hours a_o_city_happenings_cells a_o_trays_numbers a_o_trays_sorts a_o_trays_sizes o_marked o_wasLived o_wasParsed o_faultKind o_faultPlace o_latestStatus o_fractionTop o_fractionBottom o_city_wage o_city_delay o_city_odds o_city_clock o_city_hasWeeks o_city_streets_corners o_city_happenings_many o_city_happenings_cells o_trays_numbers o_trays_sizes) → va_S A s.heap H locs → lv_has ls 6 [(0, .ref a_o), (1, .int v1), (3, .int u21), (4, .int v4_j59), (5, .int v5_j59)] → W p l e (rmd 5) s m aa below meth cd H locs 0 0 QQ (F0 m 59 ls []) := by
        intro v4_j59 v5_j59 H locs ls hf hP hD hS hl
        unfold X11_explained_j59 at hf
        refine lv_iinc (v := (v5_j59 + 1)) (lv' := [(5, .int (v5_j59 + 1)), (0, .ref a_o), (1, .int v1), (3, .int u21), (4, .int v4_j59)]) hx hb dX11_explained_59 hl (k := 4) rfl rfl (by decide) rfl (fun ls hl => ?_)
        refine lv_goto (tgt := 31) hx hb dX11_explained_62 (by decide) ?_
        exact hk31 _ (Option.some.inj hf).symm _ _ _ hP hD hS (lv_sub hl [1, 2, 3, 4, 0] rfl)
      unfold X11_explained_b31 at hf
      refine lv_iload hx hb dX11_explained_31 (lv_at hl 4 rfl) ?_
      refine lv_iload_n hx hb dX11_explained_33 rfl (lv_at hl 2 rfl) ?_
      refine lv_icmp_gt (tgt := 65) hx hb dX11_explained_34 (by decide) (fun hc => ?_) (fun hc => ?_)
      · have hf := it_t hc hf
        exact he31 _ (Option.some.inj hf).symm _ _ _ hP hD hS (lv_sub hl [0, 3] rfl)
      · have hf := it_f hc hf
        refine lv_iload hx hb dX11_explained_37 (lv_at hl 4 rfl) ?_
        refine lv_iload_n hx hb dX11_explained_39 rfl (lv_at hl 2 rfl) ?_
        refine lv_iconst (v := (-1)) hx hb dX11_explained_40 (by decide) ?_
        refine lv_ixor hx hb dX11_explained_41 ?_
        refine lv_iand hx hb dX11_explained_42 ?_
        refine lv_if_ne (tgt := 59) hx hb dX11_explained_43 (by decide) (fun hc => ?_) (fun hc => ?_)
        · have hf := it_f hc hf
          exact hj59 _ _ _ _ _ hf hP hD hS (lv_sub hl [0, 1, 2, 3, 4] rfl)
        · have hf := it_t hc hf
          refine lv_aload_n hx hb dX11_explained_46 rfl (lv_at hl 0 rfl) ?_
          refine lv_iload hx hb dX11_explained_47 (lv_at hl 4 rfl) ?_
          refine lv_iload_n hx hb dX11_explained_49 rfl (lv_at hl 1 rfl) ?_
          obtain ⟨u50, hu50, hf⟩ := bd hf
          refine keepVI (ct_X11_explains l E F a_o a_o_city a_o_ahead a_o_marks a_o_tape a_o_cityReader a_o_weeksReader a_o_trays a_o_planner a_o_ruler a_o_life a_o_latestLife a_o_city_streets a_o_city_names a_o_city_extras a_o_city_happenings a_o_city_watchers a_o_city_weeks a_o_city_streets_roads a_o_city_streets_takes a_o_city_streets_hours a_o_city_happenings_cells a_o_trays_numbers a_o_trays_sorts a_o_trays_sizes o_marked o_wasLived o_wasParsed o_faultKind o_faultPlace o_latestStatus o_fractionTop o_fractionBottom o_city_wage o_city_delay o_city_odds o_city_clock o_city_hasWeeks o_city_streets_corners o_city_happenings_many o_city_happenings_cells o_trays_numbers o_trays_sizes st31.2 v1 u50 hu50) [0, 1, 2, 3, 4, 5, 6, 7] cal_X11_explains cav_X11_explains lk_X11_346 cx hP hD hS hl dX11_explained_50 rfl rfl rfl rfl (Nat.le_of_ble_eq_true rfl) ⟨Nat.le_of_ble_eq_true rfl, Nat.le_of_ble_eq_true rfl⟩ rfl (by decide) (fun H locs hP hS => ?_)
          refine lv_if_eq (tgt := 59) hx hb dX11_explained_53 (by decide) (fun hc => ?_) (fun hc => ?_)
          · have hf := it_t hc hf
            exact hj59 _ _ _ _ _ hf hP hD hS (lv_sub hl [0, 1, 2, 3, 4] rfl)
          · have hf := it_f hc hf
            refine lv_iinc (v := (st31.1 + 1)) (lv' := [(4, .int (st31.1 + 1)), (0, .ref a_o), (1, .int v1), (3, .int u21), (5, .int st31.2)]) hx hb dX11_explained_56 hl (k := 3) rfl rfl (by decide) rfl (fun ls hl => ?_)
            exact hj59 _ _ _ _ _ hf hP hD hS (lv_sub hl [1, 2, 3, 0, 4] rfl)
    · refine fun H locs ls hP hD hS hl => ?_
      refine lv_aload_n hx hb dX11_explained_65 rfl (lv_at hl 0 rfl) ?_
      refine lv_iload hx hb dX11_explained_66 (lv_at hl 1 rfl) ?_
      obtain ⟨u68, hu68, hf⟩ := bd hf
      refine callVI (wn := (wd_X11_explained E a_o a_o_city a_o_ahead a_o_marks a_o_tape a_o_cityReader a_o_weeksReader a_o_trays a_o_planner a_o_ruler a_o_life a_o_latestLife a_o_city_streets a_o_city_names a_o_city_extras a_o_city_happenings a_o_city_watchers a_o_city_weeks a_o_city_streets_roads a_o_city_streets_takes a_o_city_streets_hours a_o_city_happenings_cells a_o_trays_numbers a_o_trays_sorts a_o_trays_sizes o_marked o_wasLived o_wasParsed o_faultKind o_faultPlace u68.2 o_fractionTop o_fractionBottom o_city_wage o_city_delay o_city_odds o_city_clock o_city_hasWeeks o_city_streets_corners o_city_happenings_many o_city_happenings_cells o_trays_numbers o_trays_sizes)) (n1 := 8) (ct_X11_answer l E a_o a_o_city a_o_ahead a_o_marks a_o_tape a_o_cityReader a_o_weeksReader a_o_trays a_o_planner a_o_ruler a_o_life a_o_latestLife o_marked o_wasLived o_wasParsed o_faultKind o_faultPlace o_latestStatus o_fractionTop o_fractionBottom e31 u68 hu68) [0] cal_X11_answer cav_X11_answer lk_X11_172 cx hP hD hS hl dX11_explained_68 rfl rfl rfl rfl (Nat.le_of_ble_eq_true rfl) ⟨Nat.le_of_ble_eq_true rfl, Nat.le_of_ble_eq_true rfl⟩ rfl (by decide +kernel) rfl [some 0, none, none, none, none, none, none, none] rfl (by decide +kernel) rfl (fun H locs hP hD hS => ?_)
      obtain rfl := Option.some.inj hf
      subst hq
      exact retI cx hP hD hS dX11_explained_71
  · have hf := it_f hc hf
    refine lv_aload_n hx hb dX11_explained_10 rfl (lv_at hl 1 rfl) ?_
    refine lv_iload_n hx hb dX11_explained_11 rfl (lv_at hl 0 rfl) ?_
    obtain ⟨u12, hu12, hf⟩ := bd hf
    refine callVI (wn := (wd_X11_explained E a_o a_o_city a_o_ahead a_o_marks a_o_tape a_o_cityReader a_o_weeksReader a_o_trays a_o_planner a_o_ruler a_o_life a_o_latestLife a_o_city_streets a_o_city_names a_o_city_extras a_o_city_happenings a_o_city_watchers a_o_city_weeks a_o_city_streets_roads a_o_city_streets_takes a_o_city_streets_hours a_o_city_happenings_cells a_o_trays_numbers a_o_trays_sorts a_o_trays_sizes o_marked o_wasLived o_wasParsed o_faultKind o_faultPlace u12.2 o_fractionTop o_fractionBottom o_city_wage o_city_delay o_city_odds o_city_clock o_city_hasWeeks o_city_streets_corners o_city_happenings_many o_city_happenings_cells o_trays_numbers o_trays_sizes)) (n1 := 8) (ct_X11_none l E a_o a_o_city a_o_ahead a_o_marks a_o_tape a_o_cityReader a_o_weeksReader a_o_trays a_o_planner a_o_ruler a_o_life a_o_latestLife o_marked o_wasLived o_wasParsed o_faultKind o_faultPlace o_latestStatus o_fractionTop o_fractionBottom u2 u12 hu12) [0] cal_X11_none cav_X11_none lk_X11_119 cx hP hD hS hl dX11_explained_12 rfl rfl rfl rfl (Nat.le_of_ble_eq_true rfl) ⟨Nat.le_of_ble_eq_true rfl, Nat.le_of_ble_eq_true rfl⟩ rfl (by decide +kernel) rfl [some 0, none, none, none, none, none, none, none] rfl (by decide +kernel) rfl (fun H locs hP hD hS => ?_)
    obtain rfl := Option.some.inj hf
    subst hq
    exact retI cx hP hD hS dX11_explained_15
def X11_sure_j63 (F : Nat) (o_latestStatus : Int32) (o_city_streets_corners : Int32) (o_city_happenings_many : Int32) (o_city_happenings_cells : Nat → Int32) (o_trays_numbers : Nat → Int64) (o_trays_sizes : Nat → Int32) (v1 : Int32) (v3 : Int32) (v4 : Int32) (v5 : Int32) : Option ((Int32 × Int32) ⊕ ((Int32))) :=
  some (.inl (v4, (v5 + 1)))
def X11_sure_b31 (F : Nat) (o_latestStatus : Int32) (o_city_streets_corners : Int32) (o_city_happenings_many : Int32) (o_city_happenings_cells : Nat → Int32) (o_trays_numbers : Nat → Int64) (o_trays_sizes : Nat → Int32) (v1 : Int32) (v3 : Int32) (st31 : Int32 × Int32) : Option ((Int32 × Int32) ⊕ ((Int32))) :=
  if v3 < st31.2 then
  some (.inr st31.1)
  else
  if (st31.2 &&& (v3 ^^^ (-1))) = 0 then
  (X11_explains F o_city_streets_corners o_city_happenings_many o_city_happenings_cells o_trays_numbers o_trays_sizes st31.2 v1).bind fun u50 =>
  if u50 = 0 then
  X11_sure_j63 F o_latestStatus o_city_streets_corners o_city_happenings_many o_city_happenings_cells o_trays_numbers o_trays_sizes v1 v3 st31.1 st31.2
  else
  X11_sure_j63 F o_latestStatus o_city_streets_corners o_city_happenings_many o_city_happenings_cells o_trays_numbers o_trays_sizes v1 v3 (st31.1 &&& st31.2) st31.2
  else
  X11_sure_j63 F o_latestStatus o_city_streets_corners o_city_happenings_many o_city_happenings_cells o_trays_numbers o_trays_sizes v1 v3 st31.1 st31.2
def X11_sure (F : Nat) (o_latestStatus : Int32) (o_city_streets_corners : Int32) (o_city_happenings_many : Int32) (o_city_happenings_cells : Nat → Int32) (o_trays_numbers : Nat → Int64) (o_trays_sizes : Nat → Int32) (v1 : Int32) : Option (Int32 × Int32) :=
  (X11_seenStatus F o_city_streets_corners o_trays_numbers o_trays_sizes v1).bind fun u2 =>
  if u2 = 0 then
  (X0_withFate F o_city_happenings_many o_city_happenings_cells (0 : Int32)).bind fun u21 =>
  (iter (X11_sure_b31 F o_latestStatus o_city_streets_corners o_city_happenings_many o_city_happenings_cells o_trays_numbers o_trays_sizes v1 u21) F ((-1), 0)).bind (fun (e31 : Int32) =>
    if e31 = (-1) then
  (X11_none o_latestStatus (6 : Int32)).bind fun u78 =>
  some (u78.1, u78.2)
  else
  (X11_answer o_latestStatus e31).bind fun u87 =>
  some (u87.1, u87.2))
  else
  (X11_none o_latestStatus u2).bind fun u12 =>
  some (u12.1, u12.2)
abbrev wd_X11_sure (E : vE) (a_o a_o_city a_o_ahead a_o_marks a_o_tape a_o_cityReader a_o_weeksReader a_o_trays a_o_planner a_o_ruler a_o_life a_o_latestLife a_o_city_streets a_o_city_names a_o_city_extras a_o_city_happenings a_o_city_watchers a_o_city_weeks a_o_city_streets_roads a_o_city_streets_takes a_o_city_streets_hours a_o_city_happenings_cells a_o_trays_numbers a_o_trays_sorts a_o_trays_sizes : Nat) (o_marked : Int32) (o_wasLived : Int32) (o_wasParsed : Int32) (o_faultKind : Int32) (o_faultPlace : Int32) (o_latestStatus : Int32) (o_fractionTop : Int64) (o_fractionBottom : Int64) (o_city_wage : Int32) (o_city_delay : Int32) (o_city_odds : Int32) (o_city_clock : Int32) (o_city_hasWeeks : Int32) (o_city_streets_corners : Int32) (o_city_happenings_many : Int32) (o_city_happenings_cells : Nat → Int32) (o_trays_numbers : Nat → Int64) (o_trays_sizes : Nat → Int32) : va_W := [(a_o, .inr (11, [.ref a_o_city, .ref a_o_ahead, .ref a_o_marks, .int o_marked, .ref a_o_tape, .ref a_o_cityReader, .ref a_o_weeksReader, .ref a_o_trays, .ref a_o_planner, .ref a_o_ruler, .ref a_o_life, .ref a_o_latestLife, .int o_wasLived, .int o_wasParsed, .int o_faultKind, .int o_faultPlace, .int o_latestStatus, .long o_fractionTop, .long o_fractionBottom])), (a_o_city, .inr (0, [.int o_city_wage, .int o_city_delay, .int o_city_odds, .int o_city_clock, .int o_city_hasWeeks, .ref a_o_city_streets, .ref a_o_city_names, .ref a_o_city_extras, .ref a_o_city_happenings, .ref a_o_city_watchers, .ref a_o_city_weeks])), (a_o_city_streets, .inr (6, [.int o_city_streets_corners, .ref a_o_city_streets_roads, .ref a_o_city_streets_takes, .ref a_o_city_streets_hours])), (a_o_city_happenings, .inr (7, [.int 5, .ref a_o_city_happenings_cells, .int o_city_happenings_many])), (a_o_city_happenings_cells, .inl (E.2.1, 40, .inl o_city_happenings_cells)), (a_o_trays, .inr (9, [.ref a_o_trays_numbers, .ref a_o_trays_sorts, .ref a_o_trays_sizes])), (a_o_trays_numbers, .inl (E.2.2.1, 240, .inr (.inl o_trays_numbers))), (a_o_trays_sizes, .inl (E.2.1, 4, .inl o_trays_sizes))]
set_option maxHeartbeats 4000000 in
set_option maxRecDepth 100000 in
theorem ct_X11_sure (l : Launch) (E : vE) (F : Nat) (a_o a_o_city a_o_ahead a_o_marks a_o_tape a_o_cityReader a_o_weeksReader a_o_trays a_o_planner a_o_ruler a_o_life a_o_latestLife a_o_city_streets a_o_city_names a_o_city_extras a_o_city_happenings a_o_city_watchers a_o_city_weeks a_o_city_streets_roads a_o_city_streets_takes a_o_city_streets_hours a_o_city_happenings_cells a_o_trays_numbers a_o_trays_sorts a_o_trays_sizes : Nat) (o_marked : Int32) (o_wasLived : Int32) (o_wasParsed : Int32) (o_faultKind : Int32) (o_faultPlace : Int32) (o_latestStatus : Int32) (o_fractionTop : Int64) (o_fractionBottom : Int64) (o_city_wage : Int32) (o_city_delay : Int32) (o_city_odds : Int32) (o_city_clock : Int32) (o_city_hasWeeks : Int32) (o_city_streets_corners : Int32) (o_city_happenings_many : Int32) (o_city_happenings_cells : Nat → Int32) (o_trays_numbers : Nat → Int64) (o_trays_sizes : Nat → Int32) (v1 : Int32) (u : Int32 × Int32) (hf : X11_sure F o_latestStatus o_city_streets_corners o_city_happenings_many o_city_happenings_cells o_trays_numbers o_trays_sizes v1 = some u) :
    CtI l yX11_sure cX11_sure 6 (some .int) 5 E [.ref a_o, .int v1] (wd_X11_sure E a_o a_o_city a_o_ahead a_o_marks a_o_tape a_o_cityReader a_o_weeksReader a_o_trays a_o_planner a_o_ruler a_o_life a_o_latestLife a_o_city_streets a_o_city_names a_o_city_extras a_o_city_happenings a_o_city_watchers a_o_city_weeks a_o_city_streets_roads a_o_city_streets_takes a_o_city_streets_hours a_o_city_happenings_cells a_o_trays_numbers a_o_trays_sorts a_o_trays_sizes o_marked o_wasLived o_wasParsed o_faultKind o_faultPlace o_latestStatus o_fractionTop o_fractionBottom o_city_wage o_city_delay o_city_odds o_city_clock o_city_hasWeeks o_city_streets_corners o_city_happenings_many o_city_happenings_cells o_trays_numbers o_trays_sizes) (wd_X11_sure E a_o a_o_city a_o_ahead a_o_marks a_o_tape a_o_cityReader a_o_weeksReader a_o_trays a_o_planner a_o_ruler a_o_life a_o_latestLife a_o_city_streets a_o_city_names a_o_city_extras a_o_city_happenings a_o_city_watchers a_o_city_weeks a_o_city_streets_roads a_o_city_streets_takes a_o_city_streets_hours a_o_city_happenings_cells a_o_trays_numbers a_o_trays_sorts a_o_trays_sizes o_marked o_wasLived o_wasParsed o_faultKind o_faultPlace u.2 o_fractionTop o_fractionBottom o_city_wage o_city_delay o_city_odds o_city_clock o_city_hasWeeks o_city_streets_corners o_city_happenings_many o_city_happenings_cells o_trays_numbers o_trays_sizes) u.1 := by
  refine ctI (by decide) (Nat.le_of_ble_eq_true rfl) ?_
  intro p e s m below meth cd A ls aa QQ hq cx hP hD hS hl
  obtain ⟨⟨hx, hb, hml, hown, hts⟩, hr, hlocks, hK, hA, hX⟩ := id cx
  have hl : lv_has ls 6 [(0, .ref a_o), (1, .int v1)] := hl
  unfold X11_sure at hf
  refine lv_aload_n hx hb dX11_sure_0 rfl (lv_at hl 0 rfl) ?_
  refine lv_iload_n hx hb dX11_sure_1 rfl (lv_at hl 1 rfl) ?_
  obtain ⟨u2, hu2, hf⟩ := bd hf
  refine keepVI (ct_X11_seenStatus l E F a_o a_o_city a_o_ahead a_o_marks a_o_tape a_o_cityReader a_o_weeksReader a_o_trays a_o_planner a_o_ruler a_o_life a_o_latestLife a_o_city_streets a_o_city_names a_o_city_extras a_o_city_happenings a_o_city_watchers a_o_city_weeks a_o_city_streets_roads a_o_city_streets_takes a_o_city_streets_hours a_o_trays_numbers a_o_trays_sorts a_o_trays_sizes o_marked o_wasLived o_wasParsed o_faultKind o_faultPlace o_latestStatus o_fractionTop o_fractionBottom o_city_wage o_city_delay o_city_odds o_city_clock o_city_hasWeeks o_city_streets_corners o_trays_numbers o_trays_sizes v1 u2 hu2) [0, 1, 2, 5, 6, 7] cal_X11_seenStatus cav_X11_seenStatus lk_X11_343 cx hP hD hS hl dX11_sure_2 rfl rfl rfl rfl (Nat.le_of_ble_eq_true rfl) ⟨Nat.le_of_ble_eq_true rfl, Nat.le_of_ble_eq_true rfl⟩ rfl (by decide) (fun H locs hP hS => ?_)
  refine lv_istore_n (lv' := [(2, .int u2), (0, .ref a_o), (1, .int v1)]) hx hb dX11_sure_5 rfl hl (by decide) rfl (fun ls hl => ?_)
  refine lv_iload_n hx hb dX11_sure_6 rfl (lv_at hl 0 rfl) ?_
  refine lv_if_eq (tgt := 16) hx hb dX11_sure_7 (by decide) (fun hc => ?_) (fun hc => ?_)
  · have hf := it_t hc hf
    refine lv_aload_n hx hb dX11_sure_16 rfl (lv_at hl 1 rfl) ?_
    refine va_get (D := E.1) (ci := 11) (v := .ref a_o_city) (C := RX11) (T := TX11) (N := 19) hx hb hts inX11 hown hK hP 0 rfl rfl 0 (by decide) (hts _ fl_X11_10) (fun _ h9 => h9) rfl dX11_sure_17 ?_
    refine lv_iconst (v := 0) hx hb dX11_sure_20 (by decide) ?_
    obtain ⟨u21, hu21, hf⟩ := bd hf
    refine keepVI (ct_X0_withFate l E F a_o_city a_o_city_streets a_o_city_names a_o_city_extras a_o_city_happenings a_o_city_watchers a_o_city_weeks a_o_city_happenings_cells o_city_wage o_city_delay o_city_odds o_city_clock o_city_hasWeeks o_city_happenings_many o_city_happenings_cells (0 : Int32) u21 hu21) [1, 3, 4] cal_X0_withFate cav_X0_withFate lk_X11_231 cx hP hD hS hl dX11_sure_21 rfl rfl rfl rfl (Nat.le_of_ble_eq_true rfl) ⟨Nat.le_of_ble_eq_true rfl, Nat.le_of_ble_eq_true rfl⟩ rfl (by decide) (fun H locs hP hS => ?_)
    refine lv_istore_n (lv' := [(3, .int u21), (2, .int u2), (0, .ref a_o), (1, .int v1)]) hx hb dX11_sure_24 rfl hl (by decide) rfl (fun ls hl => ?_)
    refine lv_iconst (v := (-1)) hx hb dX11_sure_25 (by decide) ?_
    refine lv_istore (lv' := [(4, .int (-1)), (3, .int u21), (2, .int u2), (0, .ref a_o), (1, .int v1)]) hx hb dX11_sure_26 hl (by decide) rfl (fun ls hl => ?_)
    refine lv_iconst (v := 0) hx hb dX11_sure_28 (by decide) ?_
    refine lv_istore (lv' := [(5, .int 0), (4, .int (-1)), (3, .int u21), (2, .int u2), (0, .ref a_o), (1, .int v1)]) hx hb dX11_sure_29 hl (by decide) rfl (fun ls hl => ?_)
    obtain ⟨e31, hit31, hf⟩ := bd hf
    refine iter_W (b := X11_sure_b31 F o_latestStatus o_city_streets_corners o_city_happenings_many o_city_happenings_cells o_trays_numbers o_trays_sizes v1 u21) (P := fun st31 => ∀ (H : Heap) (locs : List Loc) (ls : Array Slot), va_P E.1 vwCl (wd_X11_sure E a_o a_o_city a_o_ahead a_o_marks a_o_tape a_o_cityReader a_o_weeksReader a_o_trays a_o_planner a_o_ruler a_o_life a_o_latestLife a_o_city_streets a_o_city_names a_o_city_extras a_o_city_happenings a_o_city_watchers a_o_city_weeks a_o_city_streets_roads a_o_city_streets_takes a_o_city_streets_hours a_o_city_happenings_cells a_o_trays_numbers a_o_trays_sorts a_o_trays_sizes o_marked o_wasLived o_wasParsed o_faultKind o_faultPlace o_latestStatus o_fractionTop o_fractionBottom o_city_wage o_city_delay o_city_odds o_city_clock o_city_hasWeeks o_city_streets_corners o_city_happenings_many o_city_happenings_cells o_trays_numbers o_trays_sizes) H → va_D A (wd_X11_sure E a_o a_o_city a_o_ahead a_o_marks a_o_tape a_o_cityReader a_o_weeksReader a_o_trays a_o_planner a_o_ruler a_o_life a_o_latestLife a_o_city_streets a_o_city_names a_o_city_extras a_o_city_happenings a_o_city_watchers a_o_city_weeks a_o_city_streets_roads a_o_city_streets_takes a_o_city_streets_hours a_o_city_happenings_cells a_o_trays_numbers a_o_trays_sorts a_o_trays_sizes o_marked o_wasLived o_wasParsed o_faultKind o_faultPlace o_latestStatus o_fractionTop o_fractionBottom o_city_wage o_city_delay o_city_odds o_city_clock o_city_hasWeeks o_city_streets_corners o_city_happenings_many o_city_happenings_cells o_trays_numbers o_trays_sizes) → va_S A s.heap H locs → lv_has ls 6 [(0, .ref a_o), (1, .int v1), (3, .int u21), (4, .int st31.1), (5, .int st31.2)] → W p l e (rmd 5) s m aa below meth cd H locs 0 0 QQ (F0 m 31 ls [])) (G := (fun (e31 : Int32) => ∀ (H : Heap) (locs : List Loc) (ls : Array Slot), va_P E.1 vwCl (wd_X11_sure E a_o a_o_city a_o_ahead a_o_marks a_o_tape a_o_cityReader a_o_weeksReader a_o_trays a_o_planner a_o_ruler a_o_life a_o_latestLife a_o_city_streets a_o_city_names a_o_city_extras a_o_city_happenings a_o_city_watchers a_o_city_weeks a_o_city_streets_roads a_o_city_streets_takes a_o_city_streets_hours a_o_city_happenings_cells a_o_trays_numbers a_o_trays_sorts a_o_trays_sizes o_marked o_wasLived o_wasParsed o_faultKind o_faultPlace o_latestStatus o_fractionTop o_fractionBottom o_city_wage o_city_delay o_city_odds o_city_clock o_city_hasWeeks o_city_streets_corners o_city_happenings_many o_city_happenings_cells o_trays_numbers o_trays_sizes) H → va_D A (wd_X11_sure E a_o a_o_city a_o_ahead a_o_marks a_o_tape a_o_cityReader a_o_weeksReader a_o_trays a_o_planner a_o_ruler a_o_life a_o_latestLife a_o_city_streets a_o_city_names a_o_city_extras a_o_city_happenings a_o_city_watchers a_o_city_weeks a_o_city_streets_roads a_o_city_streets_takes a_o_city_streets_hours a_o_city_happenings_cells a_o_trays_numbers a_o_trays_sorts a_o_trays_sizes o_marked o_wasLived o_wasParsed o_faultKind o_faultPlace o_latestStatus o_fractionTop o_fractionBottom o_city_wage o_city_delay o_city_odds o_city_clock o_city_hasWeeks o_city_streets_corners o_city_happenings_many o_city_happenings_cells o_trays_numbers o_trays_sizes) → va_S A s.heap H locs → lv_has ls 6 [(0, .ref a_o), (4, .int e31)] → W p l e (rmd 5) s m aa below meth cd H locs 0 0 QQ (F0 m 69 ls []))) ?_ F ((-1), 0) e31 hit31 ?_ _ _ _ hP hD hS (lv_sub hl [4, 5, 2, 1, 0] rfl)
    · intro st31 r31 hf hk31 he31 H locs ls hP hD hS hl
      have hj63 : ∀ (v4_j63 : Int32) (v5_j63 : Int32) (H : Heap) (locs : List Loc) (ls : Array Slot), X11_sure_j63 F o_latestStatus o_city_streets_corners o_city_happenings_many o_city_happenings_cells o_trays_numbers o_trays_sizes v1 u21 v4_j63 v5_j63 = some r31 → va_P E.1 vwCl (wd_X11_sure E a_o a_o_city a_o_ahead a_o_marks a_o_tape a_o_cityReader a_o_weeksReader a_o_trays a_o_planner a_o_ruler a_o_life a_o_latestLife a_o_city_streets a_o_city_names a_o_city_extras a_o_city_happenings a_o_city_watchers a_o_city_weeks a_o_city_streets_roads a_o_city_streets_takes a_o_city_streets_hours a_o_city_happenings_cells a_o_trays_numbers a_o_trays_sorts a_o_trays_sizes o_marked o_wasLived o_wasParsed o_faultKind o_faultPlace o_latestStatus o_fractionTop o_fractionBottom o_city_wage o_city_delay o_city_odds o_city_clock o_city_hasWeeks o_city_streets_corners o_city_happenings_many o_city_happenings_cells o_trays_numbers o_trays_sizes) H → va_D A (wd_X11_sure E a_o a_o_city a_o_ahead a_o_marks a_o_tape a_o_cityReader a_o_weeksReader a_o_trays a_o_planner a_o_ruler a_o_life a_o_latestLife a_o_city_streets a_o_city_names a_o_city_extras a_o_city_happenings a_o_city_watchers a_o_city_weeks a_o_city_streets_roads a_o_city_streets_takes a_o_city_streets_hours a_o_city_happenings_cells a_o_trays_numbers a_o_trays_sorts a_o_trays_sizes o_marked o_wasLived o_wasParsed o_faultKind o_faultPlace o_latestStatus o_fractionTop o_fractionBottom o_city_wage o_city_delay o_city_odds o_city_clock o_city_hasWeeks o_city_streets_corners o_city_happenings_many o_city_happenings_cells o_trays_numbers o_trays_sizes) → va_S A s.heap H locs → lv_has ls 6 [(0, .ref a_o), (1, .int v1), (3, .int u21), (4, .int v4_j63), (5, .int v5_j63)] → W p l e (rmd 5) s m aa below meth cd H locs 0 0 QQ (F0 m 63 ls []) := by
        intro v4_j63 v5_j63 H locs ls hf hP hD hS hl
        unfold X11_sure_j63 at hf
        refine lv_iinc (v := (v5_j63 + 1)) (lv' := [(5, .int (v5_j63 + 1)), (0, .ref a_o), (1, .int v1), (3, .int u21), (4, .int v4_j63)]) hx hb dX11_sure_63 hl (k := 4) rfl rfl (by decide) rfl (fun ls hl => ?_)
        refine lv_goto (tgt := 31) hx hb dX11_sure_66 (by decide) ?_
        exact hk31 _ (Option.some.inj hf).symm _ _ _ hP hD hS (lv_sub hl [1, 2, 3, 4, 0] rfl)
      unfold X11_sure_b31 at hf
      refine lv_iload hx hb dX11_sure_31 (lv_at hl 4 rfl) ?_
      refine lv_iload_n hx hb dX11_sure_33 rfl (lv_at hl 2 rfl) ?_
      refine lv_icmp_gt (tgt := 69) hx hb dX11_sure_34 (by decide) (fun hc => ?_) (fun hc => ?_)
      · have hf := it_t hc hf
        exact he31 _ (Option.some.inj hf).symm _ _ _ hP hD hS (lv_sub hl [0, 3] rfl)
      · have hf := it_f hc hf
        refine lv_iload hx hb dX11_sure_37 (lv_at hl 4 rfl) ?_
        refine lv_iload_n hx hb dX11_sure_39 rfl (lv_at hl 2 rfl) ?_
        refine lv_iconst (v := (-1)) hx hb dX11_sure_40 (by decide) ?_
        refine lv_ixor hx hb dX11_sure_41 ?_
        refine lv_iand hx hb dX11_sure_42 ?_
        refine lv_if_ne (tgt := 63) hx hb dX11_sure_43 (by decide) (fun hc => ?_) (fun hc => ?_)
        · have hf := it_f hc hf
          exact hj63 _ _ _ _ _ hf hP hD hS (lv_sub hl [0, 1, 2, 3, 4] rfl)
        · have hf := it_t hc hf
          refine lv_aload_n hx hb dX11_sure_46 rfl (lv_at hl 0 rfl) ?_
          refine lv_iload hx hb dX11_sure_47 (lv_at hl 4 rfl) ?_
          refine lv_iload_n hx hb dX11_sure_49 rfl (lv_at hl 1 rfl) ?_
          obtain ⟨u50, hu50, hf⟩ := bd hf
          refine keepVI (ct_X11_explains l E F a_o a_o_city a_o_ahead a_o_marks a_o_tape a_o_cityReader a_o_weeksReader a_o_trays a_o_planner a_o_ruler a_o_life a_o_latestLife a_o_city_streets a_o_city_names a_o_city_extras a_o_city_happenings a_o_city_watchers a_o_city_weeks a_o_city_streets_roads a_o_city_streets_takes a_o_city_streets_hours a_o_city_happenings_cells a_o_trays_numbers a_o_trays_sorts a_o_trays_sizes o_marked o_wasLived o_wasParsed o_faultKind o_faultPlace o_latestStatus o_fractionTop o_fractionBottom o_city_wage o_city_delay o_city_odds o_city_clock o_city_hasWeeks o_city_streets_corners o_city_happenings_many o_city_happenings_cells o_trays_numbers o_trays_sizes st31.2 v1 u50 hu50) [0, 1, 2, 3, 4, 5, 6, 7] cal_X11_explains cav_X11_explains lk_X11_346 cx hP hD hS hl dX11_sure_50 rfl rfl rfl rfl (Nat.le_of_ble_eq_true rfl) ⟨Nat.le_of_ble_eq_true rfl, Nat.le_of_ble_eq_true rfl⟩ rfl (by decide) (fun H locs hP hS => ?_)
          refine lv_if_eq (tgt := 63) hx hb dX11_sure_53 (by decide) (fun hc => ?_) (fun hc => ?_)
          · have hf := it_t hc hf
            exact hj63 _ _ _ _ _ hf hP hD hS (lv_sub hl [0, 1, 2, 3, 4] rfl)
          · have hf := it_f hc hf
            refine lv_iload hx hb dX11_sure_56 (lv_at hl 3 rfl) ?_
            refine lv_iload hx hb dX11_sure_58 (lv_at hl 4 rfl) ?_
            refine lv_iand hx hb dX11_sure_60 ?_
            refine lv_istore (lv' := [(4, .int (st31.1 &&& st31.2)), (0, .ref a_o), (1, .int v1), (3, .int u21), (5, .int st31.2)]) hx hb dX11_sure_61 hl (by decide) rfl (fun ls hl => ?_)
            exact hj63 _ _ _ _ _ hf hP hD hS (lv_sub hl [1, 2, 3, 0, 4] rfl)
    · refine fun H locs ls hP hD hS hl => ?_
      refine lv_iload hx hb dX11_sure_69 (lv_at hl 1 rfl) ?_
      refine lv_iconst (v := (-1)) hx hb dX11_sure_71 (by decide) ?_
      refine lv_icmp_ne (tgt := 84) hx hb dX11_sure_72 (by decide) (fun hc => ?_) (fun hc => ?_)
      · have hf := it_f hc hf
        refine lv_aload_n hx hb dX11_sure_84 rfl (lv_at hl 0 rfl) ?_
        refine lv_iload hx hb dX11_sure_85 (lv_at hl 1 rfl) ?_
        obtain ⟨u87, hu87, hf⟩ := bd hf
        refine callVI (wn := (wd_X11_sure E a_o a_o_city a_o_ahead a_o_marks a_o_tape a_o_cityReader a_o_weeksReader a_o_trays a_o_planner a_o_ruler a_o_life a_o_latestLife a_o_city_streets a_o_city_names a_o_city_extras a_o_city_happenings a_o_city_watchers a_o_city_weeks a_o_city_streets_roads a_o_city_streets_takes a_o_city_streets_hours a_o_city_happenings_cells a_o_trays_numbers a_o_trays_sorts a_o_trays_sizes o_marked o_wasLived o_wasParsed o_faultKind o_faultPlace u87.2 o_fractionTop o_fractionBottom o_city_wage o_city_delay o_city_odds o_city_clock o_city_hasWeeks o_city_streets_corners o_city_happenings_many o_city_happenings_cells o_trays_numbers o_trays_sizes)) (n1 := 8) (ct_X11_answer l E a_o a_o_city a_o_ahead a_o_marks a_o_tape a_o_cityReader a_o_weeksReader a_o_trays a_o_planner a_o_ruler a_o_life a_o_latestLife o_marked o_wasLived o_wasParsed o_faultKind o_faultPlace o_latestStatus o_fractionTop o_fractionBottom e31 u87 hu87) [0] cal_X11_answer cav_X11_answer lk_X11_172 cx hP hD hS hl dX11_sure_87 rfl rfl rfl rfl (Nat.le_of_ble_eq_true rfl) ⟨Nat.le_of_ble_eq_true rfl, Nat.le_of_ble_eq_true rfl⟩ rfl (by decide +kernel) rfl [some 0, none, none, none, none, none, none, none] rfl (by decide +kernel) rfl (fun H locs hP hD hS => ?_)
        obtain rfl := Option.some.inj hf
        subst hq
        exact retI cx hP hD hS dX11_sure_90
      · have hf := it_t hc hf
        refine lv_aload_n hx hb dX11_sure_75 rfl (lv_at hl 0 rfl) ?_
        refine lv_bipush (v := 6) hx hb dX11_sure_76 (by decide) ?_
        obtain ⟨u78, hu78, hf⟩ := bd hf
        refine callVI (wn := (wd_X11_sure E a_o a_o_city a_o_ahead a_o_marks a_o_tape a_o_cityReader a_o_weeksReader a_o_trays a_o_planner a_o_ruler a_o_life a_o_latestLife a_o_city_streets a_o_city_names a_o_city_extras a_o_city_happenings a_o_city_watchers a_o_city_weeks a_o_city_streets_roads a_o_city_streets_takes a_o_city_streets_hours a_o_city_happenings_cells a_o_trays_numbers a_o_trays_sorts a_o_trays_sizes o_marked o_wasLived o_wasParsed o_faultKind o_faultPlace u78.2 o_fractionTop o_fractionBottom o_city_wage o_city_delay o_city_odds o_city_clock o_city_hasWeeks o_city_streets_corners o_city_happenings_many o_city_happenings_cells o_trays_numbers o_trays_sizes)) (n1 := 8) (ct_X11_none l E a_o a_o_city a_o_ahead a_o_marks a_o_tape a_o_cityReader a_o_weeksReader a_o_trays a_o_planner a_o_ruler a_o_life a_o_latestLife o_marked o_wasLived o_wasParsed o_faultKind o_faultPlace o_latestStatus o_fractionTop o_fractionBottom (6 : Int32) u78 hu78) [0] cal_X11_none cav_X11_none lk_X11_119 cx hP hD hS hl dX11_sure_78 rfl rfl rfl rfl (Nat.le_of_ble_eq_true rfl) ⟨Nat.le_of_ble_eq_true rfl, Nat.le_of_ble_eq_true rfl⟩ rfl (by decide +kernel) rfl [some 0, none, none, none, none, none, none, none] rfl (by decide +kernel) rfl (fun H locs hP hD hS => ?_)
        refine lv_goto (tgt := 90) hx hb dX11_sure_81 (by decide) ?_
        obtain rfl := Option.some.inj hf
        subst hq
        exact retI cx hP hD hS dX11_sure_90
  · have hf := it_f hc hf
    refine lv_aload_n hx hb dX11_sure_10 rfl (lv_at hl 1 rfl) ?_
    refine lv_iload_n hx hb dX11_sure_11 rfl (lv_at hl 0 rfl) ?_
    obtain ⟨u12, hu12, hf⟩ := bd hf
    refine callVI (wn := (wd_X11_sure E a_o a_o_city a_o_ahead a_o_marks a_o_tape a_o_cityReader a_o_weeksReader a_o_trays a_o_planner a_o_ruler a_o_life a_o_latestLife a_o_city_streets a_o_city_names a_o_city_extras a_o_city_happenings a_o_city_watchers a_o_city_weeks a_o_city_streets_roads a_o_city_streets_takes a_o_city_streets_hours a_o_city_happenings_cells a_o_trays_numbers a_o_trays_sorts a_o_trays_sizes o_marked o_wasLived o_wasParsed o_faultKind o_faultPlace u12.2 o_fractionTop o_fractionBottom o_city_wage o_city_delay o_city_odds o_city_clock o_city_hasWeeks o_city_streets_corners o_city_happenings_many o_city_happenings_cells o_trays_numbers o_trays_sizes)) (n1 := 8) (ct_X11_none l E a_o a_o_city a_o_ahead a_o_marks a_o_tape a_o_cityReader a_o_weeksReader a_o_trays a_o_planner a_o_ruler a_o_life a_o_latestLife o_marked o_wasLived o_wasParsed o_faultKind o_faultPlace o_latestStatus o_fractionTop o_fractionBottom u2 u12 hu12) [0] cal_X11_none cav_X11_none lk_X11_119 cx hP hD hS hl dX11_sure_12 rfl rfl rfl rfl (Nat.le_of_ble_eq_true rfl) ⟨Nat.le_of_ble_eq_true rfl, Nat.le_of_ble_eq_true rfl⟩ rfl (by decide +kernel) rfl [some 0, none, none, none, none, none, none, none] rfl (by decide +kernel) rfl (fun H locs hP hD hS => ?_)
    obtain rfl := Option.some.inj hf
    subst hq
    exact retI cx hP hD hS dX11_sure_15
def X11_lawStatus_b30 (F : Nat) (o_trays_numbers : Nat → Int64) (o_trays_sizes : Nat → Int32) (v1 : Int32) (v2 : Int32) (st30 : Int32) : Option ((Int32) ⊕ ((Unit) ⊕ (Unit))) :=
  if v2 ≤ st30 then
  some (.inr (.inr (())))
  else
  (X9_holds o_trays_numbers o_trays_sizes v1 (3 * st30) (1 : Int32) (4 : Int32)).bind fun u47 =>
  if u47 = 0 then
  some (.inr (.inl (())))
  else
  (X9_holds o_trays_numbers o_trays_sizes v1 ((3 * st30) + 1) (0 : Int32) (99 : Int32)).bind fun u67 =>
  if u67 = 0 then
  some (.inr (.inl (())))
  else
  (X9_holds o_trays_numbers o_trays_sizes v1 ((3 * st30) + 2) (0 : Int32) (1 : Int32)).bind fun u86 =>
  if u86 = 0 then
  some (.inr (.inl (())))
  else
  some (.inl (st30 + 1))
def X11_lawStatus (F : Nat) (o_trays_numbers : Nat → Int64) (o_trays_sizes : Nat → Int32) (v1 : Int32) (v2 : Int32) : Option (Int32) :=
  (X11_within v2 (0 : Int32) (20 : Int32)).bind fun u4 =>
  if u4 = 0 then
  some 1
  else
  (X11_rangeStatus o_trays_sizes v1 (3 * v2)).bind fun u17 =>
  if u17 = 0 then
  (iter (X11_lawStatus_b30 F o_trays_numbers o_trays_sizes v1 v2) F 0).bind (Sum.elim (fun (e30 : Unit) =>
    some 5) (fun (e30 : Unit) =>
    some 0))
  else
  some u17
abbrev wd_X11_lawStatus (E : vE) (a_o a_o_city a_o_ahead a_o_marks a_o_tape a_o_cityReader a_o_weeksReader a_o_trays a_o_planner a_o_ruler a_o_life a_o_latestLife a_o_trays_numbers a_o_trays_sorts a_o_trays_sizes : Nat) (o_marked : Int32) (o_wasLived : Int32) (o_wasParsed : Int32) (o_faultKind : Int32) (o_faultPlace : Int32) (o_latestStatus : Int32) (o_fractionTop : Int64) (o_fractionBottom : Int64) (o_trays_numbers : Nat → Int64) (o_trays_sizes : Nat → Int32) : va_W := [(a_o, .inr (11, [.ref a_o_city, .ref a_o_ahead, .ref a_o_marks, .int o_marked, .ref a_o_tape, .ref a_o_cityReader, .ref a_o_weeksReader, .ref a_o_trays, .ref a_o_planner, .ref a_o_ruler, .ref a_o_life, .ref a_o_latestLife, .int o_wasLived, .int o_wasParsed, .int o_faultKind, .int o_faultPlace, .int o_latestStatus, .long o_fractionTop, .long o_fractionBottom])), (a_o_trays, .inr (9, [.ref a_o_trays_numbers, .ref a_o_trays_sorts, .ref a_o_trays_sizes])), (a_o_trays_numbers, .inl (E.2.2.1, 240, .inr (.inl o_trays_numbers))), (a_o_trays_sizes, .inl (E.2.1, 4, .inl o_trays_sizes))]
set_option maxHeartbeats 4000000 in
set_option maxRecDepth 100000 in
theorem ct_X11_lawStatus (l : Launch) (E : vE) (F : Nat) (a_o a_o_city a_o_ahead a_o_marks a_o_tape a_o_cityReader a_o_weeksReader a_o_trays a_o_planner a_o_ruler a_o_life a_o_latestLife a_o_trays_numbers a_o_trays_sorts a_o_trays_sizes : Nat) (o_marked : Int32) (o_wasLived : Int32) (o_wasParsed : Int32) (o_faultKind : Int32) (o_faultPlace : Int32) (o_latestStatus : Int32) (o_fractionTop : Int64) (o_fractionBottom : Int64) (o_trays_numbers : Nat → Int64) (o_trays_sizes : Nat → Int32) (v1 : Int32) (v2 : Int32) (u : Int32) (hf : X11_lawStatus F o_trays_numbers o_trays_sizes v1 v2 = some u) :
    CtI l yX11_lawStatus cX11_lawStatus 5 (some .int) 4 E [.ref a_o, .int v1, .int v2] (wd_X11_lawStatus E a_o a_o_city a_o_ahead a_o_marks a_o_tape a_o_cityReader a_o_weeksReader a_o_trays a_o_planner a_o_ruler a_o_life a_o_latestLife a_o_trays_numbers a_o_trays_sorts a_o_trays_sizes o_marked o_wasLived o_wasParsed o_faultKind o_faultPlace o_latestStatus o_fractionTop o_fractionBottom o_trays_numbers o_trays_sizes) (wd_X11_lawStatus E a_o a_o_city a_o_ahead a_o_marks a_o_tape a_o_cityReader a_o_weeksReader a_o_trays a_o_planner a_o_ruler a_o_life a_o_latestLife a_o_trays_numbers a_o_trays_sorts a_o_trays_sizes o_marked o_wasLived o_wasParsed o_faultKind o_faultPlace o_latestStatus o_fractionTop o_fractionBottom o_trays_numbers o_trays_sizes) u := by
  refine ctI (by decide) (Nat.le_of_ble_eq_true rfl) ?_
  intro p e s m below meth cd A ls aa QQ hq cx hP hD hS hl
  obtain ⟨⟨hx, hb, hml, hown, hts⟩, hr, hlocks, hK, hA, hX⟩ := id cx
  have hl : lv_has ls 5 [(0, .ref a_o), (1, .int v1), (2, .int v2)] := hl
  unfold X11_lawStatus at hf
  refine lv_iload_n hx hb dX11_lawStatus_0 rfl (lv_at hl 2 rfl) ?_
  refine lv_iconst (v := 0) hx hb dX11_lawStatus_1 (by decide) ?_
  refine lv_bipush (v := 20) hx hb dX11_lawStatus_2 (by decide) ?_
  obtain ⟨u4, hu4, hf⟩ := bd hf
  refine keepSI (ct_X11_within l E v2 (0 : Int32) (20 : Int32) u4 hu4) [] cal_X11_within sta_X11_within lk_X11_96 cx hP hD hS hl dX11_lawStatus_4 rfl rfl (Nat.le_of_ble_eq_true rfl) ⟨Nat.le_of_ble_eq_true rfl, Nat.le_of_ble_eq_true rfl⟩ rfl (by decide) (fun H locs hP hS => ?_)
  refine lv_if_ne (tgt := 12) hx hb dX11_lawStatus_7 (by decide) (fun hc => ?_) (fun hc => ?_)
  · have hf := it_f hc hf
    refine lv_aload_n hx hb dX11_lawStatus_12 rfl (lv_at hl 0 rfl) ?_
    refine lv_iload_n hx hb dX11_lawStatus_13 rfl (lv_at hl 1 rfl) ?_
    refine lv_iconst (v := 3) hx hb dX11_lawStatus_14 (by decide) ?_
    refine lv_iload_n hx hb dX11_lawStatus_15 rfl (lv_at hl 2 rfl) ?_
    refine lv_imul hx hb dX11_lawStatus_16 ?_
    obtain ⟨u17, hu17, hf⟩ := bd hf
    refine keepVI (ct_X11_rangeStatus l E a_o a_o_city a_o_ahead a_o_marks a_o_tape a_o_cityReader a_o_weeksReader a_o_trays a_o_planner a_o_ruler a_o_life a_o_latestLife a_o_trays_numbers a_o_trays_sorts a_o_trays_sizes o_marked o_wasLived o_wasParsed o_faultKind o_faultPlace o_latestStatus o_fractionTop o_fractionBottom o_trays_sizes v1 (3 * v2) u17 hu17) [0, 1, 3] cal_X11_rangeStatus cav_X11_rangeStatus lk_X11_382 cx hP hD hS hl dX11_lawStatus_17 rfl rfl rfl rfl (Nat.le_of_ble_eq_true rfl) ⟨Nat.le_of_ble_eq_true rfl, Nat.le_of_ble_eq_true rfl⟩ rfl (by decide) (fun H locs hP hS => ?_)
    refine lv_istore_n (lv' := [(3, .int u17), (0, .ref a_o), (1, .int v1), (2, .int v2)]) hx hb dX11_lawStatus_20 rfl hl (by decide) rfl (fun ls hl => ?_)
    refine lv_iload_n hx hb dX11_lawStatus_21 rfl (lv_at hl 0 rfl) ?_
    refine lv_if_eq (tgt := 27) hx hb dX11_lawStatus_22 (by decide) (fun hc => ?_) (fun hc => ?_)
    · have hf := it_t hc hf
      refine lv_iconst (v := 0) hx hb dX11_lawStatus_27 (by decide) ?_
      refine lv_istore (lv' := [(4, .int 0), (3, .int u17), (0, .ref a_o), (1, .int v1), (2, .int v2)]) hx hb dX11_lawStatus_28 hl (by decide) rfl (fun ls hl => ?_)
      obtain ⟨e30, hit30, hf⟩ := bd hf
      refine iter_W (b := X11_lawStatus_b30 F o_trays_numbers o_trays_sizes v1 v2) (P := fun st30 => ∀ (H : Heap) (locs : List Loc) (ls : Array Slot), va_P E.1 vwCl (wd_X11_lawStatus E a_o a_o_city a_o_ahead a_o_marks a_o_tape a_o_cityReader a_o_weeksReader a_o_trays a_o_planner a_o_ruler a_o_life a_o_latestLife a_o_trays_numbers a_o_trays_sorts a_o_trays_sizes o_marked o_wasLived o_wasParsed o_faultKind o_faultPlace o_latestStatus o_fractionTop o_fractionBottom o_trays_numbers o_trays_sizes) H → va_D A (wd_X11_lawStatus E a_o a_o_city a_o_ahead a_o_marks a_o_tape a_o_cityReader a_o_weeksReader a_o_trays a_o_planner a_o_ruler a_o_life a_o_latestLife a_o_trays_numbers a_o_trays_sorts a_o_trays_sizes o_marked o_wasLived o_wasParsed o_faultKind o_faultPlace o_latestStatus o_fractionTop o_fractionBottom o_trays_numbers o_trays_sizes) → va_S A s.heap H locs → lv_has ls 5 [(0, .ref a_o), (1, .int v1), (2, .int v2), (4, .int st30)] → W p l e (rmd 4) s m aa below meth cd H locs 0 0 QQ (F0 m 30 ls [])) (G := (Sum.elim (fun (e30 : Unit) => ∀ (H : Heap) (locs : List Loc) (ls : Array Slot), va_P E.1 vwCl (wd_X11_lawStatus E a_o a_o_city a_o_ahead a_o_marks a_o_tape a_o_cityReader a_o_weeksReader a_o_trays a_o_planner a_o_ruler a_o_life a_o_latestLife a_o_trays_numbers a_o_trays_sorts a_o_trays_sizes o_marked o_wasLived o_wasParsed o_faultKind o_faultPlace o_latestStatus o_fractionTop o_fractionBottom o_trays_numbers o_trays_sizes) H → va_D A (wd_X11_lawStatus E a_o a_o_city a_o_ahead a_o_marks a_o_tape a_o_cityReader a_o_weeksReader a_o_trays a_o_planner a_o_ruler a_o_life a_o_latestLife a_o_trays_numbers a_o_trays_sorts a_o_trays_sizes o_marked o_wasLived o_wasParsed o_faultKind o_faultPlace o_latestStatus o_fractionTop o_fractionBottom o_trays_numbers o_trays_sizes) → va_S A s.heap H locs → lv_has ls 5 [] → W p l e (rmd 4) s m aa below meth cd H locs 0 0 QQ (F0 m 92 ls [])) (fun (e30 : Unit) => ∀ (H : Heap) (locs : List Loc) (ls : Array Slot), va_P E.1 vwCl (wd_X11_lawStatus E a_o a_o_city a_o_ahead a_o_marks a_o_tape a_o_cityReader a_o_weeksReader a_o_trays a_o_planner a_o_ruler a_o_life a_o_latestLife a_o_trays_numbers a_o_trays_sorts a_o_trays_sizes o_marked o_wasLived o_wasParsed o_faultKind o_faultPlace o_latestStatus o_fractionTop o_fractionBottom o_trays_numbers o_trays_sizes) H → va_D A (wd_X11_lawStatus E a_o a_o_city a_o_ahead a_o_marks a_o_tape a_o_cityReader a_o_weeksReader a_o_trays a_o_planner a_o_ruler a_o_life a_o_latestLife a_o_trays_numbers a_o_trays_sorts a_o_trays_sizes o_marked o_wasLived o_wasParsed o_faultKind o_faultPlace o_latestStatus o_fractionTop o_fractionBottom o_trays_numbers o_trays_sizes) → va_S A s.heap H locs → lv_has ls 5 [] → W p l e (rmd 4) s m aa below meth cd H locs 0 0 QQ (F0 m 100 ls [])))) ?_ F 0 e30 hit30 ?_ _ _ _ hP hD hS (lv_sub hl [2, 3, 4, 0] rfl)
      · intro st30 r30 hf hk30 he30 H locs ls hP hD hS hl
        unfold X11_lawStatus_b30 at hf
        refine lv_iload hx hb dX11_lawStatus_30 (lv_at hl 3 rfl) ?_
        refine lv_iload_n hx hb dX11_lawStatus_32 rfl (lv_at hl 2 rfl) ?_
        refine lv_icmp_ge (tgt := 100) hx hb dX11_lawStatus_33 (by decide) (fun hc => ?_) (fun hc => ?_)
        · have hf := it_t hc hf
          exact he30 _ (Option.some.inj hf).symm _ _ _ hP hD hS (lv_sub hl [] rfl)
        · have hf := it_f hc hf
          refine lv_aload_n hx hb dX11_lawStatus_36 rfl (lv_at hl 0 rfl) ?_
          refine va_get (D := E.1) (ci := 11) (v := .ref a_o_trays) (C := RX11) (T := TX11) (N := 19) hx hb hts inX11 hown hK hP 0 rfl rfl 7 (by decide) (hts _ fl_X11_49) (fun _ h9 => h9) rfl dX11_lawStatus_37 ?_
          refine lv_iload_n hx hb dX11_lawStatus_40 rfl (lv_at hl 1 rfl) ?_
          refine lv_iconst (v := 3) hx hb dX11_lawStatus_41 (by decide) ?_
          refine lv_iload hx hb dX11_lawStatus_42 (lv_at hl 3 rfl) ?_
          refine lv_imul hx hb dX11_lawStatus_44 ?_
          refine lv_iconst (v := 1) hx hb dX11_lawStatus_45 (by decide) ?_
          refine lv_iconst (v := 4) hx hb dX11_lawStatus_46 (by decide) ?_
          obtain ⟨u47, hu47, hf⟩ := bd hf
          refine keepVI (ct_X9_holds l E a_o_trays a_o_trays_numbers a_o_trays_sorts a_o_trays_sizes o_trays_numbers o_trays_sizes v1 (3 * st30) (1 : Int32) (4 : Int32) u47 hu47) [1, 2, 3] cal_X9_holds cav_X9_holds lk_X11_401 cx hP hD hS hl dX11_lawStatus_47 rfl rfl rfl rfl (Nat.le_of_ble_eq_true rfl) ⟨Nat.le_of_ble_eq_true rfl, Nat.le_of_ble_eq_true rfl⟩ rfl (by decide) (fun H locs hP hS => ?_)
          refine lv_if_eq (tgt := 92) hx hb dX11_lawStatus_50 (by decide) (fun hc => ?_) (fun hc => ?_)
          · have hf := it_t hc hf
            exact he30 _ (Option.some.inj hf).symm _ _ _ hP hD hS (lv_sub hl [] rfl)
          · have hf := it_f hc hf
            refine lv_aload_n hx hb dX11_lawStatus_53 rfl (lv_at hl 0 rfl) ?_
            refine va_get (D := E.1) (ci := 11) (v := .ref a_o_trays) (C := RX11) (T := TX11) (N := 19) hx hb hts inX11 hown hK hP 0 rfl rfl 7 (by decide) (hts _ fl_X11_49) (fun _ h9 => h9) rfl dX11_lawStatus_54 ?_
            refine lv_iload_n hx hb dX11_lawStatus_57 rfl (lv_at hl 1 rfl) ?_
            refine lv_iconst (v := 3) hx hb dX11_lawStatus_58 (by decide) ?_
            refine lv_iload hx hb dX11_lawStatus_59 (lv_at hl 3 rfl) ?_
            refine lv_imul hx hb dX11_lawStatus_61 ?_
            refine lv_iconst (v := 1) hx hb dX11_lawStatus_62 (by decide) ?_
            refine lv_iadd hx hb dX11_lawStatus_63 ?_
            refine lv_iconst (v := 0) hx hb dX11_lawStatus_64 (by decide) ?_
            refine lv_bipush (v := 99) hx hb dX11_lawStatus_65 (by decide) ?_
            obtain ⟨u67, hu67, hf⟩ := bd hf
            refine keepVI (ct_X9_holds l E a_o_trays a_o_trays_numbers a_o_trays_sorts a_o_trays_sizes o_trays_numbers o_trays_sizes v1 ((3 * st30) + 1) (0 : Int32) (99 : Int32) u67 hu67) [1, 2, 3] cal_X9_holds cav_X9_holds lk_X11_401 cx hP hD hS hl dX11_lawStatus_67 rfl rfl rfl rfl (Nat.le_of_ble_eq_true rfl) ⟨Nat.le_of_ble_eq_true rfl, Nat.le_of_ble_eq_true rfl⟩ rfl (by decide) (fun H locs hP hS => ?_)
            refine lv_if_eq (tgt := 92) hx hb dX11_lawStatus_70 (by decide) (fun hc => ?_) (fun hc => ?_)
            · have hf := it_t hc hf
              exact he30 _ (Option.some.inj hf).symm _ _ _ hP hD hS (lv_sub hl [] rfl)
            · have hf := it_f hc hf
              refine lv_aload_n hx hb dX11_lawStatus_73 rfl (lv_at hl 0 rfl) ?_
              refine va_get (D := E.1) (ci := 11) (v := .ref a_o_trays) (C := RX11) (T := TX11) (N := 19) hx hb hts inX11 hown hK hP 0 rfl rfl 7 (by decide) (hts _ fl_X11_49) (fun _ h9 => h9) rfl dX11_lawStatus_74 ?_
              refine lv_iload_n hx hb dX11_lawStatus_77 rfl (lv_at hl 1 rfl) ?_
              refine lv_iconst (v := 3) hx hb dX11_lawStatus_78 (by decide) ?_
              refine lv_iload hx hb dX11_lawStatus_79 (lv_at hl 3 rfl) ?_
              refine lv_imul hx hb dX11_lawStatus_81 ?_
              refine lv_iconst (v := 2) hx hb dX11_lawStatus_82 (by decide) ?_
              refine lv_iadd hx hb dX11_lawStatus_83 ?_
              refine lv_iconst (v := 0) hx hb dX11_lawStatus_84 (by decide) ?_
              refine lv_iconst (v := 1) hx hb dX11_lawStatus_85 (by decide) ?_
              obtain ⟨u86, hu86, hf⟩ := bd hf
              refine keepVI (ct_X9_holds l E a_o_trays a_o_trays_numbers a_o_trays_sorts a_o_trays_sizes o_trays_numbers o_trays_sizes v1 ((3 * st30) + 2) (0 : Int32) (1 : Int32) u86 hu86) [1, 2, 3] cal_X9_holds cav_X9_holds lk_X11_401 cx hP hD hS hl dX11_lawStatus_86 rfl rfl rfl rfl (Nat.le_of_ble_eq_true rfl) ⟨Nat.le_of_ble_eq_true rfl, Nat.le_of_ble_eq_true rfl⟩ rfl (by decide) (fun H locs hP hS => ?_)
              refine lv_if_ne (tgt := 94) hx hb dX11_lawStatus_89 (by decide) (fun hc => ?_) (fun hc => ?_)
              · have hf := it_f hc hf
                refine lv_iinc (v := (st30 + 1)) (lv' := [(4, .int (st30 + 1)), (0, .ref a_o), (1, .int v1), (2, .int v2)]) hx hb dX11_lawStatus_94 hl (k := 3) rfl rfl (by decide) rfl (fun ls hl => ?_)
                refine lv_goto (tgt := 30) hx hb dX11_lawStatus_97 (by decide) ?_
                exact hk30 _ (Option.some.inj hf).symm _ _ _ hP hD hS (lv_sub hl [1, 2, 3, 0] rfl)
              · have hf := it_t hc hf
                exact he30 _ (Option.some.inj hf).symm _ _ _ hP hD hS (lv_sub hl [] rfl)
      · rcases e30 with e30 | e30
        · have hf := se_l hf
          refine fun H locs ls hP hD hS hl => ?_
          refine lv_iconst (v := 5) hx hb dX11_lawStatus_92 (by decide) ?_
          obtain rfl := Option.some.inj hf
          subst hq
          exact retI cx hP hD hS dX11_lawStatus_93
        · have hf := se_r hf
          refine fun H locs ls hP hD hS hl => ?_
          refine lv_iconst (v := 0) hx hb dX11_lawStatus_100 (by decide) ?_
          obtain rfl := Option.some.inj hf
          subst hq
          exact retI cx hP hD hS dX11_lawStatus_101
    · have hf := it_f hc hf
      refine lv_iload_n hx hb dX11_lawStatus_25 rfl (lv_at hl 0 rfl) ?_
      obtain rfl := Option.some.inj hf
      subst hq
      exact retI cx hP hD hS dX11_lawStatus_26
  · have hf := it_t hc hf
    refine lv_iconst (v := 1) hx hb dX11_lawStatus_10 (by decide) ?_
    obtain rfl := Option.some.inj hf
    subst hq
    exact retI cx hP hD hS dX11_lawStatus_11
def X11_fits_j83 (F : Nat) (o_trays_numbers : Nat → Int64) (o_trays_sizes : Nat → Int32) (v1 : Int32) (v2 : Int32) (v3 : Int32) (v4 : Int32) (v5 : Int32) (k0 : Int32) (k1 : Int32) : Option ((Int32) ⊕ ((Unit) ⊕ (Unit))) :=
  if k1 = k0 then
  some (.inl (v5 + 1))
  else
  some (.inr (.inl (())))
def X11_fits_j55 (F : Nat) (o_trays_numbers : Nat → Int64) (o_trays_sizes : Nat → Int32) (v1 : Int32) (v2 : Int32) (v3 : Int32) (v4 : Int32) (v5 : Int32) (k0 : Int32) : Option ((Int32) ⊕ ((Unit) ⊕ (Unit))) :=
  (X9_get o_trays_numbers o_trays_sizes v3 ((3 * v5) + 2)).bind fun u70 =>
  if (lg_cmp u70 1) = 0 then
  X11_fits_j83 F o_trays_numbers o_trays_sizes v1 v2 v3 v4 v5 1 k0
  else
  X11_fits_j83 F o_trays_numbers o_trays_sizes v1 v2 v3 v4 v5 0 k0
def X11_fits_b3 (F : Nat) (o_trays_numbers : Nat → Int64) (o_trays_sizes : Nat → Int32) (v1 : Int32) (v2 : Int32) (v3 : Int32) (v4 : Int32) (st3 : Int32) : Option ((Int32) ⊕ ((Unit) ⊕ (Unit))) :=
  if v4 ≤ st3 then
  some (.inr (.inr (())))
  else
  (X9_get o_trays_numbers o_trays_sizes v3 (3 * st3)).bind fun u19 =>
  (X9_get o_trays_numbers o_trays_sizes v3 ((3 * st3) + 1)).bind fun u38 =>
  if (lg_cmp (u38 * (v2.toInt64)) (u19 * (v1.toInt64))) < 0 then
  X11_fits_j55 F o_trays_numbers o_trays_sizes v1 v2 v3 v4 st3 0
  else
  X11_fits_j55 F o_trays_numbers o_trays_sizes v1 v2 v3 v4 st3 1
def X11_fits (F : Nat) (o_trays_numbers : Nat → Int64) (o_trays_sizes : Nat → Int32) (v1 : Int32) (v2 : Int32) (v3 : Int32) (v4 : Int32) : Option (Int32) :=
  (iter (X11_fits_b3 F o_trays_numbers o_trays_sizes v1 v2 v3 v4) F 0).bind (Sum.elim (fun (e3 : Unit) =>
    some 0) (fun (e3 : Unit) =>
    some 1))
abbrev wd_X11_fits (E : vE) (a_o a_o_city a_o_ahead a_o_marks a_o_tape a_o_cityReader a_o_weeksReader a_o_trays a_o_planner a_o_ruler a_o_life a_o_latestLife a_o_trays_numbers a_o_trays_sorts a_o_trays_sizes : Nat) (o_marked : Int32) (o_wasLived : Int32) (o_wasParsed : Int32) (o_faultKind : Int32) (o_faultPlace : Int32) (o_latestStatus : Int32) (o_fractionTop : Int64) (o_fractionBottom : Int64) (o_trays_numbers : Nat → Int64) (o_trays_sizes : Nat → Int32) : va_W := [(a_o, .inr (11, [.ref a_o_city, .ref a_o_ahead, .ref a_o_marks, .int o_marked, .ref a_o_tape, .ref a_o_cityReader, .ref a_o_weeksReader, .ref a_o_trays, .ref a_o_planner, .ref a_o_ruler, .ref a_o_life, .ref a_o_latestLife, .int o_wasLived, .int o_wasParsed, .int o_faultKind, .int o_faultPlace, .int o_latestStatus, .long o_fractionTop, .long o_fractionBottom])), (a_o_trays, .inr (9, [.ref a_o_trays_numbers, .ref a_o_trays_sorts, .ref a_o_trays_sizes])), (a_o_trays_numbers, .inl (E.2.2.1, 240, .inr (.inl o_trays_numbers))), (a_o_trays_sizes, .inl (E.2.1, 4, .inl o_trays_sizes))]
set_option maxHeartbeats 4000000 in
set_option maxRecDepth 100000 in
theorem ct_X11_fits (l : Launch) (E : vE) (F : Nat) (a_o a_o_city a_o_ahead a_o_marks a_o_tape a_o_cityReader a_o_weeksReader a_o_trays a_o_planner a_o_ruler a_o_life a_o_latestLife a_o_trays_numbers a_o_trays_sorts a_o_trays_sizes : Nat) (o_marked : Int32) (o_wasLived : Int32) (o_wasParsed : Int32) (o_faultKind : Int32) (o_faultPlace : Int32) (o_latestStatus : Int32) (o_fractionTop : Int64) (o_fractionBottom : Int64) (o_trays_numbers : Nat → Int64) (o_trays_sizes : Nat → Int32) (v1 : Int32) (v2 : Int32) (v3 : Int32) (v4 : Int32) (u : Int32) (hf : X11_fits F o_trays_numbers o_trays_sizes v1 v2 v3 v4 = some u) :
    CtI l yX11_fits cX11_fits 9 (some .boolean) 3 E [.ref a_o, .int v1, .int v2, .int v3, .int v4] (wd_X11_fits E a_o a_o_city a_o_ahead a_o_marks a_o_tape a_o_cityReader a_o_weeksReader a_o_trays a_o_planner a_o_ruler a_o_life a_o_latestLife a_o_trays_numbers a_o_trays_sorts a_o_trays_sizes o_marked o_wasLived o_wasParsed o_faultKind o_faultPlace o_latestStatus o_fractionTop o_fractionBottom o_trays_numbers o_trays_sizes) (wd_X11_fits E a_o a_o_city a_o_ahead a_o_marks a_o_tape a_o_cityReader a_o_weeksReader a_o_trays a_o_planner a_o_ruler a_o_life a_o_latestLife a_o_trays_numbers a_o_trays_sorts a_o_trays_sizes o_marked o_wasLived o_wasParsed o_faultKind o_faultPlace o_latestStatus o_fractionTop o_fractionBottom o_trays_numbers o_trays_sizes) u := by
  refine ctI (by decide) (Nat.le_of_ble_eq_true rfl) ?_
  intro p e s m below meth cd A ls aa QQ hq cx hP hD hS hl
  obtain ⟨⟨hx, hb, hml, hown, hts⟩, hr, hlocks, hK, hA, hX⟩ := id cx
  have hl : lv_has ls 9 [(0, .ref a_o), (1, .int v1), (2, .int v2), (3, .int v3), (4, .int v4)] := hl
  unfold X11_fits at hf
  refine lv_iconst (v := 0) hx hb dX11_fits_0 (by decide) ?_
  refine lv_istore (lv' := [(5, .int 0), (0, .ref a_o), (1, .int v1), (2, .int v2), (3, .int v3), (4, .int v4)]) hx hb dX11_fits_1 hl (by decide) rfl (fun ls hl => ?_)
  obtain ⟨e3, hit3, hf⟩ := bd hf
  refine iter_W (b := X11_fits_b3 F o_trays_numbers o_trays_sizes v1 v2 v3 v4) (P := fun st3 => ∀ (H : Heap) (locs : List Loc) (ls : Array Slot), va_P E.1 vwCl (wd_X11_fits E a_o a_o_city a_o_ahead a_o_marks a_o_tape a_o_cityReader a_o_weeksReader a_o_trays a_o_planner a_o_ruler a_o_life a_o_latestLife a_o_trays_numbers a_o_trays_sorts a_o_trays_sizes o_marked o_wasLived o_wasParsed o_faultKind o_faultPlace o_latestStatus o_fractionTop o_fractionBottom o_trays_numbers o_trays_sizes) H → va_D A (wd_X11_fits E a_o a_o_city a_o_ahead a_o_marks a_o_tape a_o_cityReader a_o_weeksReader a_o_trays a_o_planner a_o_ruler a_o_life a_o_latestLife a_o_trays_numbers a_o_trays_sorts a_o_trays_sizes o_marked o_wasLived o_wasParsed o_faultKind o_faultPlace o_latestStatus o_fractionTop o_fractionBottom o_trays_numbers o_trays_sizes) → va_S A s.heap H locs → lv_has ls 9 [(0, .ref a_o), (1, .int v1), (2, .int v2), (3, .int v3), (4, .int v4), (5, .int st3)] → W p l e (rmd 3) s m aa below meth cd H locs 0 0 QQ (F0 m 3 ls [])) (G := (Sum.elim (fun (e3 : Unit) => ∀ (H : Heap) (locs : List Loc) (ls : Array Slot), va_P E.1 vwCl (wd_X11_fits E a_o a_o_city a_o_ahead a_o_marks a_o_tape a_o_cityReader a_o_weeksReader a_o_trays a_o_planner a_o_ruler a_o_life a_o_latestLife a_o_trays_numbers a_o_trays_sorts a_o_trays_sizes o_marked o_wasLived o_wasParsed o_faultKind o_faultPlace o_latestStatus o_fractionTop o_fractionBottom o_trays_numbers o_trays_sizes) H → va_D A (wd_X11_fits E a_o a_o_city a_o_ahead a_o_marks a_o_tape a_o_cityReader a_o_weeksReader a_o_trays a_o_planner a_o_ruler a_o_life a_o_latestLife a_o_trays_numbers a_o_trays_sorts a_o_trays_sizes o_marked o_wasLived o_wasParsed o_faultKind o_faultPlace o_latestStatus o_fractionTop o_fractionBottom o_trays_numbers o_trays_sizes) → va_S A s.heap H locs → lv_has ls 9 [] → W p l e (rmd 3) s m aa below meth cd H locs 0 0 QQ (F0 m 86 ls [])) (fun (e3 : Unit) => ∀ (H : Heap) (locs : List Loc) (ls : Array Slot), va_P E.1 vwCl (wd_X11_fits E a_o a_o_city a_o_ahead a_o_marks a_o_tape a_o_cityReader a_o_weeksReader a_o_trays a_o_planner a_o_ruler a_o_life a_o_latestLife a_o_trays_numbers a_o_trays_sorts a_o_trays_sizes o_marked o_wasLived o_wasParsed o_faultKind o_faultPlace o_latestStatus o_fractionTop o_fractionBottom o_trays_numbers o_trays_sizes) H → va_D A (wd_X11_fits E a_o a_o_city a_o_ahead a_o_marks a_o_tape a_o_cityReader a_o_weeksReader a_o_trays a_o_planner a_o_ruler a_o_life a_o_latestLife a_o_trays_numbers a_o_trays_sorts a_o_trays_sizes o_marked o_wasLived o_wasParsed o_faultKind o_faultPlace o_latestStatus o_fractionTop o_fractionBottom o_trays_numbers o_trays_sizes) → va_S A s.heap H locs → lv_has ls 9 [] → W p l e (rmd 3) s m aa below meth cd H locs 0 0 QQ (F0 m 94 ls [])))) ?_ F 0 e3 hit3 ?_ _ _ _ hP hD hS (lv_sub hl [1, 2, 3, 4, 5, 0] rfl)
  · intro st3 r3 hf hk3 he3 H locs ls hP hD hS hl
    have hj83 : ∀ (v5_j83 : Int32) (k0_j83 : Int32) (k1_j83 : Int32) (H : Heap) (locs : List Loc) (ls : Array Slot), X11_fits_j83 F o_trays_numbers o_trays_sizes v1 v2 v3 v4 v5_j83 k0_j83 k1_j83 = some r3 → va_P E.1 vwCl (wd_X11_fits E a_o a_o_city a_o_ahead a_o_marks a_o_tape a_o_cityReader a_o_weeksReader a_o_trays a_o_planner a_o_ruler a_o_life a_o_latestLife a_o_trays_numbers a_o_trays_sorts a_o_trays_sizes o_marked o_wasLived o_wasParsed o_faultKind o_faultPlace o_latestStatus o_fractionTop o_fractionBottom o_trays_numbers o_trays_sizes) H → va_D A (wd_X11_fits E a_o a_o_city a_o_ahead a_o_marks a_o_tape a_o_cityReader a_o_weeksReader a_o_trays a_o_planner a_o_ruler a_o_life a_o_latestLife a_o_trays_numbers a_o_trays_sorts a_o_trays_sizes o_marked o_wasLived o_wasParsed o_faultKind o_faultPlace o_latestStatus o_fractionTop o_fractionBottom o_trays_numbers o_trays_sizes) → va_S A s.heap H locs → lv_has ls 9 [(0, .ref a_o), (1, .int v1), (2, .int v2), (3, .int v3), (4, .int v4), (5, .int v5_j83)] → W p l e (rmd 3) s m aa below meth cd H locs 0 0 QQ (F0 m 83 ls [.int k0_j83, .int k1_j83]) := by
      intro v5_j83 k0_j83 k1_j83 H locs ls hf hP hD hS hl
      unfold X11_fits_j83 at hf
      refine lv_icmp_eq (tgt := 88) hx hb dX11_fits_83 (by decide) (fun hc => ?_) (fun hc => ?_)
      · have hf := it_t hc hf
        refine lv_iinc (v := (v5_j83 + 1)) (lv' := [(5, .int (v5_j83 + 1)), (0, .ref a_o), (1, .int v1), (2, .int v2), (3, .int v3), (4, .int v4)]) hx hb dX11_fits_88 hl (k := 5) rfl rfl (by decide) rfl (fun ls hl => ?_)
        refine lv_goto (tgt := 3) hx hb dX11_fits_91 (by decide) ?_
        exact hk3 _ (Option.some.inj hf).symm _ _ _ hP hD hS (lv_sub hl [1, 2, 3, 4, 5, 0] rfl)
      · have hf := it_f hc hf
        exact he3 _ (Option.some.inj hf).symm _ _ _ hP hD hS (lv_sub hl [] rfl)
    have hj55 : ∀ (v5_j55 : Int32) (k0_j55 : Int32) (H : Heap) (locs : List Loc) (ls : Array Slot), X11_fits_j55 F o_trays_numbers o_trays_sizes v1 v2 v3 v4 v5_j55 k0_j55 = some r3 → va_P E.1 vwCl (wd_X11_fits E a_o a_o_city a_o_ahead a_o_marks a_o_tape a_o_cityReader a_o_weeksReader a_o_trays a_o_planner a_o_ruler a_o_life a_o_latestLife a_o_trays_numbers a_o_trays_sorts a_o_trays_sizes o_marked o_wasLived o_wasParsed o_faultKind o_faultPlace o_latestStatus o_fractionTop o_fractionBottom o_trays_numbers o_trays_sizes) H → va_D A (wd_X11_fits E a_o a_o_city a_o_ahead a_o_marks a_o_tape a_o_cityReader a_o_weeksReader a_o_trays a_o_planner a_o_ruler a_o_life a_o_latestLife a_o_trays_numbers a_o_trays_sorts a_o_trays_sizes o_marked o_wasLived o_wasParsed o_faultKind o_faultPlace o_latestStatus o_fractionTop o_fractionBottom o_trays_numbers o_trays_sizes) → va_S A s.heap H locs → lv_has ls 9 [(0, .ref a_o), (1, .int v1), (2, .int v2), (3, .int v3), (4, .int v4), (5, .int v5_j55)] → W p l e (rmd 3) s m aa below meth cd H locs 0 0 QQ (F0 m 55 ls [.int k0_j55]) := by
      intro v5_j55 k0_j55 H locs ls hf hP hD hS hl
      unfold X11_fits_j55 at hf
      refine lv_istore (lv' := [(8, .int k0_j55), (0, .ref a_o), (1, .int v1), (2, .int v2), (3, .int v3), (4, .int v4), (5, .int v5_j55)]) hx hb dX11_fits_55 hl (by decide) rfl (fun ls hl => ?_)
      refine lv_iload hx hb dX11_fits_57 (lv_at hl 0 rfl) ?_
      refine lv_aload_n hx hb dX11_fits_59 rfl (lv_at hl 1 rfl) ?_
      refine va_get (D := E.1) (ci := 11) (v := .ref a_o_trays) (C := RX11) (T := TX11) (N := 19) hx hb hts inX11 hown hK hP 0 rfl rfl 7 (by decide) (hts _ fl_X11_49) (fun _ h9 => h9) rfl dX11_fits_60 ?_
      refine lv_iload_n hx hb dX11_fits_63 rfl (lv_at hl 4 rfl) ?_
      refine lv_iconst (v := 3) hx hb dX11_fits_64 (by decide) ?_
      refine lv_iload hx hb dX11_fits_65 (lv_at hl 6 rfl) ?_
      refine lv_imul hx hb dX11_fits_67 ?_
      refine lv_iconst (v := 2) hx hb dX11_fits_68 (by decide) ?_
      refine lv_iadd hx hb dX11_fits_69 ?_
      obtain ⟨u70, hu70, hf⟩ := bd hf
      refine keepVL (ct_X9_get l E a_o_trays a_o_trays_numbers a_o_trays_sorts a_o_trays_sizes o_trays_numbers o_trays_sizes v3 ((3 * v5_j55) + 2) u70 hu70) [1, 2, 3] cal_X9_get cav_X9_get lk_X11_123 cx hP hD hS hl dX11_fits_70 rfl rfl rfl rfl (Nat.le_of_ble_eq_true rfl) ⟨Nat.le_of_ble_eq_true rfl, Nat.le_of_ble_eq_true rfl⟩ rfl (by decide) (fun H locs hP hS => ?_)
      refine lv_lconst (v := 1) hx hb dX11_fits_73 (by decide) ?_
      refine W.lcmp hx hb dX11_fits_74 ?_
      refine lv_if_ne (tgt := 82) hx hb dX11_fits_75 (by decide) (fun hc => ?_) (fun hc => ?_)
      · have hf := it_f hc hf
        refine lv_iconst (v := 0) hx hb dX11_fits_82 (by decide) ?_
        exact hj83 _ _ _ _ _ _ hf hP hD hS (lv_sub hl [1, 2, 3, 4, 5, 6] rfl)
      · have hf := it_t hc hf
        refine lv_iconst (v := 1) hx hb dX11_fits_78 (by decide) ?_
        refine lv_goto (tgt := 83) hx hb dX11_fits_79 (by decide) ?_
        exact hj83 _ _ _ _ _ _ hf hP hD hS (lv_sub hl [1, 2, 3, 4, 5, 6] rfl)
    unfold X11_fits_b3 at hf
    refine lv_iload hx hb dX11_fits_3 (lv_at hl 5 rfl) ?_
    refine lv_iload hx hb dX11_fits_5 (lv_at hl 4 rfl) ?_
    refine lv_icmp_ge (tgt := 94) hx hb dX11_fits_7 (by decide) (fun hc => ?_) (fun hc => ?_)
    · have hf := it_t hc hf
      exact he3 _ (Option.some.inj hf).symm _ _ _ hP hD hS (lv_sub hl [] rfl)
    · have hf := it_f hc hf
      refine lv_aload_n hx hb dX11_fits_10 rfl (lv_at hl 0 rfl) ?_
      refine va_get (D := E.1) (ci := 11) (v := .ref a_o_trays) (C := RX11) (T := TX11) (N := 19) hx hb hts inX11 hown hK hP 0 rfl rfl 7 (by decide) (hts _ fl_X11_49) (fun _ h9 => h9) rfl dX11_fits_11 ?_
      refine lv_iload_n hx hb dX11_fits_14 rfl (lv_at hl 3 rfl) ?_
      refine lv_iconst (v := 3) hx hb dX11_fits_15 (by decide) ?_
      refine lv_iload hx hb dX11_fits_16 (lv_at hl 5 rfl) ?_
      refine lv_imul hx hb dX11_fits_18 ?_
      obtain ⟨u19, hu19, hf⟩ := bd hf
      refine keepVL (ct_X9_get l E a_o_trays a_o_trays_numbers a_o_trays_sorts a_o_trays_sizes o_trays_numbers o_trays_sizes v3 (3 * st3) u19 hu19) [1, 2, 3] cal_X9_get cav_X9_get lk_X11_123 cx hP hD hS hl dX11_fits_19 rfl rfl rfl rfl (Nat.le_of_ble_eq_true rfl) ⟨Nat.le_of_ble_eq_true rfl, Nat.le_of_ble_eq_true rfl⟩ rfl (by decide) (fun H locs hP hS => ?_)
      refine lv_iload_n hx hb dX11_fits_22 rfl (lv_at hl 1 rfl) ?_
      refine lv_i2l (v := (v1.toInt64)) hx hb dX11_fits_23 rfl ?_
      refine lv_lmul hx hb dX11_fits_24 ?_
      refine lv_lstore (lv' := [(6, .long (u19 * (v1.toInt64))), (0, .ref a_o), (1, .int v1), (2, .int v2), (3, .int v3), (4, .int v4), (5, .int st3)]) hx hb dX11_fits_25 hl (by decide) rfl (fun ls hl => ?_)
      refine lv_aload_n hx hb dX11_fits_27 rfl (lv_at hl 1 rfl) ?_
      refine va_get (D := E.1) (ci := 11) (v := .ref a_o_trays) (C := RX11) (T := TX11) (N := 19) hx hb hts inX11 hown hK hP 0 rfl rfl 7 (by decide) (hts _ fl_X11_49) (fun _ h9 => h9) rfl dX11_fits_28 ?_
      refine lv_iload_n hx hb dX11_fits_31 rfl (lv_at hl 4 rfl) ?_
      refine lv_iconst (v := 3) hx hb dX11_fits_32 (by decide) ?_
      refine lv_iload hx hb dX11_fits_33 (lv_at hl 6 rfl) ?_
      refine lv_imul hx hb dX11_fits_35 ?_
      refine lv_iconst (v := 1) hx hb dX11_fits_36 (by decide) ?_
      refine lv_iadd hx hb dX11_fits_37 ?_
      obtain ⟨u38, hu38, hf⟩ := bd hf
      refine keepVL (ct_X9_get l E a_o_trays a_o_trays_numbers a_o_trays_sorts a_o_trays_sizes o_trays_numbers o_trays_sizes v3 ((3 * st3) + 1) u38 hu38) [1, 2, 3] cal_X9_get cav_X9_get lk_X11_123 cx hP hD hS hl dX11_fits_38 rfl rfl rfl rfl (Nat.le_of_ble_eq_true rfl) ⟨Nat.le_of_ble_eq_true rfl, Nat.le_of_ble_eq_true rfl⟩ rfl (by decide) (fun H locs hP hS => ?_)
      refine lv_iload_n hx hb dX11_fits_41 rfl (lv_at hl 3 rfl) ?_
      refine lv_i2l (v := (v2.toInt64)) hx hb dX11_fits_42 rfl ?_
      refine lv_lmul hx hb dX11_fits_43 ?_
      refine lv_lload hx hb dX11_fits_44 (lv_at hl 0 rfl) ?_
      refine W.lcmp hx hb dX11_fits_46 ?_
      refine lv_if_lt (tgt := 54) hx hb dX11_fits_47 (by decide) (fun hc => ?_) (fun hc => ?_)
      · have hf := it_t hc hf
        refine lv_iconst (v := 0) hx hb dX11_fits_54 (by decide) ?_
        exact hj55 _ _ _ _ _ hf hP hD hS (lv_sub hl [1, 2, 3, 4, 5, 6] rfl)
      · have hf := it_f hc hf
        refine lv_iconst (v := 1) hx hb dX11_fits_50 (by decide) ?_
        refine lv_goto (tgt := 55) hx hb dX11_fits_51 (by decide) ?_
        exact hj55 _ _ _ _ _ hf hP hD hS (lv_sub hl [1, 2, 3, 4, 5, 6] rfl)
  · rcases e3 with e3 | e3
    · have hf := se_l hf
      refine fun H locs ls hP hD hS hl => ?_
      refine lv_iconst (v := 0) hx hb dX11_fits_86 (by decide) ?_
      obtain rfl := Option.some.inj hf
      subst hq
      exact retZ cx rfl hP hD hS dX11_fits_87
    · have hf := se_r hf
      refine fun H locs ls hP hD hS hl => ?_
      refine lv_iconst (v := 1) hx hb dX11_fits_94 (by decide) ?_
      obtain rfl := Option.some.inj hf
      subst hq
      exact retZ cx rfl hP hD hS dX11_fits_95
def X11_laws_j56 (F : Nat) (o_latestStatus : Int32) (o_trays_numbers : Nat → Int64) (o_trays_sizes : Nat → Int32) (v1 : Int32) (v2 : Int32) (v4 : Int32) (v5 : Int32) (v6 : Int32) : Option ((Int32 × Int32) ⊕ ((Int32))) :=
  some (.inl (v4, (v6 + 1)))
def X11_laws_b33 (F : Nat) (o_latestStatus : Int32) (o_trays_numbers : Nat → Int64) (o_trays_sizes : Nat → Int32) (v1 : Int32) (v2 : Int32) (v5 : Int32) (st33 : Int32 × Int32) : Option ((Int32 × Int32) ⊕ ((Int32))) :=
  if (9 : Int32) < st33.2 then
  some (.inr st33.1)
  else
  (X11_fits F o_trays_numbers o_trays_sizes v5 st33.2 v1 v2).bind fun u47 =>
  if u47 = 0 then
  X11_laws_j56 F o_latestStatus o_trays_numbers o_trays_sizes v1 v2 st33.1 v5 st33.2
  else
  X11_laws_j56 F o_latestStatus o_trays_numbers o_trays_sizes v1 v2 (st33.1 + 1) v5 st33.2
def X11_laws_b23 (F : Nat) (o_latestStatus : Int32) (o_trays_numbers : Nat → Int64) (o_trays_sizes : Nat → Int32) (v1 : Int32) (v2 : Int32) (st23 : Int32 × Int32) : Option ((Int32 × Int32) ⊕ ((Int32))) :=
  if (9 : Int32) < st23.2 then
  some (.inr st23.1)
  else
  (iter (X11_laws_b33 F o_latestStatus o_trays_numbers o_trays_sizes v1 v2 st23.2) F (st23.1, 1)).bind (fun (e33 : Int32) =>
    some (.inl (e33, (st23.2 + 1))))
def X11_laws (F : Nat) (o_latestStatus : Int32) (o_trays_numbers : Nat → Int64) (o_trays_sizes : Nat → Int32) (v1 : Int32) (v2 : Int32) : Option (Int32 × Int32) :=
  (X11_lawStatus F o_trays_numbers o_trays_sizes v1 v2).bind fun u3 =>
  if u3 = 0 then
  (iter (X11_laws_b23 F o_latestStatus o_trays_numbers o_trays_sizes v1 v2) F (0, 1)).bind (fun (e23 : Int32) =>
    (X11_answer o_latestStatus e23).bind fun u71 =>
  some (u71.1, u71.2))
  else
  (X11_none o_latestStatus u3).bind fun u13 =>
  some (u13.1, u13.2)
abbrev wd_X11_laws (E : vE) (a_o a_o_city a_o_ahead a_o_marks a_o_tape a_o_cityReader a_o_weeksReader a_o_trays a_o_planner a_o_ruler a_o_life a_o_latestLife a_o_trays_numbers a_o_trays_sorts a_o_trays_sizes : Nat) (o_marked : Int32) (o_wasLived : Int32) (o_wasParsed : Int32) (o_faultKind : Int32) (o_faultPlace : Int32) (o_latestStatus : Int32) (o_fractionTop : Int64) (o_fractionBottom : Int64) (o_trays_numbers : Nat → Int64) (o_trays_sizes : Nat → Int32) : va_W := [(a_o, .inr (11, [.ref a_o_city, .ref a_o_ahead, .ref a_o_marks, .int o_marked, .ref a_o_tape, .ref a_o_cityReader, .ref a_o_weeksReader, .ref a_o_trays, .ref a_o_planner, .ref a_o_ruler, .ref a_o_life, .ref a_o_latestLife, .int o_wasLived, .int o_wasParsed, .int o_faultKind, .int o_faultPlace, .int o_latestStatus, .long o_fractionTop, .long o_fractionBottom])), (a_o_trays, .inr (9, [.ref a_o_trays_numbers, .ref a_o_trays_sorts, .ref a_o_trays_sizes])), (a_o_trays_numbers, .inl (E.2.2.1, 240, .inr (.inl o_trays_numbers))), (a_o_trays_sizes, .inl (E.2.1, 4, .inl o_trays_sizes))]
set_option maxHeartbeats 4000000 in
set_option maxRecDepth 100000 in
theorem ct_X11_laws (l : Launch) (E : vE) (F : Nat) (a_o a_o_city a_o_ahead a_o_marks a_o_tape a_o_cityReader a_o_weeksReader a_o_trays a_o_planner a_o_ruler a_o_life a_o_latestLife a_o_trays_numbers a_o_trays_sorts a_o_trays_sizes : Nat) (o_marked : Int32) (o_wasLived : Int32) (o_wasParsed : Int32) (o_faultKind : Int32) (o_faultPlace : Int32) (o_latestStatus : Int32) (o_fractionTop : Int64) (o_fractionBottom : Int64) (o_trays_numbers : Nat → Int64) (o_trays_sizes : Nat → Int32) (v1 : Int32) (v2 : Int32) (u : Int32 × Int32) (hf : X11_laws F o_latestStatus o_trays_numbers o_trays_sizes v1 v2 = some u) :
    CtI l yX11_laws cX11_laws 7 (some .int) 5 E [.ref a_o, .int v1, .int v2] (wd_X11_laws E a_o a_o_city a_o_ahead a_o_marks a_o_tape a_o_cityReader a_o_weeksReader a_o_trays a_o_planner a_o_ruler a_o_life a_o_latestLife a_o_trays_numbers a_o_trays_sorts a_o_trays_sizes o_marked o_wasLived o_wasParsed o_faultKind o_faultPlace o_latestStatus o_fractionTop o_fractionBottom o_trays_numbers o_trays_sizes) (wd_X11_laws E a_o a_o_city a_o_ahead a_o_marks a_o_tape a_o_cityReader a_o_weeksReader a_o_trays a_o_planner a_o_ruler a_o_life a_o_latestLife a_o_trays_numbers a_o_trays_sorts a_o_trays_sizes o_marked o_wasLived o_wasParsed o_faultKind o_faultPlace u.2 o_fractionTop o_fractionBottom o_trays_numbers o_trays_sizes) u.1 := by
  refine ctI (by decide) (Nat.le_of_ble_eq_true rfl) ?_
  intro p e s m below meth cd A ls aa QQ hq cx hP hD hS hl
  obtain ⟨⟨hx, hb, hml, hown, hts⟩, hr, hlocks, hK, hA, hX⟩ := id cx
  have hl : lv_has ls 7 [(0, .ref a_o), (1, .int v1), (2, .int v2)] := hl
  unfold X11_laws at hf
  refine lv_aload_n hx hb dX11_laws_0 rfl (lv_at hl 0 rfl) ?_
  refine lv_iload_n hx hb dX11_laws_1 rfl (lv_at hl 1 rfl) ?_
  refine lv_iload_n hx hb dX11_laws_2 rfl (lv_at hl 2 rfl) ?_
  obtain ⟨u3, hu3, hf⟩ := bd hf
  refine keepVI (ct_X11_lawStatus l E F a_o a_o_city a_o_ahead a_o_marks a_o_tape a_o_cityReader a_o_weeksReader a_o_trays a_o_planner a_o_ruler a_o_life a_o_latestLife a_o_trays_numbers a_o_trays_sorts a_o_trays_sizes o_marked o_wasLived o_wasParsed o_faultKind o_faultPlace o_latestStatus o_fractionTop o_fractionBottom o_trays_numbers o_trays_sizes v1 v2 u3 hu3) [0, 1, 2, 3] cal_X11_lawStatus cav_X11_lawStatus lk_X11_349 cx hP hD hS hl dX11_laws_3 rfl rfl rfl rfl (Nat.le_of_ble_eq_true rfl) ⟨Nat.le_of_ble_eq_true rfl, Nat.le_of_ble_eq_true rfl⟩ rfl (by decide) (fun H locs hP hS => ?_)
  refine lv_istore_n (lv' := [(3, .int u3), (0, .ref a_o), (1, .int v1), (2, .int v2)]) hx hb dX11_laws_6 rfl hl (by decide) rfl (fun ls hl => ?_)
  refine lv_iload_n hx hb dX11_laws_7 rfl (lv_at hl 0 rfl) ?_
  refine lv_if_eq (tgt := 17) hx hb dX11_laws_8 (by decide) (fun hc => ?_) (fun hc => ?_)
  · have hf := it_t hc hf
    refine lv_iconst (v := 0) hx hb dX11_laws_17 (by decide) ?_
    refine lv_istore (lv' := [(4, .int 0), (3, .int u3), (0, .ref a_o), (1, .int v1), (2, .int v2)]) hx hb dX11_laws_18 hl (by decide) rfl (fun ls hl => ?_)
    refine lv_iconst (v := 1) hx hb dX11_laws_20 (by decide) ?_
    refine lv_istore (lv' := [(5, .int 1), (4, .int 0), (3, .int u3), (0, .ref a_o), (1, .int v1), (2, .int v2)]) hx hb dX11_laws_21 hl (by decide) rfl (fun ls hl => ?_)
    obtain ⟨e23, hit23, hf⟩ := bd hf
    refine iter_W (b := X11_laws_b23 F o_latestStatus o_trays_numbers o_trays_sizes v1 v2) (P := fun st23 => ∀ (H : Heap) (locs : List Loc) (ls : Array Slot), va_P E.1 vwCl (wd_X11_laws E a_o a_o_city a_o_ahead a_o_marks a_o_tape a_o_cityReader a_o_weeksReader a_o_trays a_o_planner a_o_ruler a_o_life a_o_latestLife a_o_trays_numbers a_o_trays_sorts a_o_trays_sizes o_marked o_wasLived o_wasParsed o_faultKind o_faultPlace o_latestStatus o_fractionTop o_fractionBottom o_trays_numbers o_trays_sizes) H → va_D A (wd_X11_laws E a_o a_o_city a_o_ahead a_o_marks a_o_tape a_o_cityReader a_o_weeksReader a_o_trays a_o_planner a_o_ruler a_o_life a_o_latestLife a_o_trays_numbers a_o_trays_sorts a_o_trays_sizes o_marked o_wasLived o_wasParsed o_faultKind o_faultPlace o_latestStatus o_fractionTop o_fractionBottom o_trays_numbers o_trays_sizes) → va_S A s.heap H locs → lv_has ls 7 [(0, .ref a_o), (1, .int v1), (2, .int v2), (4, .int st23.1), (5, .int st23.2)] → W p l e (rmd 5) s m aa below meth cd H locs 0 0 QQ (F0 m 23 ls [])) (G := (fun (e23 : Int32) => ∀ (H : Heap) (locs : List Loc) (ls : Array Slot), va_P E.1 vwCl (wd_X11_laws E a_o a_o_city a_o_ahead a_o_marks a_o_tape a_o_cityReader a_o_weeksReader a_o_trays a_o_planner a_o_ruler a_o_life a_o_latestLife a_o_trays_numbers a_o_trays_sorts a_o_trays_sizes o_marked o_wasLived o_wasParsed o_faultKind o_faultPlace o_latestStatus o_fractionTop o_fractionBottom o_trays_numbers o_trays_sizes) H → va_D A (wd_X11_laws E a_o a_o_city a_o_ahead a_o_marks a_o_tape a_o_cityReader a_o_weeksReader a_o_trays a_o_planner a_o_ruler a_o_life a_o_latestLife a_o_trays_numbers a_o_trays_sorts a_o_trays_sizes o_marked o_wasLived o_wasParsed o_faultKind o_faultPlace o_latestStatus o_fractionTop o_fractionBottom o_trays_numbers o_trays_sizes) → va_S A s.heap H locs → lv_has ls 7 [(0, .ref a_o), (4, .int e23)] → W p l e (rmd 5) s m aa below meth cd H locs 0 0 QQ (F0 m 68 ls []))) ?_ F (0, 1) e23 hit23 ?_ _ _ _ hP hD hS (lv_sub hl [3, 4, 5, 1, 0] rfl)
    · intro st23 r23 hf hk23 he23 H locs ls hP hD hS hl
      unfold X11_laws_b23 at hf
      refine lv_iload hx hb dX11_laws_23 (lv_at hl 4 rfl) ?_
      refine lv_bipush (v := 9) hx hb dX11_laws_25 (by decide) ?_
      refine lv_icmp_gt (tgt := 68) hx hb dX11_laws_27 (by decide) (fun hc => ?_) (fun hc => ?_)
      · have hf := it_t hc hf
        exact he23 _ (Option.some.inj hf).symm _ _ _ hP hD hS (lv_sub hl [0, 3] rfl)
      · have hf := it_f hc hf
        refine lv_iconst (v := 1) hx hb dX11_laws_30 (by decide) ?_
        refine lv_istore (lv' := [(6, .int 1), (0, .ref a_o), (1, .int v1), (2, .int v2), (4, .int st23.1), (5, .int st23.2)]) hx hb dX11_laws_31 hl (by decide) rfl (fun ls hl => ?_)
        obtain ⟨e33, hit33, hf⟩ := bd hf
        refine iter_W (b := X11_laws_b33 F o_latestStatus o_trays_numbers o_trays_sizes v1 v2 st23.2) (P := fun st33 => ∀ (H : Heap) (locs : List Loc) (ls : Array Slot), va_P E.1 vwCl (wd_X11_laws E a_o a_o_city a_o_ahead a_o_marks a_o_tape a_o_cityReader a_o_weeksReader a_o_trays a_o_planner a_o_ruler a_o_life a_o_latestLife a_o_trays_numbers a_o_trays_sorts a_o_trays_sizes o_marked o_wasLived o_wasParsed o_faultKind o_faultPlace o_latestStatus o_fractionTop o_fractionBottom o_trays_numbers o_trays_sizes) H → va_D A (wd_X11_laws E a_o a_o_city a_o_ahead a_o_marks a_o_tape a_o_cityReader a_o_weeksReader a_o_trays a_o_planner a_o_ruler a_o_life a_o_latestLife a_o_trays_numbers a_o_trays_sorts a_o_trays_sizes o_marked o_wasLived o_wasParsed o_faultKind o_faultPlace o_latestStatus o_fractionTop o_fractionBottom o_trays_numbers o_trays_sizes) → va_S A s.heap H locs → lv_has ls 7 [(0, .ref a_o), (1, .int v1), (2, .int v2), (4, .int st33.1), (5, .int st23.2), (6, .int st33.2)] → W p l e (rmd 5) s m aa below meth cd H locs 0 0 QQ (F0 m 33 ls [])) (G := (fun (e33 : Int32) => ∀ (H : Heap) (locs : List Loc) (ls : Array Slot), va_P E.1 vwCl (wd_X11_laws E a_o a_o_city a_o_ahead a_o_marks a_o_tape a_o_cityReader a_o_weeksReader a_o_trays a_o_planner a_o_ruler a_o_life a_o_latestLife a_o_trays_numbers a_o_trays_sorts a_o_trays_sizes o_marked o_wasLived o_wasParsed o_faultKind o_faultPlace o_latestStatus o_fractionTop o_fractionBottom o_trays_numbers o_trays_sizes) H → va_D A (wd_X11_laws E a_o a_o_city a_o_ahead a_o_marks a_o_tape a_o_cityReader a_o_weeksReader a_o_trays a_o_planner a_o_ruler a_o_life a_o_latestLife a_o_trays_numbers a_o_trays_sorts a_o_trays_sizes o_marked o_wasLived o_wasParsed o_faultKind o_faultPlace o_latestStatus o_fractionTop o_fractionBottom o_trays_numbers o_trays_sizes) → va_S A s.heap H locs → lv_has ls 7 [(0, .ref a_o), (1, .int v1), (2, .int v2), (4, .int e33), (5, .int st23.2)] → W p l e (rmd 5) s m aa below meth cd H locs 0 0 QQ (F0 m 62 ls []))) ?_ F (st23.1, 1) e33 hit33 ?_ _ _ _ hP hD hS (lv_sub hl [1, 2, 3, 4, 5, 0] rfl)
        · intro st33 r33 hf hk33 he33 H locs ls hP hD hS hl
          have hj56 : ∀ (v4_j56 : Int32) (v6_j56 : Int32) (H : Heap) (locs : List Loc) (ls : Array Slot), X11_laws_j56 F o_latestStatus o_trays_numbers o_trays_sizes v1 v2 v4_j56 st23.2 v6_j56 = some r33 → va_P E.1 vwCl (wd_X11_laws E a_o a_o_city a_o_ahead a_o_marks a_o_tape a_o_cityReader a_o_weeksReader a_o_trays a_o_planner a_o_ruler a_o_life a_o_latestLife a_o_trays_numbers a_o_trays_sorts a_o_trays_sizes o_marked o_wasLived o_wasParsed o_faultKind o_faultPlace o_latestStatus o_fractionTop o_fractionBottom o_trays_numbers o_trays_sizes) H → va_D A (wd_X11_laws E a_o a_o_city a_o_ahead a_o_marks a_o_tape a_o_cityReader a_o_weeksReader a_o_trays a_o_planner a_o_ruler a_o_life a_o_latestLife a_o_trays_numbers a_o_trays_sorts a_o_trays_sizes o_marked o_wasLived o_wasParsed o_faultKind o_faultPlace o_latestStatus o_fractionTop o_fractionBottom o_trays_numbers o_trays_sizes) → va_S A s.heap H locs → lv_has ls 7 [(0, .ref a_o), (1, .int v1), (2, .int v2), (4, .int v4_j56), (5, .int st23.2), (6, .int v6_j56)] → W p l e (rmd 5) s m aa below meth cd H locs 0 0 QQ (F0 m 56 ls []) := by
            intro v4_j56 v6_j56 H locs ls hf hP hD hS hl
            unfold X11_laws_j56 at hf
            refine lv_iinc (v := (v6_j56 + 1)) (lv' := [(6, .int (v6_j56 + 1)), (0, .ref a_o), (1, .int v1), (2, .int v2), (4, .int v4_j56), (5, .int st23.2)]) hx hb dX11_laws_56 hl (k := 5) rfl rfl (by decide) rfl (fun ls hl => ?_)
            refine lv_goto (tgt := 33) hx hb dX11_laws_59 (by decide) ?_
            exact hk33 _ (Option.some.inj hf).symm _ _ _ hP hD hS (lv_sub hl [1, 2, 3, 4, 5, 0] rfl)
          unfold X11_laws_b33 at hf
          refine lv_iload hx hb dX11_laws_33 (lv_at hl 5 rfl) ?_
          refine lv_bipush (v := 9) hx hb dX11_laws_35 (by decide) ?_
          refine lv_icmp_gt (tgt := 62) hx hb dX11_laws_37 (by decide) (fun hc => ?_) (fun hc => ?_)
          · have hf := it_t hc hf
            exact he33 _ (Option.some.inj hf).symm _ _ _ hP hD hS (lv_sub hl [0, 1, 2, 3, 4] rfl)
          · have hf := it_f hc hf
            refine lv_aload_n hx hb dX11_laws_40 rfl (lv_at hl 0 rfl) ?_
            refine lv_iload hx hb dX11_laws_41 (lv_at hl 4 rfl) ?_
            refine lv_iload hx hb dX11_laws_43 (lv_at hl 5 rfl) ?_
            refine lv_iload_n hx hb dX11_laws_45 rfl (lv_at hl 1 rfl) ?_
            refine lv_iload_n hx hb dX11_laws_46 rfl (lv_at hl 2 rfl) ?_
            obtain ⟨u47, hu47, hf⟩ := bd hf
            refine keepVI (ct_X11_fits l E F a_o a_o_city a_o_ahead a_o_marks a_o_tape a_o_cityReader a_o_weeksReader a_o_trays a_o_planner a_o_ruler a_o_life a_o_latestLife a_o_trays_numbers a_o_trays_sorts a_o_trays_sizes o_marked o_wasLived o_wasParsed o_faultKind o_faultPlace o_latestStatus o_fractionTop o_fractionBottom o_trays_numbers o_trays_sizes st23.2 st33.2 v1 v2 u47 hu47) [0, 1, 2, 3] cal_X11_fits cav_X11_fits lk_X11_352 cx hP hD hS hl dX11_laws_47 rfl rfl rfl rfl (Nat.le_of_ble_eq_true rfl) ⟨Nat.le_of_ble_eq_true rfl, Nat.le_of_ble_eq_true rfl⟩ rfl (by decide) (fun H locs hP hS => ?_)
            refine lv_if_eq (tgt := 56) hx hb dX11_laws_50 (by decide) (fun hc => ?_) (fun hc => ?_)
            · have hf := it_t hc hf
              exact hj56 _ _ _ _ _ hf hP hD hS (lv_sub hl [0, 1, 2, 3, 4, 5] rfl)
            · have hf := it_f hc hf
              refine lv_iinc (v := (st33.1 + 1)) (lv' := [(4, .int (st33.1 + 1)), (0, .ref a_o), (1, .int v1), (2, .int v2), (5, .int st23.2), (6, .int st33.2)]) hx hb dX11_laws_53 hl (k := 3) rfl rfl (by decide) rfl (fun ls hl => ?_)
              exact hj56 _ _ _ _ _ hf hP hD hS (lv_sub hl [1, 2, 3, 0, 4, 5] rfl)
        · refine fun H locs ls hP hD hS hl => ?_
          refine lv_iinc (v := (st23.2 + 1)) (lv' := [(5, .int (st23.2 + 1)), (0, .ref a_o), (1, .int v1), (2, .int v2), (4, .int e33)]) hx hb dX11_laws_62 hl (k := 4) rfl rfl (by decide) rfl (fun ls hl => ?_)
          refine lv_goto (tgt := 23) hx hb dX11_laws_65 (by decide) ?_
          exact hk23 _ (Option.some.inj hf).symm _ _ _ hP hD hS (lv_sub hl [1, 2, 3, 4, 0] rfl)
    · refine fun H locs ls hP hD hS hl => ?_
      refine lv_aload_n hx hb dX11_laws_68 rfl (lv_at hl 0 rfl) ?_
      refine lv_iload hx hb dX11_laws_69 (lv_at hl 1 rfl) ?_
      obtain ⟨u71, hu71, hf⟩ := bd hf
      refine callVI (wn := (wd_X11_laws E a_o a_o_city a_o_ahead a_o_marks a_o_tape a_o_cityReader a_o_weeksReader a_o_trays a_o_planner a_o_ruler a_o_life a_o_latestLife a_o_trays_numbers a_o_trays_sorts a_o_trays_sizes o_marked o_wasLived o_wasParsed o_faultKind o_faultPlace u71.2 o_fractionTop o_fractionBottom o_trays_numbers o_trays_sizes)) (n1 := 4) (ct_X11_answer l E a_o a_o_city a_o_ahead a_o_marks a_o_tape a_o_cityReader a_o_weeksReader a_o_trays a_o_planner a_o_ruler a_o_life a_o_latestLife o_marked o_wasLived o_wasParsed o_faultKind o_faultPlace o_latestStatus o_fractionTop o_fractionBottom e23 u71 hu71) [0] cal_X11_answer cav_X11_answer lk_X11_172 cx hP hD hS hl dX11_laws_71 rfl rfl rfl rfl (Nat.le_of_ble_eq_true rfl) ⟨Nat.le_of_ble_eq_true rfl, Nat.le_of_ble_eq_true rfl⟩ rfl (by decide +kernel) rfl [some 0, none, none, none] rfl (by decide +kernel) rfl (fun H locs hP hD hS => ?_)
      obtain rfl := Option.some.inj hf
      subst hq
      exact retI cx hP hD hS dX11_laws_74
  · have hf := it_f hc hf
    refine lv_aload_n hx hb dX11_laws_11 rfl (lv_at hl 1 rfl) ?_
    refine lv_iload_n hx hb dX11_laws_12 rfl (lv_at hl 0 rfl) ?_
    obtain ⟨u13, hu13, hf⟩ := bd hf
    refine callVI (wn := (wd_X11_laws E a_o a_o_city a_o_ahead a_o_marks a_o_tape a_o_cityReader a_o_weeksReader a_o_trays a_o_planner a_o_ruler a_o_life a_o_latestLife a_o_trays_numbers a_o_trays_sorts a_o_trays_sizes o_marked o_wasLived o_wasParsed o_faultKind o_faultPlace u13.2 o_fractionTop o_fractionBottom o_trays_numbers o_trays_sizes)) (n1 := 4) (ct_X11_none l E a_o a_o_city a_o_ahead a_o_marks a_o_tape a_o_cityReader a_o_weeksReader a_o_trays a_o_planner a_o_ruler a_o_life a_o_latestLife o_marked o_wasLived o_wasParsed o_faultKind o_faultPlace o_latestStatus o_fractionTop o_fractionBottom u3 u13 hu13) [0] cal_X11_none cav_X11_none lk_X11_119 cx hP hD hS hl dX11_laws_13 rfl rfl rfl rfl (Nat.le_of_ble_eq_true rfl) ⟨Nat.le_of_ble_eq_true rfl, Nat.le_of_ble_eq_true rfl⟩ rfl (by decide +kernel) rfl [some 0, none, none, none] rfl (by decide +kernel) rfl (fun H locs hP hD hS => ?_)
    obtain rfl := Option.some.inj hf
    subst hq
    exact retI cx hP hD hS dX11_laws_16
def X11_lawFirst_b30 (F : Nat) (o_latestStatus : Int32) (o_trays_numbers : Nat → Int64) (o_trays_sizes : Nat → Int32) (v1 : Int32) (v2 : Int32) (v4 : Int32) (st30 : Int32) : Option ((Int32) ⊕ ((Int32) ⊕ (Unit))) :=
  if (9 : Int32) < st30 then
  some (.inr (.inr (())))
  else
  (X11_fits F o_trays_numbers o_trays_sizes v4 st30 v1 v2).bind fun u44 =>
  if u44 = 0 then
  some (.inl (st30 + 1))
  else
  some (.inr (.inl (st30)))
def X11_lawFirst_b20 (F : Nat) (o_latestStatus : Int32) (o_trays_numbers : Nat → Int64) (o_trays_sizes : Nat → Int32) (v1 : Int32) (v2 : Int32) (st20 : Int32) : Option ((Int32) ⊕ ((Int32 × Int32) ⊕ (Unit))) :=
  if (9 : Int32) < st20 then
  some (.inr (.inr (())))
  else
  (iter (X11_lawFirst_b30 F o_latestStatus o_trays_numbers o_trays_sizes v1 v2 st20) F 1).bind (Sum.elim (fun (e30 : Int32) =>
    some (.inr (.inl ((st20, e30))))) (fun (e30 : Unit) =>
    some (.inl (st20 + 1))))
def X11_lawFirst (F : Nat) (o_latestStatus : Int32) (o_trays_numbers : Nat → Int64) (o_trays_sizes : Nat → Int32) (v1 : Int32) (v2 : Int32) : Option (Int32 × Int32) :=
  (X11_lawStatus F o_trays_numbers o_trays_sizes v1 v2).bind fun u3 =>
  if u3 = 0 then
  (iter (X11_lawFirst_b20 F o_latestStatus o_trays_numbers o_trays_sizes v1 v2) F 1).bind (Sum.elim (fun (e20 : Int32 × Int32) =>
    (X11_answer o_latestStatus ((10 * e20.1) + e20.2)).bind fun u59 =>
  some (u59.1, u59.2)) (fun (e20 : Unit) =>
    (X11_none o_latestStatus (6 : Int32)).bind fun u78 =>
  some (u78.1, u78.2)))
  else
  (X11_none o_latestStatus u3).bind fun u13 =>
  some (u13.1, u13.2)
abbrev wd_X11_lawFirst (E : vE) (a_o a_o_city a_o_ahead a_o_marks a_o_tape a_o_cityReader a_o_weeksReader a_o_trays a_o_planner a_o_ruler a_o_life a_o_latestLife a_o_trays_numbers a_o_trays_sorts a_o_trays_sizes : Nat) (o_marked : Int32) (o_wasLived : Int32) (o_wasParsed : Int32) (o_faultKind : Int32) (o_faultPlace : Int32) (o_latestStatus : Int32) (o_fractionTop : Int64) (o_fractionBottom : Int64) (o_trays_numbers : Nat → Int64) (o_trays_sizes : Nat → Int32) : va_W := [(a_o, .inr (11, [.ref a_o_city, .ref a_o_ahead, .ref a_o_marks, .int o_marked, .ref a_o_tape, .ref a_o_cityReader, .ref a_o_weeksReader, .ref a_o_trays, .ref a_o_planner, .ref a_o_ruler, .ref a_o_life, .ref a_o_latestLife, .int o_wasLived, .int o_wasParsed, .int o_faultKind, .int o_faultPlace, .int o_latestStatus, .long o_fractionTop, .long o_fractionBottom])), (a_o_trays, .inr (9, [.ref a_o_trays_numbers, .ref a_o_trays_sorts, .ref a_o_trays_sizes])), (a_o_trays_numbers, .inl (E.2.2.1, 240, .inr (.inl o_trays_numbers))), (a_o_trays_sizes, .inl (E.2.1, 4, .inl o_trays_sizes))]
set_option maxHeartbeats 4000000 in
set_option maxRecDepth 100000 in
theorem ct_X11_lawFirst (l : Launch) (E : vE) (F : Nat) (a_o a_o_city a_o_ahead a_o_marks a_o_tape a_o_cityReader a_o_weeksReader a_o_trays a_o_planner a_o_ruler a_o_life a_o_latestLife a_o_trays_numbers a_o_trays_sorts a_o_trays_sizes : Nat) (o_marked : Int32) (o_wasLived : Int32) (o_wasParsed : Int32) (o_faultKind : Int32) (o_faultPlace : Int32) (o_latestStatus : Int32) (o_fractionTop : Int64) (o_fractionBottom : Int64) (o_trays_numbers : Nat → Int64) (o_trays_sizes : Nat → Int32) (v1 : Int32) (v2 : Int32) (u : Int32 × Int32) (hf : X11_lawFirst F o_latestStatus o_trays_numbers o_trays_sizes v1 v2 = some u) :
    CtI l yX11_lawFirst cX11_lawFirst 6 (some .int) 5 E [.ref a_o, .int v1, .int v2] (wd_X11_lawFirst E a_o a_o_city a_o_ahead a_o_marks a_o_tape a_o_cityReader a_o_weeksReader a_o_trays a_o_planner a_o_ruler a_o_life a_o_latestLife a_o_trays_numbers a_o_trays_sorts a_o_trays_sizes o_marked o_wasLived o_wasParsed o_faultKind o_faultPlace o_latestStatus o_fractionTop o_fractionBottom o_trays_numbers o_trays_sizes) (wd_X11_lawFirst E a_o a_o_city a_o_ahead a_o_marks a_o_tape a_o_cityReader a_o_weeksReader a_o_trays a_o_planner a_o_ruler a_o_life a_o_latestLife a_o_trays_numbers a_o_trays_sorts a_o_trays_sizes o_marked o_wasLived o_wasParsed o_faultKind o_faultPlace u.2 o_fractionTop o_fractionBottom o_trays_numbers o_trays_sizes) u.1 := by
  refine ctI (by decide) (Nat.le_of_ble_eq_true rfl) ?_
  intro p e s m below meth cd A ls aa QQ hq cx hP hD hS hl
  obtain ⟨⟨hx, hb, hml, hown, hts⟩, hr, hlocks, hK, hA, hX⟩ := id cx
  have hl : lv_has ls 6 [(0, .ref a_o), (1, .int v1), (2, .int v2)] := hl
  unfold X11_lawFirst at hf
  refine lv_aload_n hx hb dX11_lawFirst_0 rfl (lv_at hl 0 rfl) ?_
  refine lv_iload_n hx hb dX11_lawFirst_1 rfl (lv_at hl 1 rfl) ?_
  refine lv_iload_n hx hb dX11_lawFirst_2 rfl (lv_at hl 2 rfl) ?_
  obtain ⟨u3, hu3, hf⟩ := bd hf
  refine keepVI (ct_X11_lawStatus l E F a_o a_o_city a_o_ahead a_o_marks a_o_tape a_o_cityReader a_o_weeksReader a_o_trays a_o_planner a_o_ruler a_o_life a_o_latestLife a_o_trays_numbers a_o_trays_sorts a_o_trays_sizes o_marked o_wasLived o_wasParsed o_faultKind o_faultPlace o_latestStatus o_fractionTop o_fractionBottom o_trays_numbers o_trays_sizes v1 v2 u3 hu3) [0, 1, 2, 3] cal_X11_lawStatus cav_X11_lawStatus lk_X11_349 cx hP hD hS hl dX11_lawFirst_3 rfl rfl rfl rfl (Nat.le_of_ble_eq_true rfl) ⟨Nat.le_of_ble_eq_true rfl, Nat.le_of_ble_eq_true rfl⟩ rfl (by decide) (fun H locs hP hS => ?_)
  refine lv_istore_n (lv' := [(3, .int u3), (0, .ref a_o), (1, .int v1), (2, .int v2)]) hx hb dX11_lawFirst_6 rfl hl (by decide) rfl (fun ls hl => ?_)
  refine lv_iload_n hx hb dX11_lawFirst_7 rfl (lv_at hl 0 rfl) ?_
  refine lv_if_eq (tgt := 17) hx hb dX11_lawFirst_8 (by decide) (fun hc => ?_) (fun hc => ?_)
  · have hf := it_t hc hf
    refine lv_iconst (v := 1) hx hb dX11_lawFirst_17 (by decide) ?_
    refine lv_istore (lv' := [(4, .int 1), (3, .int u3), (0, .ref a_o), (1, .int v1), (2, .int v2)]) hx hb dX11_lawFirst_18 hl (by decide) rfl (fun ls hl => ?_)
    obtain ⟨e20, hit20, hf⟩ := bd hf
    refine iter_W (b := X11_lawFirst_b20 F o_latestStatus o_trays_numbers o_trays_sizes v1 v2) (P := fun st20 => ∀ (H : Heap) (locs : List Loc) (ls : Array Slot), va_P E.1 vwCl (wd_X11_lawFirst E a_o a_o_city a_o_ahead a_o_marks a_o_tape a_o_cityReader a_o_weeksReader a_o_trays a_o_planner a_o_ruler a_o_life a_o_latestLife a_o_trays_numbers a_o_trays_sorts a_o_trays_sizes o_marked o_wasLived o_wasParsed o_faultKind o_faultPlace o_latestStatus o_fractionTop o_fractionBottom o_trays_numbers o_trays_sizes) H → va_D A (wd_X11_lawFirst E a_o a_o_city a_o_ahead a_o_marks a_o_tape a_o_cityReader a_o_weeksReader a_o_trays a_o_planner a_o_ruler a_o_life a_o_latestLife a_o_trays_numbers a_o_trays_sorts a_o_trays_sizes o_marked o_wasLived o_wasParsed o_faultKind o_faultPlace o_latestStatus o_fractionTop o_fractionBottom o_trays_numbers o_trays_sizes) → va_S A s.heap H locs → lv_has ls 6 [(0, .ref a_o), (1, .int v1), (2, .int v2), (4, .int st20)] → W p l e (rmd 5) s m aa below meth cd H locs 0 0 QQ (F0 m 20 ls [])) (G := (Sum.elim (fun (e20 : Int32 × Int32) => ∀ (H : Heap) (locs : List Loc) (ls : Array Slot), va_P E.1 vwCl (wd_X11_lawFirst E a_o a_o_city a_o_ahead a_o_marks a_o_tape a_o_cityReader a_o_weeksReader a_o_trays a_o_planner a_o_ruler a_o_life a_o_latestLife a_o_trays_numbers a_o_trays_sorts a_o_trays_sizes o_marked o_wasLived o_wasParsed o_faultKind o_faultPlace o_latestStatus o_fractionTop o_fractionBottom o_trays_numbers o_trays_sizes) H → va_D A (wd_X11_lawFirst E a_o a_o_city a_o_ahead a_o_marks a_o_tape a_o_cityReader a_o_weeksReader a_o_trays a_o_planner a_o_ruler a_o_life a_o_latestLife a_o_trays_numbers a_o_trays_sorts a_o_trays_sizes o_marked o_wasLived o_wasParsed o_faultKind o_faultPlace o_latestStatus o_fractionTop o_fractionBottom o_trays_numbers o_trays_sizes) → va_S A s.heap H locs → lv_has ls 6 [(0, .ref a_o), (4, .int e20.1), (5, .int e20.2)] → W p l e (rmd 5) s m aa below meth cd H locs 0 0 QQ (F0 m 50 ls [])) (fun (e20 : Unit) => ∀ (H : Heap) (locs : List Loc) (ls : Array Slot), va_P E.1 vwCl (wd_X11_lawFirst E a_o a_o_city a_o_ahead a_o_marks a_o_tape a_o_cityReader a_o_weeksReader a_o_trays a_o_planner a_o_ruler a_o_life a_o_latestLife a_o_trays_numbers a_o_trays_sorts a_o_trays_sizes o_marked o_wasLived o_wasParsed o_faultKind o_faultPlace o_latestStatus o_fractionTop o_fractionBottom o_trays_numbers o_trays_sizes) H → va_D A (wd_X11_lawFirst E a_o a_o_city a_o_ahead a_o_marks a_o_tape a_o_cityReader a_o_weeksReader a_o_trays a_o_planner a_o_ruler a_o_life a_o_latestLife a_o_trays_numbers a_o_trays_sorts a_o_trays_sizes o_marked o_wasLived o_wasParsed o_faultKind o_faultPlace o_latestStatus o_fractionTop o_fractionBottom o_trays_numbers o_trays_sizes) → va_S A s.heap H locs → lv_has ls 6 [(0, .ref a_o)] → W p l e (rmd 5) s m aa below meth cd H locs 0 0 QQ (F0 m 75 ls [])))) ?_ F 1 e20 hit20 ?_ _ _ _ hP hD hS (lv_sub hl [2, 3, 4, 0] rfl)
    · intro st20 r20 hf hk20 he20 H locs ls hP hD hS hl
      unfold X11_lawFirst_b20 at hf
      refine lv_iload hx hb dX11_lawFirst_20 (lv_at hl 3 rfl) ?_
      refine lv_bipush (v := 9) hx hb dX11_lawFirst_22 (by decide) ?_
      refine lv_icmp_gt (tgt := 75) hx hb dX11_lawFirst_24 (by decide) (fun hc => ?_) (fun hc => ?_)
      · have hf := it_t hc hf
        exact he20 _ (Option.some.inj hf).symm _ _ _ hP hD hS (lv_sub hl [0] rfl)
      · have hf := it_f hc hf
        refine lv_iconst (v := 1) hx hb dX11_lawFirst_27 (by decide) ?_
        refine lv_istore (lv' := [(5, .int 1), (0, .ref a_o), (1, .int v1), (2, .int v2), (4, .int st20)]) hx hb dX11_lawFirst_28 hl (by decide) rfl (fun ls hl => ?_)
        obtain ⟨e30, hit30, hf⟩ := bd hf
        refine iter_W (b := X11_lawFirst_b30 F o_latestStatus o_trays_numbers o_trays_sizes v1 v2 st20) (P := fun st30 => ∀ (H : Heap) (locs : List Loc) (ls : Array Slot), va_P E.1 vwCl (wd_X11_lawFirst E a_o a_o_city a_o_ahead a_o_marks a_o_tape a_o_cityReader a_o_weeksReader a_o_trays a_o_planner a_o_ruler a_o_life a_o_latestLife a_o_trays_numbers a_o_trays_sorts a_o_trays_sizes o_marked o_wasLived o_wasParsed o_faultKind o_faultPlace o_latestStatus o_fractionTop o_fractionBottom o_trays_numbers o_trays_sizes) H → va_D A (wd_X11_lawFirst E a_o a_o_city a_o_ahead a_o_marks a_o_tape a_o_cityReader a_o_weeksReader a_o_trays a_o_planner a_o_ruler a_o_life a_o_latestLife a_o_trays_numbers a_o_trays_sorts a_o_trays_sizes o_marked o_wasLived o_wasParsed o_faultKind o_faultPlace o_latestStatus o_fractionTop o_fractionBottom o_trays_numbers o_trays_sizes) → va_S A s.heap H locs → lv_has ls 6 [(0, .ref a_o), (1, .int v1), (2, .int v2), (4, .int st20), (5, .int st30)] → W p l e (rmd 5) s m aa below meth cd H locs 0 0 QQ (F0 m 30 ls [])) (G := (Sum.elim (fun (e30 : Int32) => ∀ (H : Heap) (locs : List Loc) (ls : Array Slot), va_P E.1 vwCl (wd_X11_lawFirst E a_o a_o_city a_o_ahead a_o_marks a_o_tape a_o_cityReader a_o_weeksReader a_o_trays a_o_planner a_o_ruler a_o_life a_o_latestLife a_o_trays_numbers a_o_trays_sorts a_o_trays_sizes o_marked o_wasLived o_wasParsed o_faultKind o_faultPlace o_latestStatus o_fractionTop o_fractionBottom o_trays_numbers o_trays_sizes) H → va_D A (wd_X11_lawFirst E a_o a_o_city a_o_ahead a_o_marks a_o_tape a_o_cityReader a_o_weeksReader a_o_trays a_o_planner a_o_ruler a_o_life a_o_latestLife a_o_trays_numbers a_o_trays_sorts a_o_trays_sizes o_marked o_wasLived o_wasParsed o_faultKind o_faultPlace o_latestStatus o_fractionTop o_fractionBottom o_trays_numbers o_trays_sizes) → va_S A s.heap H locs → lv_has ls 6 [(0, .ref a_o), (4, .int st20), (5, .int e30)] → W p l e (rmd 5) s m aa below meth cd H locs 0 0 QQ (F0 m 50 ls [])) (fun (e30 : Unit) => ∀ (H : Heap) (locs : List Loc) (ls : Array Slot), va_P E.1 vwCl (wd_X11_lawFirst E a_o a_o_city a_o_ahead a_o_marks a_o_tape a_o_cityReader a_o_weeksReader a_o_trays a_o_planner a_o_ruler a_o_life a_o_latestLife a_o_trays_numbers a_o_trays_sorts a_o_trays_sizes o_marked o_wasLived o_wasParsed o_faultKind o_faultPlace o_latestStatus o_fractionTop o_fractionBottom o_trays_numbers o_trays_sizes) H → va_D A (wd_X11_lawFirst E a_o a_o_city a_o_ahead a_o_marks a_o_tape a_o_cityReader a_o_weeksReader a_o_trays a_o_planner a_o_ruler a_o_life a_o_latestLife a_o_trays_numbers a_o_trays_sorts a_o_trays_sizes o_marked o_wasLived o_wasParsed o_faultKind o_faultPlace o_latestStatus o_fractionTop o_fractionBottom o_trays_numbers o_trays_sizes) → va_S A s.heap H locs → lv_has ls 6 [(0, .ref a_o), (1, .int v1), (2, .int v2), (4, .int st20)] → W p l e (rmd 5) s m aa below meth cd H locs 0 0 QQ (F0 m 69 ls [])))) ?_ F 1 e30 hit30 ?_ _ _ _ hP hD hS (lv_sub hl [1, 2, 3, 4, 0] rfl)
        · intro st30 r30 hf hk30 he30 H locs ls hP hD hS hl
          unfold X11_lawFirst_b30 at hf
          refine lv_iload hx hb dX11_lawFirst_30 (lv_at hl 4 rfl) ?_
          refine lv_bipush (v := 9) hx hb dX11_lawFirst_32 (by decide) ?_
          refine lv_icmp_gt (tgt := 69) hx hb dX11_lawFirst_34 (by decide) (fun hc => ?_) (fun hc => ?_)
          · have hf := it_t hc hf
            exact he30 _ (Option.some.inj hf).symm _ _ _ hP hD hS (lv_sub hl [0, 1, 2, 3] rfl)
          · have hf := it_f hc hf
            refine lv_aload_n hx hb dX11_lawFirst_37 rfl (lv_at hl 0 rfl) ?_
            refine lv_iload hx hb dX11_lawFirst_38 (lv_at hl 3 rfl) ?_
            refine lv_iload hx hb dX11_lawFirst_40 (lv_at hl 4 rfl) ?_
            refine lv_iload_n hx hb dX11_lawFirst_42 rfl (lv_at hl 1 rfl) ?_
            refine lv_iload_n hx hb dX11_lawFirst_43 rfl (lv_at hl 2 rfl) ?_
            obtain ⟨u44, hu44, hf⟩ := bd hf
            refine keepVI (ct_X11_fits l E F a_o a_o_city a_o_ahead a_o_marks a_o_tape a_o_cityReader a_o_weeksReader a_o_trays a_o_planner a_o_ruler a_o_life a_o_latestLife a_o_trays_numbers a_o_trays_sorts a_o_trays_sizes o_marked o_wasLived o_wasParsed o_faultKind o_faultPlace o_latestStatus o_fractionTop o_fractionBottom o_trays_numbers o_trays_sizes st20 st30 v1 v2 u44 hu44) [0, 1, 2, 3] cal_X11_fits cav_X11_fits lk_X11_352 cx hP hD hS hl dX11_lawFirst_44 rfl rfl rfl rfl (Nat.le_of_ble_eq_true rfl) ⟨Nat.le_of_ble_eq_true rfl, Nat.le_of_ble_eq_true rfl⟩ rfl (by decide) (fun H locs hP hS => ?_)
            refine lv_if_eq (tgt := 63) hx hb dX11_lawFirst_47 (by decide) (fun hc => ?_) (fun hc => ?_)
            · have hf := it_t hc hf
              refine lv_iinc (v := (st30 + 1)) (lv' := [(5, .int (st30 + 1)), (0, .ref a_o), (1, .int v1), (2, .int v2), (4, .int st20)]) hx hb dX11_lawFirst_63 hl (k := 4) rfl rfl (by decide) rfl (fun ls hl => ?_)
              refine lv_goto (tgt := 30) hx hb dX11_lawFirst_66 (by decide) ?_
              exact hk30 _ (Option.some.inj hf).symm _ _ _ hP hD hS (lv_sub hl [1, 2, 3, 4, 0] rfl)
            · have hf := it_f hc hf
              exact he30 _ (Option.some.inj hf).symm _ _ _ hP hD hS (lv_sub hl [0, 3, 4] rfl)
        · rcases e30 with e30 | e30
          · have hf := se_l hf
            refine fun H locs ls hP hD hS hl => ?_
            exact he20 _ (Option.some.inj hf).symm _ _ _ hP hD hS (lv_sub hl [0, 1, 2] rfl)
          · have hf := se_r hf
            refine fun H locs ls hP hD hS hl => ?_
            refine lv_iinc (v := (st20 + 1)) (lv' := [(4, .int (st20 + 1)), (0, .ref a_o), (1, .int v1), (2, .int v2)]) hx hb dX11_lawFirst_69 hl (k := 3) rfl rfl (by decide) rfl (fun ls hl => ?_)
            refine lv_goto (tgt := 20) hx hb dX11_lawFirst_72 (by decide) ?_
            exact hk20 _ (Option.some.inj hf).symm _ _ _ hP hD hS (lv_sub hl [1, 2, 3, 0] rfl)
    · rcases e20 with e20 | e20
      · have hf := se_l hf
        refine fun H locs ls hP hD hS hl => ?_
        refine lv_aload_n hx hb dX11_lawFirst_50 rfl (lv_at hl 0 rfl) ?_
        refine lv_bipush (v := 10) hx hb dX11_lawFirst_51 (by decide) ?_
        refine lv_iload hx hb dX11_lawFirst_53 (lv_at hl 1 rfl) ?_
        refine lv_imul hx hb dX11_lawFirst_55 ?_
        refine lv_iload hx hb dX11_lawFirst_56 (lv_at hl 2 rfl) ?_
        refine lv_iadd hx hb dX11_lawFirst_58 ?_
        obtain ⟨u59, hu59, hf⟩ := bd hf
        refine callVI (wn := (wd_X11_lawFirst E a_o a_o_city a_o_ahead a_o_marks a_o_tape a_o_cityReader a_o_weeksReader a_o_trays a_o_planner a_o_ruler a_o_life a_o_latestLife a_o_trays_numbers a_o_trays_sorts a_o_trays_sizes o_marked o_wasLived o_wasParsed o_faultKind o_faultPlace u59.2 o_fractionTop o_fractionBottom o_trays_numbers o_trays_sizes)) (n1 := 4) (ct_X11_answer l E a_o a_o_city a_o_ahead a_o_marks a_o_tape a_o_cityReader a_o_weeksReader a_o_trays a_o_planner a_o_ruler a_o_life a_o_latestLife o_marked o_wasLived o_wasParsed o_faultKind o_faultPlace o_latestStatus o_fractionTop o_fractionBottom ((10 * e20.1) + e20.2) u59 hu59) [0] cal_X11_answer cav_X11_answer lk_X11_172 cx hP hD hS hl dX11_lawFirst_59 rfl rfl rfl rfl (Nat.le_of_ble_eq_true rfl) ⟨Nat.le_of_ble_eq_true rfl, Nat.le_of_ble_eq_true rfl⟩ rfl (by decide +kernel) rfl [some 0, none, none, none] rfl (by decide +kernel) rfl (fun H locs hP hD hS => ?_)
        obtain rfl := Option.some.inj hf
        subst hq
        exact retI cx hP hD hS dX11_lawFirst_62
      · have hf := se_r hf
        refine fun H locs ls hP hD hS hl => ?_
        refine lv_aload_n hx hb dX11_lawFirst_75 rfl (lv_at hl 0 rfl) ?_
        refine lv_bipush (v := 6) hx hb dX11_lawFirst_76 (by decide) ?_
        obtain ⟨u78, hu78, hf⟩ := bd hf
        refine callVI (wn := (wd_X11_lawFirst E a_o a_o_city a_o_ahead a_o_marks a_o_tape a_o_cityReader a_o_weeksReader a_o_trays a_o_planner a_o_ruler a_o_life a_o_latestLife a_o_trays_numbers a_o_trays_sorts a_o_trays_sizes o_marked o_wasLived o_wasParsed o_faultKind o_faultPlace u78.2 o_fractionTop o_fractionBottom o_trays_numbers o_trays_sizes)) (n1 := 4) (ct_X11_none l E a_o a_o_city a_o_ahead a_o_marks a_o_tape a_o_cityReader a_o_weeksReader a_o_trays a_o_planner a_o_ruler a_o_life a_o_latestLife o_marked o_wasLived o_wasParsed o_faultKind o_faultPlace o_latestStatus o_fractionTop o_fractionBottom (6 : Int32) u78 hu78) [0] cal_X11_none cav_X11_none lk_X11_119 cx hP hD hS hl dX11_lawFirst_78 rfl rfl rfl rfl (Nat.le_of_ble_eq_true rfl) ⟨Nat.le_of_ble_eq_true rfl, Nat.le_of_ble_eq_true rfl⟩ rfl (by decide +kernel) rfl [some 0, none, none, none] rfl (by decide +kernel) rfl (fun H locs hP hD hS => ?_)
        obtain rfl := Option.some.inj hf
        subst hq
        exact retI cx hP hD hS dX11_lawFirst_81
  · have hf := it_f hc hf
    refine lv_aload_n hx hb dX11_lawFirst_11 rfl (lv_at hl 1 rfl) ?_
    refine lv_iload_n hx hb dX11_lawFirst_12 rfl (lv_at hl 0 rfl) ?_
    obtain ⟨u13, hu13, hf⟩ := bd hf
    refine callVI (wn := (wd_X11_lawFirst E a_o a_o_city a_o_ahead a_o_marks a_o_tape a_o_cityReader a_o_weeksReader a_o_trays a_o_planner a_o_ruler a_o_life a_o_latestLife a_o_trays_numbers a_o_trays_sorts a_o_trays_sizes o_marked o_wasLived o_wasParsed o_faultKind o_faultPlace u13.2 o_fractionTop o_fractionBottom o_trays_numbers o_trays_sizes)) (n1 := 4) (ct_X11_none l E a_o a_o_city a_o_ahead a_o_marks a_o_tape a_o_cityReader a_o_weeksReader a_o_trays a_o_planner a_o_ruler a_o_life a_o_latestLife o_marked o_wasLived o_wasParsed o_faultKind o_faultPlace o_latestStatus o_fractionTop o_fractionBottom u3 u13 hu13) [0] cal_X11_none cav_X11_none lk_X11_119 cx hP hD hS hl dX11_lawFirst_13 rfl rfl rfl rfl (Nat.le_of_ble_eq_true rfl) ⟨Nat.le_of_ble_eq_true rfl, Nat.le_of_ble_eq_true rfl⟩ rfl (by decide +kernel) rfl [some 0, none, none, none] rfl (by decide +kernel) rfl (fun H locs hP hD hS => ?_)
    obtain rfl := Option.some.inj hf
    subst hq
    exact retI cx hP hD hS dX11_lawFirst_16
