def X11_weeks_j22 (F : Nat) (o_wasParsed : Int32) (o_faultKind : Int32) (o_faultPlace : Int32) (o_latestStatus : Int32) (o_city_hasWeeks : Int32) (o_city_names_many : Int32) (o_city_names_codes : Nat → Int64) (o_city_names_sorts : Nat → Int32) (o_city_names_numbers : Nat → Int32) (o_city_weeks_many : Int32) (o_city_weeks_cells : Nat → Int32) (o_tape_held : Int32) (o_tape_length : Int32) (o_tape_place : Int32) (o_tape_next : Int32) (o_tape_sort : Int32) (o_tape_value : Int32) (o_tape_code : Int64) (o_tape_fault : Int32) (o_tape_faultPlace : Int32) (o_tape_text : Nat → Int32) (o_weeksReader_depth : Int32) (o_weeksReader_steps_many : Int32) (o_weeksReader_steps_cells : Nat → Int32) (o_weeksReader_opened : Nat → Int32) : Option (vS) :=
  (X11_none o_latestStatus (1 : Int32)).bind fun u24 =>
  some (mkS [u24.1, o_wasParsed, o_faultKind, o_faultPlace, u24.2, o_city_hasWeeks, o_city_weeks_many, o_tape_held, o_tape_length, o_tape_place, o_tape_next, o_tape_sort, o_tape_value, o_tape_fault, o_tape_faultPlace, o_weeksReader_depth, o_weeksReader_steps_many] [o_tape_code] [o_city_weeks_cells, o_weeksReader_steps_cells, o_weeksReader_opened] [])
def X11_weeks (F : Nat) (o_wasParsed : Int32) (o_faultKind : Int32) (o_faultPlace : Int32) (o_latestStatus : Int32) (o_city_hasWeeks : Int32) (o_city_names_many : Int32) (o_city_names_codes : Nat → Int64) (o_city_names_sorts : Nat → Int32) (o_city_names_numbers : Nat → Int32) (o_city_weeks_many : Int32) (o_city_weeks_cells : Nat → Int32) (o_tape_held : Int32) (o_tape_length : Int32) (o_tape_place : Int32) (o_tape_next : Int32) (o_tape_sort : Int32) (o_tape_value : Int32) (o_tape_code : Int64) (o_tape_fault : Int32) (o_tape_faultPlace : Int32) (o_tape_text : Nat → Int32) (o_weeksReader_depth : Int32) (o_weeksReader_steps_many : Int32) (o_weeksReader_steps_cells : Nat → Int32) (o_weeksReader_opened : Nat → Int32) (v1 : Int32) : Option (vS) :=
  (X11_within v1 (0 : Int32) o_tape_held).bind fun u9 =>
  if u9 = 0 then
  X11_weeks_j22 F o_wasParsed o_faultKind o_faultPlace o_latestStatus o_city_hasWeeks o_city_names_many o_city_names_codes o_city_names_sorts o_city_names_numbers o_city_weeks_many o_city_weeks_cells o_tape_held o_tape_length o_tape_place o_tape_next o_tape_sort o_tape_value o_tape_code o_tape_fault o_tape_faultPlace o_tape_text o_weeksReader_depth o_weeksReader_steps_many o_weeksReader_steps_cells o_weeksReader_opened
  else
  if v1 ≤ 300 then
  (X10_parse F o_weeksReader_depth o_tape_held o_tape_length o_tape_place o_tape_next o_tape_sort o_tape_value o_tape_code o_tape_fault o_tape_faultPlace o_tape_text o_weeksReader_steps_many o_weeksReader_steps_cells o_weeksReader_opened o_city_names_many o_city_names_codes o_city_names_sorts o_city_names_numbers v1).bind fun u40 =>
  (X11_keepFault o_wasParsed o_faultKind o_faultPlace (u40.1 8) (u40.1 9)).bind fun u45 =>
  if (u40.1 0) = 0 then
  (X11_none o_latestStatus (9 : Int32)).bind fun u55 =>
  some (mkS [u55.1, u45.1, u45.2.1, u45.2.2, u55.2, o_city_hasWeeks, o_city_weeks_many, (u40.1 2), (u40.1 3), (u40.1 4), (u40.1 5), (u40.1 6), (u40.1 7), (u40.1 8), (u40.1 9), (u40.1 1), (u40.1 10)] [(u40.2.1 0)] [o_city_weeks_cells, (u40.2.2.1 0), (u40.2.2.1 1)] [])
  else
  (X7_copyFrom 180 180 o_city_weeks_many o_city_weeks_cells (u40.1 10) (u40.2.2.1 0)).bind fun u73 =>
  (X11_answer o_latestStatus u73.1).bind fun u95 =>
  some (mkS [u95.1, u45.1, u45.2.1, u45.2.2, u95.2, 1, u73.1, (u40.1 2), (u40.1 3), (u40.1 4), (u40.1 5), (u40.1 6), (u40.1 7), (u40.1 8), (u40.1 9), (u40.1 1), (u40.1 10)] [(u40.2.1 0)] [u73.2, (u40.2.2.1 0), (u40.2.2.1 1)] [])
  else
  X11_weeks_j22 F o_wasParsed o_faultKind o_faultPlace o_latestStatus o_city_hasWeeks o_city_names_many o_city_names_codes o_city_names_sorts o_city_names_numbers o_city_weeks_many o_city_weeks_cells o_tape_held o_tape_length o_tape_place o_tape_next o_tape_sort o_tape_value o_tape_code o_tape_fault o_tape_faultPlace o_tape_text o_weeksReader_depth o_weeksReader_steps_many o_weeksReader_steps_cells o_weeksReader_opened
abbrev wd_X11_weeks (E : vE) (a_o a_o_city a_o_ahead a_o_marks a_o_tape a_o_cityReader a_o_weeksReader a_o_trays a_o_planner a_o_ruler a_o_life a_o_latestLife a_o_city_streets a_o_city_names a_o_city_extras a_o_city_happenings a_o_city_watchers a_o_city_weeks a_o_city_names_codes a_o_city_names_sorts a_o_city_names_numbers a_o_city_weeks_cells a_o_tape_text a_o_weeksReader_steps a_o_weeksReader_opened a_o_weeksReader_steps_cells : Nat) (o_marked : Int32) (o_wasLived : Int32) (o_wasParsed : Int32) (o_faultKind : Int32) (o_faultPlace : Int32) (o_latestStatus : Int32) (o_fractionTop : Int64) (o_fractionBottom : Int64) (o_city_wage : Int32) (o_city_delay : Int32) (o_city_odds : Int32) (o_city_clock : Int32) (o_city_hasWeeks : Int32) (o_city_names_many : Int32) (o_city_names_codes : Nat → Int64) (o_city_names_sorts : Nat → Int32) (o_city_names_numbers : Nat → Int32) (o_city_weeks_many : Int32) (o_city_weeks_cells : Nat → Int32) (o_tape_held : Int32) (o_tape_length : Int32) (o_tape_place : Int32) (o_tape_next : Int32) (o_tape_sort : Int32) (o_tape_value : Int32) (o_tape_code : Int64) (o_tape_fault : Int32) (o_tape_faultPlace : Int32) (o_tape_text : Nat → Int32) (o_weeksReader_depth : Int32) (o_weeksReader_steps_many : Int32) (o_weeksReader_steps_cells : Nat → Int32) (o_weeksReader_opened : Nat → Int32) : va_W := [(a_o, .inr (11, [.ref a_o_city, .ref a_o_ahead, .ref a_o_marks, .int o_marked, .ref a_o_tape, .ref a_o_cityReader, .ref a_o_weeksReader, .ref a_o_trays, .ref a_o_planner, .ref a_o_ruler, .ref a_o_life, .ref a_o_latestLife, .int o_wasLived, .int o_wasParsed, .int o_faultKind, .int o_faultPlace, .int o_latestStatus, .long o_fractionTop, .long o_fractionBottom])), (a_o_city, .inr (0, [.int o_city_wage, .int o_city_delay, .int o_city_odds, .int o_city_clock, .int o_city_hasWeeks, .ref a_o_city_streets, .ref a_o_city_names, .ref a_o_city_extras, .ref a_o_city_happenings, .ref a_o_city_watchers, .ref a_o_city_weeks])), (a_o_city_names, .inr (3, [.ref a_o_city_names_codes, .ref a_o_city_names_sorts, .ref a_o_city_names_numbers, .int o_city_names_many])), (a_o_city_names_codes, .inl (E.2.2.1, 27, .inr (.inl o_city_names_codes))), (a_o_city_names_sorts, .inl (E.2.1, 27, .inl o_city_names_sorts)), (a_o_city_names_numbers, .inl (E.2.1, 27, .inl o_city_names_numbers)), (a_o_city_weeks, .inr (7, [.int 6, .ref a_o_city_weeks_cells, .int o_city_weeks_many])), (a_o_city_weeks_cells, .inl (E.2.1, 180, .inl o_city_weeks_cells)), (a_o_tape, .inr (8, [.ref a_o_tape_text, .int o_tape_held, .int o_tape_length, .int o_tape_place, .int o_tape_next, .int o_tape_sort, .int o_tape_value, .long o_tape_code, .int o_tape_fault, .int o_tape_faultPlace])), (a_o_tape_text, .inl (E.2.1, 900, .inl o_tape_text)), (a_o_weeksReader, .inr (10, [.ref a_o_tape, .ref a_o_weeksReader_steps, .ref a_o_weeksReader_opened, .int o_weeksReader_depth])), (a_o_weeksReader_steps, .inr (7, [.int 6, .ref a_o_weeksReader_steps_cells, .int o_weeksReader_steps_many])), (a_o_weeksReader_steps_cells, .inl (E.2.1, 180, .inl o_weeksReader_steps_cells)), (a_o_weeksReader_opened, .inl (E.2.1, 3, .inl o_weeksReader_opened))]
set_option maxHeartbeats 4000000 in
set_option maxRecDepth 100000 in
theorem ct_X11_weeks (l : Launch) (E : vE) (F : Nat) (a_o a_o_city a_o_ahead a_o_marks a_o_tape a_o_cityReader a_o_weeksReader a_o_trays a_o_planner a_o_ruler a_o_life a_o_latestLife a_o_city_streets a_o_city_names a_o_city_extras a_o_city_happenings a_o_city_watchers a_o_city_weeks a_o_city_names_codes a_o_city_names_sorts a_o_city_names_numbers a_o_city_weeks_cells a_o_tape_text a_o_weeksReader_steps a_o_weeksReader_opened a_o_weeksReader_steps_cells : Nat) (o_marked : Int32) (o_wasLived : Int32) (o_wasParsed : Int32) (o_faultKind : Int32) (o_faultPlace : Int32) (o_latestStatus : Int32) (o_fractionTop : Int64) (o_fractionBottom : Int64) (o_city_wage : Int32) (o_city_delay : Int32) (o_city_odds : Int32) (o_city_clock : Int32) (o_city_hasWeeks : Int32) (o_city_names_many : Int32) (o_city_names_codes : Nat → Int64) (o_city_names_sorts : Nat → Int32) (o_city_names_numbers : Nat → Int32) (o_city_weeks_many : Int32) (o_city_weeks_cells : Nat → Int32) (o_tape_held : Int32) (o_tape_length : Int32) (o_tape_place : Int32) (o_tape_next : Int32) (o_tape_sort : Int32) (o_tape_value : Int32) (o_tape_code : Int64) (o_tape_fault : Int32) (o_tape_faultPlace : Int32) (o_tape_text : Nat → Int32) (o_weeksReader_depth : Int32) (o_weeksReader_steps_many : Int32) (o_weeksReader_steps_cells : Nat → Int32) (o_weeksReader_opened : Nat → Int32) (v1 : Int32) (u : vS) (hf : X11_weeks F o_wasParsed o_faultKind o_faultPlace o_latestStatus o_city_hasWeeks o_city_names_many o_city_names_codes o_city_names_sorts o_city_names_numbers o_city_weeks_many o_city_weeks_cells o_tape_held o_tape_length o_tape_place o_tape_next o_tape_sort o_tape_value o_tape_code o_tape_fault o_tape_faultPlace o_tape_text o_weeksReader_depth o_weeksReader_steps_many o_weeksReader_steps_cells o_weeksReader_opened v1 = some u) :
    CtI l yX11_weeks cX11_weeks 3 (some .int) 10 E [.ref a_o, .int v1] (wd_X11_weeks E a_o a_o_city a_o_ahead a_o_marks a_o_tape a_o_cityReader a_o_weeksReader a_o_trays a_o_planner a_o_ruler a_o_life a_o_latestLife a_o_city_streets a_o_city_names a_o_city_extras a_o_city_happenings a_o_city_watchers a_o_city_weeks a_o_city_names_codes a_o_city_names_sorts a_o_city_names_numbers a_o_city_weeks_cells a_o_tape_text a_o_weeksReader_steps a_o_weeksReader_opened a_o_weeksReader_steps_cells o_marked o_wasLived o_wasParsed o_faultKind o_faultPlace o_latestStatus o_fractionTop o_fractionBottom o_city_wage o_city_delay o_city_odds o_city_clock o_city_hasWeeks o_city_names_many o_city_names_codes o_city_names_sorts o_city_names_numbers o_city_weeks_many o_city_weeks_cells o_tape_held o_tape_length o_tape_place o_tape_next o_tape_sort o_tape_value o_tape_code o_tape_fault o_tape_faultPlace o_tape_text o_weeksReader_depth o_weeksReader_steps_many o_weeksReader_steps_cells o_weeksReader_opened) (wd_X11_weeks E a_o a_o_city a_o_ahead a_o_marks a_o_tape a_o_cityReader a_o_weeksReader a_o_trays a_o_planner a_o_ruler a_o_life a_o_latestLife a_o_city_streets a_o_city_names a_o_city_extras a_o_city_happenings a_o_city_watchers a_o_city_weeks a_o_city_names_codes a_o_city_names_sorts a_o_city_names_numbers a_o_city_weeks_cells a_o_tape_text a_o_weeksReader_steps a_o_weeksReader_opened a_o_weeksReader_steps_cells o_marked o_wasLived (u.1 1) (u.1 2) (u.1 3) (u.1 4) o_fractionTop o_fractionBottom o_city_wage o_city_delay o_city_odds o_city_clock (u.1 5) o_city_names_many o_city_names_codes o_city_names_sorts o_city_names_numbers (u.1 6) (u.2.2.1 0) (u.1 7) (u.1 8) (u.1 9) (u.1 10) (u.1 11) (u.1 12) (u.2.1 0) (u.1 13) (u.1 14) o_tape_text (u.1 15) (u.1 16) (u.2.2.1 1) (u.2.2.1 2)) (u.1 0) := by
  refine ctI (by decide) (Nat.le_of_ble_eq_true rfl) ?_
  intro p e s m below meth cd A ls aa QQ hq cx hP hD hS hl
  obtain ⟨⟨hx, hb, hml, hown, hts⟩, hr, hlocks, hK, hA, hX⟩ := id cx
  have hl : lv_has ls 3 [(0, .ref a_o), (1, .int v1)] := hl
  have hj22 : ∀ (o_wasParsed_j22 : Int32) (o_faultKind_j22 : Int32) (o_faultPlace_j22 : Int32) (o_latestStatus_j22 : Int32) (o_city_hasWeeks_j22 : Int32) (o_city_weeks_many_j22 : Int32) (o_city_weeks_cells_j22 : Nat → Int32) (o_tape_held_j22 : Int32) (o_tape_length_j22 : Int32) (o_tape_place_j22 : Int32) (o_tape_next_j22 : Int32) (o_tape_sort_j22 : Int32) (o_tape_value_j22 : Int32) (o_tape_code_j22 : Int64) (o_tape_fault_j22 : Int32) (o_tape_faultPlace_j22 : Int32) (o_weeksReader_depth_j22 : Int32) (o_weeksReader_steps_many_j22 : Int32) (o_weeksReader_steps_cells_j22 : Nat → Int32) (o_weeksReader_opened_j22 : Nat → Int32) (H : Heap) (locs : List Loc) (ls : Array Slot), X11_weeks_j22 F o_wasParsed_j22 o_faultKind_j22 o_faultPlace_j22 o_latestStatus_j22 o_city_hasWeeks_j22 o_city_names_many o_city_names_codes o_city_names_sorts o_city_names_numbers o_city_weeks_many_j22 o_city_weeks_cells_j22 o_tape_held_j22 o_tape_length_j22 o_tape_place_j22 o_tape_next_j22 o_tape_sort_j22 o_tape_value_j22 o_tape_code_j22 o_tape_fault_j22 o_tape_faultPlace_j22 o_tape_text o_weeksReader_depth_j22 o_weeksReader_steps_many_j22 o_weeksReader_steps_cells_j22 o_weeksReader_opened_j22 = some u → va_P E.1 vwCl (wd_X11_weeks E a_o a_o_city a_o_ahead a_o_marks a_o_tape a_o_cityReader a_o_weeksReader a_o_trays a_o_planner a_o_ruler a_o_life a_o_latestLife a_o_city_streets a_o_city_names a_o_city_extras a_o_city_happenings a_o_city_watchers a_o_city_weeks a_o_city_names_codes a_o_city_names_sorts a_o_city_names_numbers a_o_city_weeks_cells a_o_tape_text a_o_weeksReader_steps a_o_weeksReader_opened a_o_weeksReader_steps_cells o_marked o_wasLived o_wasParsed_j22 o_faultKind_j22 o_faultPlace_j22 o_latestStatus_j22 o_fractionTop o_fractionBottom o_city_wage o_city_delay o_city_odds o_city_clock o_city_hasWeeks_j22 o_city_names_many o_city_names_codes o_city_names_sorts o_city_names_numbers o_city_weeks_many_j22 o_city_weeks_cells_j22 o_tape_held_j22 o_tape_length_j22 o_tape_place_j22 o_tape_next_j22 o_tape_sort_j22 o_tape_value_j22 o_tape_code_j22 o_tape_fault_j22 o_tape_faultPlace_j22 o_tape_text o_weeksReader_depth_j22 o_weeksReader_steps_many_j22 o_weeksReader_steps_cells_j22 o_weeksReader_opened_j22) H → va_D A (wd_X11_weeks E a_o a_o_city a_o_ahead a_o_marks a_o_tape a_o_cityReader a_o_weeksReader a_o_trays a_o_planner a_o_ruler a_o_life a_o_latestLife a_o_city_streets a_o_city_names a_o_city_extras a_o_city_happenings a_o_city_watchers a_o_city_weeks a_o_city_names_codes a_o_city_names_sorts a_o_city_names_numbers a_o_city_weeks_cells a_o_tape_text a_o_weeksReader_steps a_o_weeksReader_opened a_o_weeksReader_steps_cells o_marked o_wasLived o_wasParsed_j22 o_faultKind_j22 o_faultPlace_j22 o_latestStatus_j22 o_fractionTop o_fractionBottom o_city_wage o_city_delay o_city_odds o_city_clock o_city_hasWeeks_j22 o_city_names_many o_city_names_codes o_city_names_sorts o_city_names_numbers o_city_weeks_many_j22 o_city_weeks_cells_j22 o_tape_held_j22 o_tape_length_j22 o_tape_place_j22 o_tape_next_j22 o_tape_sort_j22 o_tape_value_j22 o_tape_code_j22 o_tape_fault_j22 o_tape_faultPlace_j22 o_tape_text o_weeksReader_depth_j22 o_weeksReader_steps_many_j22 o_weeksReader_steps_cells_j22 o_weeksReader_opened_j22) → va_S A s.heap H locs → lv_has ls 3 [(0, .ref a_o)] → W p l e (rmd 10) s m aa below meth cd H locs 0 0 QQ (F0 m 22 ls []) := by
    intro o_wasParsed_j22 o_faultKind_j22 o_faultPlace_j22 o_latestStatus_j22 o_city_hasWeeks_j22 o_city_weeks_many_j22 o_city_weeks_cells_j22 o_tape_held_j22 o_tape_length_j22 o_tape_place_j22 o_tape_next_j22 o_tape_sort_j22 o_tape_value_j22 o_tape_code_j22 o_tape_fault_j22 o_tape_faultPlace_j22 o_weeksReader_depth_j22 o_weeksReader_steps_many_j22 o_weeksReader_steps_cells_j22 o_weeksReader_opened_j22 H locs ls hf hP hD hS hl
    unfold X11_weeks_j22 at hf
    refine lv_aload_n hx hb dX11_weeks_22 rfl (lv_at hl 0 rfl) ?_
    refine lv_iconst (v := 1) hx hb dX11_weeks_23 (by decide) ?_
    obtain ⟨u24, hu24, hf⟩ := bd hf
    refine callVI (wn := (wd_X11_weeks E a_o a_o_city a_o_ahead a_o_marks a_o_tape a_o_cityReader a_o_weeksReader a_o_trays a_o_planner a_o_ruler a_o_life a_o_latestLife a_o_city_streets a_o_city_names a_o_city_extras a_o_city_happenings a_o_city_watchers a_o_city_weeks a_o_city_names_codes a_o_city_names_sorts a_o_city_names_numbers a_o_city_weeks_cells a_o_tape_text a_o_weeksReader_steps a_o_weeksReader_opened a_o_weeksReader_steps_cells o_marked o_wasLived o_wasParsed_j22 o_faultKind_j22 o_faultPlace_j22 u24.2 o_fractionTop o_fractionBottom o_city_wage o_city_delay o_city_odds o_city_clock o_city_hasWeeks_j22 o_city_names_many o_city_names_codes o_city_names_sorts o_city_names_numbers o_city_weeks_many_j22 o_city_weeks_cells_j22 o_tape_held_j22 o_tape_length_j22 o_tape_place_j22 o_tape_next_j22 o_tape_sort_j22 o_tape_value_j22 o_tape_code_j22 o_tape_fault_j22 o_tape_faultPlace_j22 o_tape_text o_weeksReader_depth_j22 o_weeksReader_steps_many_j22 o_weeksReader_steps_cells_j22 o_weeksReader_opened_j22)) (n1 := 14) (ct_X11_none l E a_o a_o_city a_o_ahead a_o_marks a_o_tape a_o_cityReader a_o_weeksReader a_o_trays a_o_planner a_o_ruler a_o_life a_o_latestLife o_marked o_wasLived o_wasParsed_j22 o_faultKind_j22 o_faultPlace_j22 o_latestStatus_j22 o_fractionTop o_fractionBottom (1 : Int32) u24 hu24) [0] cal_X11_none cav_X11_none lk_X11_119 cx hP hD hS hl dX11_weeks_24 rfl rfl rfl rfl (Nat.le_of_ble_eq_true rfl) ⟨Nat.le_of_ble_eq_true rfl, Nat.le_of_ble_eq_true rfl⟩ rfl (by decide +kernel) rfl [some 0, none, none, none, none, none, none, none, none, none, none, none, none, none] rfl (by decide +kernel) rfl (fun H locs hP hD hS => ?_)
    obtain rfl := Option.some.inj hf
    subst hq
    exact retI cx hP hD hS dX11_weeks_27
  unfold X11_weeks at hf
  refine lv_iload_n hx hb dX11_weeks_0 rfl (lv_at hl 1 rfl) ?_
  refine lv_iconst (v := 0) hx hb dX11_weeks_1 (by decide) ?_
  refine lv_aload_n hx hb dX11_weeks_2 rfl (lv_at hl 0 rfl) ?_
  refine va_get (D := E.1) (ci := 11) (v := .ref a_o_tape) (C := RX11) (T := TX11) (N := 19) hx hb hts inX11 hown hK hP 0 rfl rfl 4 (by decide) (hts _ fl_X11_26) (fun _ h9 => h9) rfl dX11_weeks_3 ?_
  refine va_get (D := E.1) (ci := 8) (v := .int o_tape_held) (C := RX8) (T := TX8) (N := 10) hx hb hts inX8 hown hK hP 8 rfl rfl 1 (by decide) (hts _ fl_X11_147) (fun _ h9 => h9) rfl dX11_weeks_6 ?_
  obtain ⟨u9, hu9, hf⟩ := bd hf
  refine keepSI (ct_X11_within l E v1 (0 : Int32) o_tape_held u9 hu9) [] cal_X11_within sta_X11_within lk_X11_96 cx hP hD hS hl dX11_weeks_9 rfl rfl (Nat.le_of_ble_eq_true rfl) ⟨Nat.le_of_ble_eq_true rfl, Nat.le_of_ble_eq_true rfl⟩ rfl (by decide) (fun H locs hP hS => ?_)
  refine lv_if_eq (tgt := 22) hx hb dX11_weeks_12 (by decide) (fun hc => ?_) (fun hc => ?_)
  · have hf := it_t hc hf
    exact hj22 _ _ _ _ _ _ _ _ _ _ _ _ _ _ _ _ _ _ _ _ _ _ _ hf hP hD hS (lv_sub hl [0] rfl)
  · have hf := it_f hc hf
    refine lv_iload_n hx hb dX11_weeks_15 rfl (lv_at hl 1 rfl) ?_
    refine lv_sipush (v := 300) hx hb dX11_weeks_16 (by decide) ?_
    refine lv_icmp_le (tgt := 28) hx hb dX11_weeks_19 (by decide) (fun hc => ?_) (fun hc => ?_)
    · have hf := it_t hc hf
      refine lv_aload_n hx hb dX11_weeks_28 rfl (lv_at hl 0 rfl) ?_
      refine va_get (D := E.1) (ci := 11) (v := .ref a_o_weeksReader) (C := RX11) (T := TX11) (N := 19) hx hb hts inX11 hown hK hP 0 rfl rfl 6 (by decide) (hts _ fl_X11_42) (fun _ h9 => h9) rfl dX11_weeks_29 ?_
      refine lv_iload_n hx hb dX11_weeks_32 rfl (lv_at hl 1 rfl) ?_
      refine lv_aload_n hx hb dX11_weeks_33 rfl (lv_at hl 0 rfl) ?_
      refine va_get (D := E.1) (ci := 11) (v := .ref a_o_city) (C := RX11) (T := TX11) (N := 19) hx hb hts inX11 hown hK hP 0 rfl rfl 0 (by decide) (hts _ fl_X11_10) (fun _ h9 => h9) rfl dX11_weeks_34 ?_
      refine va_get (D := E.1) (ci := 0) (v := .ref a_o_city_names) (C := RX0) (T := TX0) (N := 11) hx hb hts inX0 hown hK hP 1 rfl rfl 6 (by decide) (hts _ fl_X11_175) (fun _ h9 => h9) rfl dX11_weeks_37 ?_
      obtain ⟨u40, hu40, hf⟩ := bd hf
      refine callVI (wn := (wd_X11_weeks E a_o a_o_city a_o_ahead a_o_marks a_o_tape a_o_cityReader a_o_weeksReader a_o_trays a_o_planner a_o_ruler a_o_life a_o_latestLife a_o_city_streets a_o_city_names a_o_city_extras a_o_city_happenings a_o_city_watchers a_o_city_weeks a_o_city_names_codes a_o_city_names_sorts a_o_city_names_numbers a_o_city_weeks_cells a_o_tape_text a_o_weeksReader_steps a_o_weeksReader_opened a_o_weeksReader_steps_cells o_marked o_wasLived o_wasParsed o_faultKind o_faultPlace o_latestStatus o_fractionTop o_fractionBottom o_city_wage o_city_delay o_city_odds o_city_clock o_city_hasWeeks o_city_names_many o_city_names_codes o_city_names_sorts o_city_names_numbers o_city_weeks_many o_city_weeks_cells (u40.1 2) (u40.1 3) (u40.1 4) (u40.1 5) (u40.1 6) (u40.1 7) (u40.2.1 0) (u40.1 8) (u40.1 9) o_tape_text (u40.1 1) (u40.1 10) (u40.2.2.1 0) (u40.2.2.1 1))) (n1 := 14) (ct_X10_parse l E F a_o_weeksReader a_o_tape a_o_weeksReader_steps a_o_weeksReader_opened a_o_tape_text a_o_weeksReader_steps_cells a_o_city_names a_o_city_names_codes a_o_city_names_sorts a_o_city_names_numbers o_weeksReader_depth o_tape_held o_tape_length o_tape_place o_tape_next o_tape_sort o_tape_value o_tape_code o_tape_fault o_tape_faultPlace o_tape_text o_weeksReader_steps_many o_weeksReader_steps_cells o_weeksReader_opened o_city_names_many o_city_names_codes o_city_names_sorts o_city_names_numbers v1 u40 hu40) [10, 8, 9, 11, 12, 13, 2, 3, 4, 5] cal_X10_parse cav_X10_parse lk_X11_179 cx hP hD hS hl dX11_weeks_40 rfl rfl rfl rfl (Nat.le_of_ble_eq_true rfl) ⟨Nat.le_of_ble_eq_true rfl, Nat.le_of_ble_eq_true rfl⟩ rfl (by decide +kernel) rfl [none, none, some 6, some 7, some 8, some 9, none, none, some 1, some 2, some 0, some 3, some 4, some 5] rfl (by decide +kernel) rfl (fun H locs hP hD hS => ?_)
      refine lv_istore_n (lv' := [(2, .int (u40.1 0)), (0, .ref a_o), (1, .int v1)]) hx hb dX11_weeks_43 rfl hl (by decide) rfl (fun ls hl => ?_)
      refine lv_aload_n hx hb dX11_weeks_44 rfl (lv_at hl 1 rfl) ?_
      obtain ⟨u45, hu45, hf⟩ := bd hf
      refine callVV (wn := (wd_X11_weeks E a_o a_o_city a_o_ahead a_o_marks a_o_tape a_o_cityReader a_o_weeksReader a_o_trays a_o_planner a_o_ruler a_o_life a_o_latestLife a_o_city_streets a_o_city_names a_o_city_extras a_o_city_happenings a_o_city_watchers a_o_city_weeks a_o_city_names_codes a_o_city_names_sorts a_o_city_names_numbers a_o_city_weeks_cells a_o_tape_text a_o_weeksReader_steps a_o_weeksReader_opened a_o_weeksReader_steps_cells o_marked o_wasLived u45.1 u45.2.1 u45.2.2 o_latestStatus o_fractionTop o_fractionBottom o_city_wage o_city_delay o_city_odds o_city_clock o_city_hasWeeks o_city_names_many o_city_names_codes o_city_names_sorts o_city_names_numbers o_city_weeks_many o_city_weeks_cells (u40.1 2) (u40.1 3) (u40.1 4) (u40.1 5) (u40.1 6) (u40.1 7) (u40.2.1 0) (u40.1 8) (u40.1 9) o_tape_text (u40.1 1) (u40.1 10) (u40.2.2.1 0) (u40.2.2.1 1))) (n1 := 14) (ct_X11_keepFault l E a_o a_o_city a_o_ahead a_o_marks a_o_tape a_o_cityReader a_o_weeksReader a_o_trays a_o_planner a_o_ruler a_o_life a_o_latestLife a_o_tape_text o_marked o_wasLived o_wasParsed o_faultKind o_faultPlace o_latestStatus o_fractionTop o_fractionBottom (u40.1 2) (u40.1 3) (u40.1 4) (u40.1 5) (u40.1 6) (u40.1 7) (u40.2.1 0) (u40.1 8) (u40.1 9) u45 hu45) [0, 8] cal_X11_keepFault cav_X11_keepFault lk_X11_153 cx hP hD hS hl dX11_weeks_45 rfl rfl rfl rfl (Nat.le_of_ble_eq_true rfl) ⟨Nat.le_of_ble_eq_true rfl, Nat.le_of_ble_eq_true rfl⟩ rfl (by decide +kernel) rfl [some 0, none, none, none, none, none, none, none, some 1, none, none, none, none, none] rfl (by decide +kernel) rfl (fun H locs hP hD hS => ?_)
      refine lv_iload_n hx hb dX11_weeks_48 rfl (lv_at hl 0 rfl) ?_
      refine lv_if_ne (tgt := 59) hx hb dX11_weeks_49 (by decide) (fun hc => ?_) (fun hc => ?_)
      · have hf := it_f hc hf
        refine lv_aload_n hx hb dX11_weeks_59 rfl (lv_at hl 1 rfl) ?_
        refine va_get (D := E.1) (ci := 11) (v := .ref a_o_city) (C := RX11) (T := TX11) (N := 19) hx hb hts inX11 hown hK hP 0 rfl rfl 0 (by decide) (hts _ fl_X11_10) (fun _ h9 => h9) rfl dX11_weeks_60 ?_
        refine va_get (D := E.1) (ci := 0) (v := .ref a_o_city_weeks) (C := RX0) (T := TX0) (N := 11) hx hb hts inX0 hown hK hP 1 rfl rfl 10 (by decide) (hts _ fl_X11_182) (fun _ h9 => h9) rfl dX11_weeks_63 ?_
        refine lv_aload_n hx hb dX11_weeks_66 rfl (lv_at hl 1 rfl) ?_
        refine va_get (D := E.1) (ci := 11) (v := .ref a_o_weeksReader) (C := RX11) (T := TX11) (N := 19) hx hb hts inX11 hown hK hP 0 rfl rfl 6 (by decide) (hts _ fl_X11_42) (fun _ h9 => h9) rfl dX11_weeks_67 ?_
        refine va_get (D := E.1) (ci := 10) (v := .ref a_o_weeksReader_steps) (C := RX10) (T := TX10) (N := 4) hx hb hts inX10 hown hK hP 10 rfl rfl 1 (by decide) (hts _ fl_X11_186) (fun _ h9 => h9) rfl dX11_weeks_70 ?_
        obtain ⟨u73, hu73, hf⟩ := bd hf
        refine callVV (wn := (wd_X11_weeks E a_o a_o_city a_o_ahead a_o_marks a_o_tape a_o_cityReader a_o_weeksReader a_o_trays a_o_planner a_o_ruler a_o_life a_o_latestLife a_o_city_streets a_o_city_names a_o_city_extras a_o_city_happenings a_o_city_watchers a_o_city_weeks a_o_city_names_codes a_o_city_names_sorts a_o_city_names_numbers a_o_city_weeks_cells a_o_tape_text a_o_weeksReader_steps a_o_weeksReader_opened a_o_weeksReader_steps_cells o_marked o_wasLived u45.1 u45.2.1 u45.2.2 o_latestStatus o_fractionTop o_fractionBottom o_city_wage o_city_delay o_city_odds o_city_clock o_city_hasWeeks o_city_names_many o_city_names_codes o_city_names_sorts o_city_names_numbers u73.1 u73.2 (u40.1 2) (u40.1 3) (u40.1 4) (u40.1 5) (u40.1 6) (u40.1 7) (u40.2.1 0) (u40.1 8) (u40.1 9) o_tape_text (u40.1 1) (u40.1 10) (u40.2.2.1 0) (u40.2.2.1 1))) (n1 := 14) (ct_X7_copyFrom l E a_o_city_weeks a_o_city_weeks_cells a_o_weeksReader_steps a_o_weeksReader_steps_cells 180 180 6 o_city_weeks_many o_city_weeks_cells 6 (u40.1 10) (u40.2.2.1 0) u73 hu73) [6, 7, 11, 12] cal_X7_copyFrom cav_X7_copyFrom lk_X11_189 cx hP hD hS hl dX11_weeks_73 rfl rfl rfl rfl (Nat.le_of_ble_eq_true rfl) ⟨Nat.le_of_ble_eq_true rfl, Nat.le_of_ble_eq_true rfl⟩ rfl (by decide +kernel) rfl [none, none, none, none, none, none, some 0, some 1, none, none, none, some 2, some 3, none] rfl (by decide +kernel) rfl (fun H locs hP hD hS => ?_)
        refine lv_aload_n hx hb dX11_weeks_76 rfl (lv_at hl 1 rfl) ?_
        refine va_get (D := E.1) (ci := 11) (v := .ref a_o_city) (C := RX11) (T := TX11) (N := 19) hx hb hts inX11 hown hK hP 0 rfl rfl 0 (by decide) (hts _ fl_X11_10) (fun _ h9 => h9) rfl dX11_weeks_77 ?_
        refine lv_iconst (v := 1) hx hb dX11_weeks_80 (by decide) ?_
        refine va_put (D := E.1) (ci := 0) (v := .int 1) (ty := .boolean) (C := RX0) (T := TX0) (N := 11) hx hb hts inX0 tyX0 tyX0_ok nmX0 hown hK hP hD hS 1 rfl rfl 4 (by decide) (hts _ fl_X11_194) (fun _ h9 => h9) rfl (by decide +kernel) rfl rfl (Nat.le_of_ble_eq_true rfl) dX11_weeks_81 (fun H locs hP hD hS => ?_)
        have hP : va_P E.1 vwCl (wd_X11_weeks E a_o a_o_city a_o_ahead a_o_marks a_o_tape a_o_cityReader a_o_weeksReader a_o_trays a_o_planner a_o_ruler a_o_life a_o_latestLife a_o_city_streets a_o_city_names a_o_city_extras a_o_city_happenings a_o_city_watchers a_o_city_weeks a_o_city_names_codes a_o_city_names_sorts a_o_city_names_numbers a_o_city_weeks_cells a_o_tape_text a_o_weeksReader_steps a_o_weeksReader_opened a_o_weeksReader_steps_cells o_marked o_wasLived u45.1 u45.2.1 u45.2.2 o_latestStatus o_fractionTop o_fractionBottom o_city_wage o_city_delay o_city_odds o_city_clock 1 o_city_names_many o_city_names_codes o_city_names_sorts o_city_names_numbers u73.1 u73.2 (u40.1 2) (u40.1 3) (u40.1 4) (u40.1 5) (u40.1 6) (u40.1 7) (u40.2.1 0) (u40.1 8) (u40.1 9) o_tape_text (u40.1 1) (u40.1 10) (u40.2.2.1 0) (u40.2.2.1 1)) H := hP
        have hD : va_D A (wd_X11_weeks E a_o a_o_city a_o_ahead a_o_marks a_o_tape a_o_cityReader a_o_weeksReader a_o_trays a_o_planner a_o_ruler a_o_life a_o_latestLife a_o_city_streets a_o_city_names a_o_city_extras a_o_city_happenings a_o_city_watchers a_o_city_weeks a_o_city_names_codes a_o_city_names_sorts a_o_city_names_numbers a_o_city_weeks_cells a_o_tape_text a_o_weeksReader_steps a_o_weeksReader_opened a_o_weeksReader_steps_cells o_marked o_wasLived u45.1 u45.2.1 u45.2.2 o_latestStatus o_fractionTop o_fractionBottom o_city_wage o_city_delay o_city_odds o_city_clock 1 o_city_names_many o_city_names_codes o_city_names_sorts o_city_names_numbers u73.1 u73.2 (u40.1 2) (u40.1 3) (u40.1 4) (u40.1 5) (u40.1 6) (u40.1 7) (u40.2.1 0) (u40.1 8) (u40.1 9) o_tape_text (u40.1 1) (u40.1 10) (u40.2.2.1 0) (u40.2.2.1 1)) := hD
        refine lv_aload_n hx hb dX11_weeks_84 rfl (lv_at hl 1 rfl) ?_
        refine lv_aload_n hx hb dX11_weeks_85 rfl (lv_at hl 1 rfl) ?_
        refine va_get (D := E.1) (ci := 11) (v := .ref a_o_city) (C := RX11) (T := TX11) (N := 19) hx hb hts inX11 hown hK hP 0 rfl rfl 0 (by decide) (hts _ fl_X11_10) (fun _ h9 => h9) rfl dX11_weeks_86 ?_
        refine va_get (D := E.1) (ci := 0) (v := .ref a_o_city_weeks) (C := RX0) (T := TX0) (N := 11) hx hb hts inX0 hown hK hP 1 rfl rfl 10 (by decide) (hts _ fl_X11_182) (fun _ h9 => h9) rfl dX11_weeks_89 ?_
        refine va_get (D := E.1) (ci := 7) (v := .int u73.1) (C := RX7) (T := TX7) (N := 3) hx hb hts inX7 hown hK hP 6 rfl rfl 2 (by decide) (hts _ fl_X11_198) (fun _ h9 => h9) rfl dX11_weeks_92 ?_
        obtain ⟨u95, hu95, hf⟩ := bd hf
        refine callVI (wn := (wd_X11_weeks E a_o a_o_city a_o_ahead a_o_marks a_o_tape a_o_cityReader a_o_weeksReader a_o_trays a_o_planner a_o_ruler a_o_life a_o_latestLife a_o_city_streets a_o_city_names a_o_city_extras a_o_city_happenings a_o_city_watchers a_o_city_weeks a_o_city_names_codes a_o_city_names_sorts a_o_city_names_numbers a_o_city_weeks_cells a_o_tape_text a_o_weeksReader_steps a_o_weeksReader_opened a_o_weeksReader_steps_cells o_marked o_wasLived u45.1 u45.2.1 u45.2.2 u95.2 o_fractionTop o_fractionBottom o_city_wage o_city_delay o_city_odds o_city_clock 1 o_city_names_many o_city_names_codes o_city_names_sorts o_city_names_numbers u73.1 u73.2 (u40.1 2) (u40.1 3) (u40.1 4) (u40.1 5) (u40.1 6) (u40.1 7) (u40.2.1 0) (u40.1 8) (u40.1 9) o_tape_text (u40.1 1) (u40.1 10) (u40.2.2.1 0) (u40.2.2.1 1))) (n1 := 14) (ct_X11_answer l E a_o a_o_city a_o_ahead a_o_marks a_o_tape a_o_cityReader a_o_weeksReader a_o_trays a_o_planner a_o_ruler a_o_life a_o_latestLife o_marked o_wasLived u45.1 u45.2.1 u45.2.2 o_latestStatus o_fractionTop o_fractionBottom u73.1 u95 hu95) [0] cal_X11_answer cav_X11_answer lk_X11_172 cx hP hD hS hl dX11_weeks_95 rfl rfl rfl rfl (Nat.le_of_ble_eq_true rfl) ⟨Nat.le_of_ble_eq_true rfl, Nat.le_of_ble_eq_true rfl⟩ rfl (by decide +kernel) rfl [some 0, none, none, none, none, none, none, none, none, none, none, none, none, none] rfl (by decide +kernel) rfl (fun H locs hP hD hS => ?_)
        obtain rfl := Option.some.inj hf
        subst hq
        exact retI cx hP hD hS dX11_weeks_98
      · have hf := it_t hc hf
        refine lv_aload_n hx hb dX11_weeks_52 rfl (lv_at hl 1 rfl) ?_
        refine lv_bipush (v := 9) hx hb dX11_weeks_53 (by decide) ?_
        obtain ⟨u55, hu55, hf⟩ := bd hf
        refine callVI (wn := (wd_X11_weeks E a_o a_o_city a_o_ahead a_o_marks a_o_tape a_o_cityReader a_o_weeksReader a_o_trays a_o_planner a_o_ruler a_o_life a_o_latestLife a_o_city_streets a_o_city_names a_o_city_extras a_o_city_happenings a_o_city_watchers a_o_city_weeks a_o_city_names_codes a_o_city_names_sorts a_o_city_names_numbers a_o_city_weeks_cells a_o_tape_text a_o_weeksReader_steps a_o_weeksReader_opened a_o_weeksReader_steps_cells o_marked o_wasLived u45.1 u45.2.1 u45.2.2 u55.2 o_fractionTop o_fractionBottom o_city_wage o_city_delay o_city_odds o_city_clock o_city_hasWeeks o_city_names_many o_city_names_codes o_city_names_sorts o_city_names_numbers o_city_weeks_many o_city_weeks_cells (u40.1 2) (u40.1 3) (u40.1 4) (u40.1 5) (u40.1 6) (u40.1 7) (u40.2.1 0) (u40.1 8) (u40.1 9) o_tape_text (u40.1 1) (u40.1 10) (u40.2.2.1 0) (u40.2.2.1 1))) (n1 := 14) (ct_X11_none l E a_o a_o_city a_o_ahead a_o_marks a_o_tape a_o_cityReader a_o_weeksReader a_o_trays a_o_planner a_o_ruler a_o_life a_o_latestLife o_marked o_wasLived u45.1 u45.2.1 u45.2.2 o_latestStatus o_fractionTop o_fractionBottom (9 : Int32) u55 hu55) [0] cal_X11_none cav_X11_none lk_X11_119 cx hP hD hS hl dX11_weeks_55 rfl rfl rfl rfl (Nat.le_of_ble_eq_true rfl) ⟨Nat.le_of_ble_eq_true rfl, Nat.le_of_ble_eq_true rfl⟩ rfl (by decide +kernel) rfl [some 0, none, none, none, none, none, none, none, none, none, none, none, none, none] rfl (by decide +kernel) rfl (fun H locs hP hD hS => ?_)
        obtain rfl := Option.some.inj hf
        subst hq
        exact retI cx hP hD hS dX11_weeks_58
    · have hf := it_f hc hf
      exact hj22 _ _ _ _ _ _ _ _ _ _ _ _ _ _ _ _ _ _ _ _ _ _ _ hf hP hD hS (lv_sub hl [0] rfl)
def X11_fault (o_wasParsed : Int32) (o_faultKind : Int32) (o_faultPlace : Int32) (v1 : Int32) : Option (Int32) :=
  if o_wasParsed = 0 then
  some (-1)
  else
  if v1 = 0 then
  some o_faultKind
  else
  if v1 = 1 then
  some o_faultPlace
  else
  some (-1)
abbrev wd_X11_fault (E : vE) (a_o a_o_city a_o_ahead a_o_marks a_o_tape a_o_cityReader a_o_weeksReader a_o_trays a_o_planner a_o_ruler a_o_life a_o_latestLife : Nat) (o_marked : Int32) (o_wasLived : Int32) (o_wasParsed : Int32) (o_faultKind : Int32) (o_faultPlace : Int32) (o_latestStatus : Int32) (o_fractionTop : Int64) (o_fractionBottom : Int64) : va_W := [(a_o, .inr (11, [.ref a_o_city, .ref a_o_ahead, .ref a_o_marks, .int o_marked, .ref a_o_tape, .ref a_o_cityReader, .ref a_o_weeksReader, .ref a_o_trays, .ref a_o_planner, .ref a_o_ruler, .ref a_o_life, .ref a_o_latestLife, .int o_wasLived, .int o_wasParsed, .int o_faultKind, .int o_faultPlace, .int o_latestStatus, .long o_fractionTop, .long o_fractionBottom]))]
set_option maxHeartbeats 4000000 in
set_option maxRecDepth 100000 in
theorem ct_X11_fault (l : Launch) (E : vE) (a_o a_o_city a_o_ahead a_o_marks a_o_tape a_o_cityReader a_o_weeksReader a_o_trays a_o_planner a_o_ruler a_o_life a_o_latestLife : Nat) (o_marked : Int32) (o_wasLived : Int32) (o_wasParsed : Int32) (o_faultKind : Int32) (o_faultPlace : Int32) (o_latestStatus : Int32) (o_fractionTop : Int64) (o_fractionBottom : Int64) (v1 : Int32) (u : Int32) (hf : X11_fault o_wasParsed o_faultKind o_faultPlace v1 = some u) :
    CtI l yX11_fault cX11_fault 2 (some .int) 0 E [.ref a_o, .int v1] (wd_X11_fault E a_o a_o_city a_o_ahead a_o_marks a_o_tape a_o_cityReader a_o_weeksReader a_o_trays a_o_planner a_o_ruler a_o_life a_o_latestLife o_marked o_wasLived o_wasParsed o_faultKind o_faultPlace o_latestStatus o_fractionTop o_fractionBottom) (wd_X11_fault E a_o a_o_city a_o_ahead a_o_marks a_o_tape a_o_cityReader a_o_weeksReader a_o_trays a_o_planner a_o_ruler a_o_life a_o_latestLife o_marked o_wasLived o_wasParsed o_faultKind o_faultPlace o_latestStatus o_fractionTop o_fractionBottom) u := by
  refine ctI (by decide) (Nat.le_of_ble_eq_true rfl) ?_
  intro p e s m below meth cd A ls aa QQ hq cx hP hD hS hl
  obtain ⟨⟨hx, hb, hml, hown, hts⟩, hr, hlocks, hK, hA, hX⟩ := id cx
  have hl : lv_has ls 2 [(0, .ref a_o), (1, .int v1)] := hl
  unfold X11_fault at hf
  refine lv_aload_n hx hb dX11_fault_0 rfl (lv_at hl 0 rfl) ?_
  refine va_get (D := E.1) (ci := 11) (v := .int o_wasParsed) (C := RX11) (T := TX11) (N := 19) hx hb hts inX11 hown hK hP 0 rfl rfl 13 (by decide) (hts _ fl_X11_201) (fun _ h9 => h9) rfl dX11_fault_1 ?_
  refine lv_if_ne (tgt := 9) hx hb dX11_fault_4 (by decide) (fun hc => ?_) (fun hc => ?_)
  · have hf := it_f hc hf
    refine lv_iload_n hx hb dX11_fault_9 rfl (lv_at hl 1 rfl) ?_
    refine lv_if_ne (tgt := 18) hx hb dX11_fault_10 (by decide) (fun hc => ?_) (fun hc => ?_)
    · have hf := it_f hc hf
      refine lv_iload_n hx hb dX11_fault_18 rfl (lv_at hl 1 rfl) ?_
      refine lv_iconst (v := 1) hx hb dX11_fault_19 (by decide) ?_
      refine lv_icmp_ne (tgt := 30) hx hb dX11_fault_20 (by decide) (fun hc => ?_) (fun hc => ?_)
      · have hf := it_f hc hf
        refine lv_iconst (v := (-1)) hx hb dX11_fault_30 (by decide) ?_
        obtain rfl := Option.some.inj hf
        subst hq
        exact retI cx hP hD hS dX11_fault_31
      · have hf := it_t hc hf
        refine lv_aload_n hx hb dX11_fault_23 rfl (lv_at hl 0 rfl) ?_
        refine va_get (D := E.1) (ci := 11) (v := .int o_faultPlace) (C := RX11) (T := TX11) (N := 19) hx hb hts inX11 hown hK hP 0 rfl rfl 15 (by decide) (hts _ fl_X11_78) (fun _ h9 => h9) rfl dX11_fault_24 ?_
        refine lv_goto (tgt := 31) hx hb dX11_fault_27 (by decide) ?_
        obtain rfl := Option.some.inj hf
        subst hq
        exact retI cx hP hD hS dX11_fault_31
    · have hf := it_t hc hf
      refine lv_aload_n hx hb dX11_fault_13 rfl (lv_at hl 0 rfl) ?_
      refine va_get (D := E.1) (ci := 11) (v := .int o_faultKind) (C := RX11) (T := TX11) (N := 19) hx hb hts inX11 hown hK hP 0 rfl rfl 14 (by decide) (hts _ fl_X11_204) (fun _ h9 => h9) rfl dX11_fault_14 ?_
      obtain rfl := Option.some.inj hf
      subst hq
      exact retI cx hP hD hS dX11_fault_17
  · have hf := it_t hc hf
    refine lv_iconst (v := (-1)) hx hb dX11_fault_7 (by decide) ?_
    obtain rfl := Option.some.inj hf
    subst hq
    exact retI cx hP hD hS dX11_fault_8
def X11_told (F : Nat) (o_latestStatus : Int32) (o_city_wage : Int32) (o_city_delay : Int32) (o_city_odds : Int32) (o_city_clock : Int32) (o_city_streets_corners : Int32) (o_city_streets_roads_many : Int32) (o_city_extras_many : Int32) (o_city_extras_cells : Nat → Int32) (o_city_happenings_many : Int32) (o_city_happenings_cells : Nat → Int32) (o_city_watchers_many : Int32) (v1 : Int32) : Option (Int32 × Int32) :=
  if v1 = 0 then
  (X11_answer o_latestStatus o_city_streets_corners).bind fun u83 =>
  some (u83.1, u83.2)
  else if v1 = 1 then
  (X11_answer o_latestStatus o_city_streets_roads_many).bind fun u101 =>
  some (u101.1, u101.2)
  else if v1 = 2 then
  (X11_answer o_latestStatus o_city_extras_many).bind fun u116 =>
  some (u116.1, u116.2)
  else if v1 = 3 then
  (X11_answer o_latestStatus o_city_happenings_many).bind fun u131 =>
  some (u131.1, u131.2)
  else if v1 = 4 then
  (X11_answer o_latestStatus o_city_watchers_many).bind fun u146 =>
  some (u146.1, u146.2)
  else if v1 = 5 then
  (X11_answer o_latestStatus o_city_wage).bind fun u158 =>
  some (u158.1, u158.2)
  else if v1 = 6 then
  (X11_answer o_latestStatus o_city_delay).bind fun u170 =>
  some (u170.1, u170.2)
  else if v1 = 7 then
  (X11_answer o_latestStatus o_city_odds).bind fun u182 =>
  some (u182.1, u182.2)
  else if v1 = 8 then
  (X11_answer o_latestStatus o_city_clock).bind fun u194 =>
  some (u194.1, u194.2)
  else if v1 = 9 then
  (X0_withFate F o_city_happenings_many o_city_happenings_cells (0 : Int32)).bind fun u204 =>
  (X11_answer o_latestStatus u204).bind fun u207 =>
  some (u207.1, u207.2)
  else if v1 = 10 then
  (X0_withFate F o_city_happenings_many o_city_happenings_cells (1 : Int32)).bind fun u217 =>
  (X11_answer o_latestStatus u217).bind fun u220 =>
  some (u220.1, u220.2)
  else if v1 = 11 then
  (X0_withFate F o_city_happenings_many o_city_happenings_cells (2 : Int32)).bind fun u230 =>
  (X11_answer o_latestStatus u230).bind fun u233 =>
  some (u233.1, u233.2)
  else if v1 = 12 then
  (X0_onRoads F o_city_extras_many o_city_extras_cells).bind fun u242 =>
  (X11_answer o_latestStatus u242).bind fun u245 =>
  some (u245.1, u245.2)
  else if v1 = 13 then
  (X7_sum F 35 5 o_city_extras_many o_city_extras_cells (3 : Int32)).bind fun u258 =>
  (X11_answer o_latestStatus u258).bind fun u261 =>
  some (u261.1, u261.2)
  else (X11_none o_latestStatus (1 : Int32)).bind fun u267 =>
  some (u267.1, u267.2)
abbrev wd_X11_told (E : vE) (a_o a_o_city a_o_ahead a_o_marks a_o_tape a_o_cityReader a_o_weeksReader a_o_trays a_o_planner a_o_ruler a_o_life a_o_latestLife a_o_city_streets a_o_city_names a_o_city_extras a_o_city_happenings a_o_city_watchers a_o_city_weeks a_o_city_streets_roads a_o_city_streets_takes a_o_city_streets_hours a_o_city_streets_roads_cells a_o_city_extras_cells a_o_city_happenings_cells a_o_city_watchers_cells : Nat) (o_marked : Int32) (o_wasLived : Int32) (o_wasParsed : Int32) (o_faultKind : Int32) (o_faultPlace : Int32) (o_latestStatus : Int32) (o_fractionTop : Int64) (o_fractionBottom : Int64) (o_city_wage : Int32) (o_city_delay : Int32) (o_city_odds : Int32) (o_city_clock : Int32) (o_city_hasWeeks : Int32) (o_city_streets_corners : Int32) (o_city_streets_roads_many : Int32) (o_city_extras_many : Int32) (o_city_extras_cells : Nat → Int32) (o_city_happenings_many : Int32) (o_city_happenings_cells : Nat → Int32) (o_city_watchers_many : Int32) : va_W := [(a_o, .inr (11, [.ref a_o_city, .ref a_o_ahead, .ref a_o_marks, .int o_marked, .ref a_o_tape, .ref a_o_cityReader, .ref a_o_weeksReader, .ref a_o_trays, .ref a_o_planner, .ref a_o_ruler, .ref a_o_life, .ref a_o_latestLife, .int o_wasLived, .int o_wasParsed, .int o_faultKind, .int o_faultPlace, .int o_latestStatus, .long o_fractionTop, .long o_fractionBottom])), (a_o_city, .inr (0, [.int o_city_wage, .int o_city_delay, .int o_city_odds, .int o_city_clock, .int o_city_hasWeeks, .ref a_o_city_streets, .ref a_o_city_names, .ref a_o_city_extras, .ref a_o_city_happenings, .ref a_o_city_watchers, .ref a_o_city_weeks])), (a_o_city_streets, .inr (6, [.int o_city_streets_corners, .ref a_o_city_streets_roads, .ref a_o_city_streets_takes, .ref a_o_city_streets_hours])), (a_o_city_streets_roads, .inr (7, [.int 2, .ref a_o_city_streets_roads_cells, .int o_city_streets_roads_many])), (a_o_city_extras, .inr (7, [.int 5, .ref a_o_city_extras_cells, .int o_city_extras_many])), (a_o_city_extras_cells, .inl (E.2.1, 35, .inl o_city_extras_cells)), (a_o_city_happenings, .inr (7, [.int 5, .ref a_o_city_happenings_cells, .int o_city_happenings_many])), (a_o_city_happenings_cells, .inl (E.2.1, 40, .inl o_city_happenings_cells)), (a_o_city_watchers, .inr (7, [.int 3, .ref a_o_city_watchers_cells, .int o_city_watchers_many]))]
set_option maxHeartbeats 4000000 in
set_option maxRecDepth 100000 in
theorem ct_X11_told (l : Launch) (E : vE) (F : Nat) (a_o a_o_city a_o_ahead a_o_marks a_o_tape a_o_cityReader a_o_weeksReader a_o_trays a_o_planner a_o_ruler a_o_life a_o_latestLife a_o_city_streets a_o_city_names a_o_city_extras a_o_city_happenings a_o_city_watchers a_o_city_weeks a_o_city_streets_roads a_o_city_streets_takes a_o_city_streets_hours a_o_city_streets_roads_cells a_o_city_extras_cells a_o_city_happenings_cells a_o_city_watchers_cells : Nat) (o_marked : Int32) (o_wasLived : Int32) (o_wasParsed : Int32) (o_faultKind : Int32) (o_faultPlace : Int32) (o_latestStatus : Int32) (o_fractionTop : Int64) (o_fractionBottom : Int64) (o_city_wage : Int32) (o_city_delay : Int32) (o_city_odds : Int32) (o_city_clock : Int32) (o_city_hasWeeks : Int32) (o_city_streets_corners : Int32) (o_city_streets_roads_many : Int32) (o_city_extras_many : Int32) (o_city_extras_cells : Nat → Int32) (o_city_happenings_many : Int32) (o_city_happenings_cells : Nat → Int32) (o_city_watchers_many : Int32) (v1 : Int32) (u : Int32 × Int32) (hf : X11_told F o_latestStatus o_city_wage o_city_delay o_city_odds o_city_clock o_city_streets_corners o_city_streets_roads_many o_city_extras_many o_city_extras_cells o_city_happenings_many o_city_happenings_cells o_city_watchers_many v1 = some u) :
    CtI l yX11_told cX11_told 2 (some .int) 3 E [.ref a_o, .int v1] (wd_X11_told E a_o a_o_city a_o_ahead a_o_marks a_o_tape a_o_cityReader a_o_weeksReader a_o_trays a_o_planner a_o_ruler a_o_life a_o_latestLife a_o_city_streets a_o_city_names a_o_city_extras a_o_city_happenings a_o_city_watchers a_o_city_weeks a_o_city_streets_roads a_o_city_streets_takes a_o_city_streets_hours a_o_city_streets_roads_cells a_o_city_extras_cells a_o_city_happenings_cells a_o_city_watchers_cells o_marked o_wasLived o_wasParsed o_faultKind o_faultPlace o_latestStatus o_fractionTop o_fractionBottom o_city_wage o_city_delay o_city_odds o_city_clock o_city_hasWeeks o_city_streets_corners o_city_streets_roads_many o_city_extras_many o_city_extras_cells o_city_happenings_many o_city_happenings_cells o_city_watchers_many) (wd_X11_told E a_o a_o_city a_o_ahead a_o_marks a_o_tape a_o_cityReader a_o_weeksReader a_o_trays a_o_planner a_o_ruler a_o_life a_o_latestLife a_o_city_streets a_o_city_names a_o_city_extras a_o_city_happenings a_o_city_watchers a_o_city_weeks a_o_city_streets_roads a_o_city_streets_takes a_o_city_streets_hours a_o_city_streets_roads_cells a_o_city_extras_cells a_o_city_happenings_cells a_o_city_watchers_cells o_marked o_wasLived o_wasParsed o_faultKind o_faultPlace u.2 o_fractionTop o_fractionBottom o_city_wage o_city_delay o_city_odds o_city_clock o_city_hasWeeks o_city_streets_corners o_city_streets_roads_many o_city_extras_many o_city_extras_cells o_city_happenings_many o_city_happenings_cells o_city_watchers_many) u.1 := by
  refine ctI (by decide) (Nat.le_of_ble_eq_true rfl) ?_
  intro p e s m below meth cd A ls aa QQ hq cx hP hD hS hl
  obtain ⟨⟨hx, hb, hml, hown, hts⟩, hr, hlocks, hK, hA, hX⟩ := id cx
  have hl : lv_has ls 2 [(0, .ref a_o), (1, .int v1)] := hl
  unfold X11_told at hf
  refine lv_iload_n hx hb dX11_told_0 rfl (lv_at hl 1 rfl) ?_
  by_cases hc1 : v1 = 0
  · have hf := it_t hc1 hf
    refine swT (tgt := 72) 0 cx dX11_told_1 (by rw [hc1]; decide) (by decide) rfl (by decide) ?_
    refine lv_aload_n hx hb dX11_told_72 rfl (lv_at hl 0 rfl) ?_
    refine lv_aload_n hx hb dX11_told_73 rfl (lv_at hl 0 rfl) ?_
    refine va_get (D := E.1) (ci := 11) (v := .ref a_o_city) (C := RX11) (T := TX11) (N := 19) hx hb hts inX11 hown hK hP 0 rfl rfl 0 (by decide) (hts _ fl_X11_10) (fun _ h9 => h9) rfl dX11_told_74 ?_
    refine va_get (D := E.1) (ci := 0) (v := .ref a_o_city_streets) (C := RX0) (T := TX0) (N := 11) hx hb hts inX0 hown hK hP 1 rfl rfl 5 (by decide) (hts _ fl_X11_163) (fun _ h9 => h9) rfl dX11_told_77 ?_
    refine va_get (D := E.1) (ci := 6) (v := .int o_city_streets_corners) (C := RX6) (T := TX6) (N := 4) hx hb hts inX6 hown hK hP 2 rfl rfl 0 (by decide) (hts _ fl_X11_167) (fun _ h9 => h9) rfl dX11_told_80 ?_
    obtain ⟨u83, hu83, hf⟩ := bd hf
    refine callVI (wn := (wd_X11_told E a_o a_o_city a_o_ahead a_o_marks a_o_tape a_o_cityReader a_o_weeksReader a_o_trays a_o_planner a_o_ruler a_o_life a_o_latestLife a_o_city_streets a_o_city_names a_o_city_extras a_o_city_happenings a_o_city_watchers a_o_city_weeks a_o_city_streets_roads a_o_city_streets_takes a_o_city_streets_hours a_o_city_streets_roads_cells a_o_city_extras_cells a_o_city_happenings_cells a_o_city_watchers_cells o_marked o_wasLived o_wasParsed o_faultKind o_faultPlace u83.2 o_fractionTop o_fractionBottom o_city_wage o_city_delay o_city_odds o_city_clock o_city_hasWeeks o_city_streets_corners o_city_streets_roads_many o_city_extras_many o_city_extras_cells o_city_happenings_many o_city_happenings_cells o_city_watchers_many)) (n1 := 9) (ct_X11_answer l E a_o a_o_city a_o_ahead a_o_marks a_o_tape a_o_cityReader a_o_weeksReader a_o_trays a_o_planner a_o_ruler a_o_life a_o_latestLife o_marked o_wasLived o_wasParsed o_faultKind o_faultPlace o_latestStatus o_fractionTop o_fractionBottom o_city_streets_corners u83 hu83) [0] cal_X11_answer cav_X11_answer lk_X11_172 cx hP hD hS hl dX11_told_83 rfl rfl rfl rfl (Nat.le_of_ble_eq_true rfl) ⟨Nat.le_of_ble_eq_true rfl, Nat.le_of_ble_eq_true rfl⟩ rfl (by decide +kernel) rfl [some 0, none, none, none, none, none, none, none, none] rfl (by decide +kernel) rfl (fun H locs hP hD hS => ?_)
    obtain rfl := Option.some.inj hf
    subst hq
    exact retI cx hP hD hS dX11_told_86
  · have hf := it_f hc1 hf
    by_cases hc2 : v1 = 1
    · have hf := it_t hc2 hf
      refine swT (tgt := 87) 1 cx dX11_told_1 (by rw [hc2]; decide) (by decide) rfl (by decide) ?_
      refine lv_aload_n hx hb dX11_told_87 rfl (lv_at hl 0 rfl) ?_
      refine lv_aload_n hx hb dX11_told_88 rfl (lv_at hl 0 rfl) ?_
      refine va_get (D := E.1) (ci := 11) (v := .ref a_o_city) (C := RX11) (T := TX11) (N := 19) hx hb hts inX11 hown hK hP 0 rfl rfl 0 (by decide) (hts _ fl_X11_10) (fun _ h9 => h9) rfl dX11_told_89 ?_
      refine va_get (D := E.1) (ci := 0) (v := .ref a_o_city_streets) (C := RX0) (T := TX0) (N := 11) hx hb hts inX0 hown hK hP 1 rfl rfl 5 (by decide) (hts _ fl_X11_163) (fun _ h9 => h9) rfl dX11_told_92 ?_
      refine va_get (D := E.1) (ci := 6) (v := .ref a_o_city_streets_roads) (C := RX6) (T := TX6) (N := 4) hx hb hts inX6 hown hK hP 2 rfl rfl 1 (by decide) (hts _ fl_X11_207) (fun _ h9 => h9) rfl dX11_told_95 ?_
      refine va_get (D := E.1) (ci := 7) (v := .int o_city_streets_roads_many) (C := RX7) (T := TX7) (N := 3) hx hb hts inX7 hown hK hP 3 rfl rfl 2 (by decide) (hts _ fl_X11_198) (fun _ h9 => h9) rfl dX11_told_98 ?_
      obtain ⟨u101, hu101, hf⟩ := bd hf
      refine callVI (wn := (wd_X11_told E a_o a_o_city a_o_ahead a_o_marks a_o_tape a_o_cityReader a_o_weeksReader a_o_trays a_o_planner a_o_ruler a_o_life a_o_latestLife a_o_city_streets a_o_city_names a_o_city_extras a_o_city_happenings a_o_city_watchers a_o_city_weeks a_o_city_streets_roads a_o_city_streets_takes a_o_city_streets_hours a_o_city_streets_roads_cells a_o_city_extras_cells a_o_city_happenings_cells a_o_city_watchers_cells o_marked o_wasLived o_wasParsed o_faultKind o_faultPlace u101.2 o_fractionTop o_fractionBottom o_city_wage o_city_delay o_city_odds o_city_clock o_city_hasWeeks o_city_streets_corners o_city_streets_roads_many o_city_extras_many o_city_extras_cells o_city_happenings_many o_city_happenings_cells o_city_watchers_many)) (n1 := 9) (ct_X11_answer l E a_o a_o_city a_o_ahead a_o_marks a_o_tape a_o_cityReader a_o_weeksReader a_o_trays a_o_planner a_o_ruler a_o_life a_o_latestLife o_marked o_wasLived o_wasParsed o_faultKind o_faultPlace o_latestStatus o_fractionTop o_fractionBottom o_city_streets_roads_many u101 hu101) [0] cal_X11_answer cav_X11_answer lk_X11_172 cx hP hD hS hl dX11_told_101 rfl rfl rfl rfl (Nat.le_of_ble_eq_true rfl) ⟨Nat.le_of_ble_eq_true rfl, Nat.le_of_ble_eq_true rfl⟩ rfl (by decide +kernel) rfl [some 0, none, none, none, none, none, none, none, none] rfl (by decide +kernel) rfl (fun H locs hP hD hS => ?_)
      obtain rfl := Option.some.inj hf
      subst hq
      exact retI cx hP hD hS dX11_told_104
    · have hf := it_f hc2 hf
      by_cases hc3 : v1 = 2
      · have hf := it_t hc3 hf
        refine swT (tgt := 105) 2 cx dX11_told_1 (by rw [hc3]; decide) (by decide) rfl (by decide) ?_
        refine lv_aload_n hx hb dX11_told_105 rfl (lv_at hl 0 rfl) ?_
        refine lv_aload_n hx hb dX11_told_106 rfl (lv_at hl 0 rfl) ?_
        refine va_get (D := E.1) (ci := 11) (v := .ref a_o_city) (C := RX11) (T := TX11) (N := 19) hx hb hts inX11 hown hK hP 0 rfl rfl 0 (by decide) (hts _ fl_X11_10) (fun _ h9 => h9) rfl dX11_told_107 ?_
        refine va_get (D := E.1) (ci := 0) (v := .ref a_o_city_extras) (C := RX0) (T := TX0) (N := 11) hx hb hts inX0 hown hK hP 1 rfl rfl 7 (by decide) (hts _ fl_X11_210) (fun _ h9 => h9) rfl dX11_told_110 ?_
        refine va_get (D := E.1) (ci := 7) (v := .int o_city_extras_many) (C := RX7) (T := TX7) (N := 3) hx hb hts inX7 hown hK hP 4 rfl rfl 2 (by decide) (hts _ fl_X11_198) (fun _ h9 => h9) rfl dX11_told_113 ?_
        obtain ⟨u116, hu116, hf⟩ := bd hf
        refine callVI (wn := (wd_X11_told E a_o a_o_city a_o_ahead a_o_marks a_o_tape a_o_cityReader a_o_weeksReader a_o_trays a_o_planner a_o_ruler a_o_life a_o_latestLife a_o_city_streets a_o_city_names a_o_city_extras a_o_city_happenings a_o_city_watchers a_o_city_weeks a_o_city_streets_roads a_o_city_streets_takes a_o_city_streets_hours a_o_city_streets_roads_cells a_o_city_extras_cells a_o_city_happenings_cells a_o_city_watchers_cells o_marked o_wasLived o_wasParsed o_faultKind o_faultPlace u116.2 o_fractionTop o_fractionBottom o_city_wage o_city_delay o_city_odds o_city_clock o_city_hasWeeks o_city_streets_corners o_city_streets_roads_many o_city_extras_many o_city_extras_cells o_city_happenings_many o_city_happenings_cells o_city_watchers_many)) (n1 := 9) (ct_X11_answer l E a_o a_o_city a_o_ahead a_o_marks a_o_tape a_o_cityReader a_o_weeksReader a_o_trays a_o_planner a_o_ruler a_o_life a_o_latestLife o_marked o_wasLived o_wasParsed o_faultKind o_faultPlace o_latestStatus o_fractionTop o_fractionBottom o_city_extras_many u116 hu116) [0] cal_X11_answer cav_X11_answer lk_X11_172 cx hP hD hS hl dX11_told_116 rfl rfl rfl rfl (Nat.le_of_ble_eq_true rfl) ⟨Nat.le_of_ble_eq_true rfl, Nat.le_of_ble_eq_true rfl⟩ rfl (by decide +kernel) rfl [some 0, none, none, none, none, none, none, none, none] rfl (by decide +kernel) rfl (fun H locs hP hD hS => ?_)
        obtain rfl := Option.some.inj hf
        subst hq
        exact retI cx hP hD hS dX11_told_119
      · have hf := it_f hc3 hf
        by_cases hc4 : v1 = 3
        · have hf := it_t hc4 hf
          refine swT (tgt := 120) 3 cx dX11_told_1 (by rw [hc4]; decide) (by decide) rfl (by decide) ?_
          refine lv_aload_n hx hb dX11_told_120 rfl (lv_at hl 0 rfl) ?_
          refine lv_aload_n hx hb dX11_told_121 rfl (lv_at hl 0 rfl) ?_
          refine va_get (D := E.1) (ci := 11) (v := .ref a_o_city) (C := RX11) (T := TX11) (N := 19) hx hb hts inX11 hown hK hP 0 rfl rfl 0 (by decide) (hts _ fl_X11_10) (fun _ h9 => h9) rfl dX11_told_122 ?_
          refine va_get (D := E.1) (ci := 0) (v := .ref a_o_city_happenings) (C := RX0) (T := TX0) (N := 11) hx hb hts inX0 hown hK hP 1 rfl rfl 8 (by decide) (hts _ fl_X11_213) (fun _ h9 => h9) rfl dX11_told_125 ?_
          refine va_get (D := E.1) (ci := 7) (v := .int o_city_happenings_many) (C := RX7) (T := TX7) (N := 3) hx hb hts inX7 hown hK hP 6 rfl rfl 2 (by decide) (hts _ fl_X11_198) (fun _ h9 => h9) rfl dX11_told_128 ?_
          obtain ⟨u131, hu131, hf⟩ := bd hf
          refine callVI (wn := (wd_X11_told E a_o a_o_city a_o_ahead a_o_marks a_o_tape a_o_cityReader a_o_weeksReader a_o_trays a_o_planner a_o_ruler a_o_life a_o_latestLife a_o_city_streets a_o_city_names a_o_city_extras a_o_city_happenings a_o_city_watchers a_o_city_weeks a_o_city_streets_roads a_o_city_streets_takes a_o_city_streets_hours a_o_city_streets_roads_cells a_o_city_extras_cells a_o_city_happenings_cells a_o_city_watchers_cells o_marked o_wasLived o_wasParsed o_faultKind o_faultPlace u131.2 o_fractionTop o_fractionBottom o_city_wage o_city_delay o_city_odds o_city_clock o_city_hasWeeks o_city_streets_corners o_city_streets_roads_many o_city_extras_many o_city_extras_cells o_city_happenings_many o_city_happenings_cells o_city_watchers_many)) (n1 := 9) (ct_X11_answer l E a_o a_o_city a_o_ahead a_o_marks a_o_tape a_o_cityReader a_o_weeksReader a_o_trays a_o_planner a_o_ruler a_o_life a_o_latestLife o_marked o_wasLived o_wasParsed o_faultKind o_faultPlace o_latestStatus o_fractionTop o_fractionBottom o_city_happenings_many u131 hu131) [0] cal_X11_answer cav_X11_answer lk_X11_172 cx hP hD hS hl dX11_told_131 rfl rfl rfl rfl (Nat.le_of_ble_eq_true rfl) ⟨Nat.le_of_ble_eq_true rfl, Nat.le_of_ble_eq_true rfl⟩ rfl (by decide +kernel) rfl [some 0, none, none, none, none, none, none, none, none] rfl (by decide +kernel) rfl (fun H locs hP hD hS => ?_)
          obtain rfl := Option.some.inj hf
          subst hq
          exact retI cx hP hD hS dX11_told_134
        · have hf := it_f hc4 hf
          by_cases hc5 : v1 = 4
          · have hf := it_t hc5 hf
            refine swT (tgt := 135) 4 cx dX11_told_1 (by rw [hc5]; decide) (by decide) rfl (by decide) ?_
            refine lv_aload_n hx hb dX11_told_135 rfl (lv_at hl 0 rfl) ?_
            refine lv_aload_n hx hb dX11_told_136 rfl (lv_at hl 0 rfl) ?_
            refine va_get (D := E.1) (ci := 11) (v := .ref a_o_city) (C := RX11) (T := TX11) (N := 19) hx hb hts inX11 hown hK hP 0 rfl rfl 0 (by decide) (hts _ fl_X11_10) (fun _ h9 => h9) rfl dX11_told_137 ?_
            refine va_get (D := E.1) (ci := 0) (v := .ref a_o_city_watchers) (C := RX0) (T := TX0) (N := 11) hx hb hts inX0 hown hK hP 1 rfl rfl 9 (by decide) (hts _ fl_X11_216) (fun _ h9 => h9) rfl dX11_told_140 ?_
            refine va_get (D := E.1) (ci := 7) (v := .int o_city_watchers_many) (C := RX7) (T := TX7) (N := 3) hx hb hts inX7 hown hK hP 8 rfl rfl 2 (by decide) (hts _ fl_X11_198) (fun _ h9 => h9) rfl dX11_told_143 ?_
            obtain ⟨u146, hu146, hf⟩ := bd hf
            refine callVI (wn := (wd_X11_told E a_o a_o_city a_o_ahead a_o_marks a_o_tape a_o_cityReader a_o_weeksReader a_o_trays a_o_planner a_o_ruler a_o_life a_o_latestLife a_o_city_streets a_o_city_names a_o_city_extras a_o_city_happenings a_o_city_watchers a_o_city_weeks a_o_city_streets_roads a_o_city_streets_takes a_o_city_streets_hours a_o_city_streets_roads_cells a_o_city_extras_cells a_o_city_happenings_cells a_o_city_watchers_cells o_marked o_wasLived o_wasParsed o_faultKind o_faultPlace u146.2 o_fractionTop o_fractionBottom o_city_wage o_city_delay o_city_odds o_city_clock o_city_hasWeeks o_city_streets_corners o_city_streets_roads_many o_city_extras_many o_city_extras_cells o_city_happenings_many o_city_happenings_cells o_city_watchers_many)) (n1 := 9) (ct_X11_answer l E a_o a_o_city a_o_ahead a_o_marks a_o_tape a_o_cityReader a_o_weeksReader a_o_trays a_o_planner a_o_ruler a_o_life a_o_latestLife o_marked o_wasLived o_wasParsed o_faultKind o_faultPlace o_latestStatus o_fractionTop o_fractionBottom o_city_watchers_many u146 hu146) [0] cal_X11_answer cav_X11_answer lk_X11_172 cx hP hD hS hl dX11_told_146 rfl rfl rfl rfl (Nat.le_of_ble_eq_true rfl) ⟨Nat.le_of_ble_eq_true rfl, Nat.le_of_ble_eq_true rfl⟩ rfl (by decide +kernel) rfl [some 0, none, none, none, none, none, none, none, none] rfl (by decide +kernel) rfl (fun H locs hP hD hS => ?_)
            obtain rfl := Option.some.inj hf
            subst hq
            exact retI cx hP hD hS dX11_told_149
          · have hf := it_f hc5 hf
            by_cases hc6 : v1 = 5
            · have hf := it_t hc6 hf
              refine swT (tgt := 150) 5 cx dX11_told_1 (by rw [hc6]; decide) (by decide) rfl (by decide) ?_
              refine lv_aload_n hx hb dX11_told_150 rfl (lv_at hl 0 rfl) ?_
              refine lv_aload_n hx hb dX11_told_151 rfl (lv_at hl 0 rfl) ?_
              refine va_get (D := E.1) (ci := 11) (v := .ref a_o_city) (C := RX11) (T := TX11) (N := 19) hx hb hts inX11 hown hK hP 0 rfl rfl 0 (by decide) (hts _ fl_X11_10) (fun _ h9 => h9) rfl dX11_told_152 ?_
              refine va_get (D := E.1) (ci := 0) (v := .int o_city_wage) (C := RX0) (T := TX0) (N := 11) hx hb hts inX0 hown hK hP 1 rfl rfl 0 (by decide) (hts _ fl_X11_219) (fun _ h9 => h9) rfl dX11_told_155 ?_
              obtain ⟨u158, hu158, hf⟩ := bd hf
              refine callVI (wn := (wd_X11_told E a_o a_o_city a_o_ahead a_o_marks a_o_tape a_o_cityReader a_o_weeksReader a_o_trays a_o_planner a_o_ruler a_o_life a_o_latestLife a_o_city_streets a_o_city_names a_o_city_extras a_o_city_happenings a_o_city_watchers a_o_city_weeks a_o_city_streets_roads a_o_city_streets_takes a_o_city_streets_hours a_o_city_streets_roads_cells a_o_city_extras_cells a_o_city_happenings_cells a_o_city_watchers_cells o_marked o_wasLived o_wasParsed o_faultKind o_faultPlace u158.2 o_fractionTop o_fractionBottom o_city_wage o_city_delay o_city_odds o_city_clock o_city_hasWeeks o_city_streets_corners o_city_streets_roads_many o_city_extras_many o_city_extras_cells o_city_happenings_many o_city_happenings_cells o_city_watchers_many)) (n1 := 9) (ct_X11_answer l E a_o a_o_city a_o_ahead a_o_marks a_o_tape a_o_cityReader a_o_weeksReader a_o_trays a_o_planner a_o_ruler a_o_life a_o_latestLife o_marked o_wasLived o_wasParsed o_faultKind o_faultPlace o_latestStatus o_fractionTop o_fractionBottom o_city_wage u158 hu158) [0] cal_X11_answer cav_X11_answer lk_X11_172 cx hP hD hS hl dX11_told_158 rfl rfl rfl rfl (Nat.le_of_ble_eq_true rfl) ⟨Nat.le_of_ble_eq_true rfl, Nat.le_of_ble_eq_true rfl⟩ rfl (by decide +kernel) rfl [some 0, none, none, none, none, none, none, none, none] rfl (by decide +kernel) rfl (fun H locs hP hD hS => ?_)
              obtain rfl := Option.some.inj hf
              subst hq
              exact retI cx hP hD hS dX11_told_161
            · have hf := it_f hc6 hf
              by_cases hc7 : v1 = 6
              · have hf := it_t hc7 hf
                refine swT (tgt := 162) 6 cx dX11_told_1 (by rw [hc7]; decide) (by decide) rfl (by decide) ?_
                refine lv_aload_n hx hb dX11_told_162 rfl (lv_at hl 0 rfl) ?_
                refine lv_aload_n hx hb dX11_told_163 rfl (lv_at hl 0 rfl) ?_
                refine va_get (D := E.1) (ci := 11) (v := .ref a_o_city) (C := RX11) (T := TX11) (N := 19) hx hb hts inX11 hown hK hP 0 rfl rfl 0 (by decide) (hts _ fl_X11_10) (fun _ h9 => h9) rfl dX11_told_164 ?_
                refine va_get (D := E.1) (ci := 0) (v := .int o_city_delay) (C := RX0) (T := TX0) (N := 11) hx hb hts inX0 hown hK hP 1 rfl rfl 1 (by decide) (hts _ fl_X11_222) (fun _ h9 => h9) rfl dX11_told_167 ?_
                obtain ⟨u170, hu170, hf⟩ := bd hf
                refine callVI (wn := (wd_X11_told E a_o a_o_city a_o_ahead a_o_marks a_o_tape a_o_cityReader a_o_weeksReader a_o_trays a_o_planner a_o_ruler a_o_life a_o_latestLife a_o_city_streets a_o_city_names a_o_city_extras a_o_city_happenings a_o_city_watchers a_o_city_weeks a_o_city_streets_roads a_o_city_streets_takes a_o_city_streets_hours a_o_city_streets_roads_cells a_o_city_extras_cells a_o_city_happenings_cells a_o_city_watchers_cells o_marked o_wasLived o_wasParsed o_faultKind o_faultPlace u170.2 o_fractionTop o_fractionBottom o_city_wage o_city_delay o_city_odds o_city_clock o_city_hasWeeks o_city_streets_corners o_city_streets_roads_many o_city_extras_many o_city_extras_cells o_city_happenings_many o_city_happenings_cells o_city_watchers_many)) (n1 := 9) (ct_X11_answer l E a_o a_o_city a_o_ahead a_o_marks a_o_tape a_o_cityReader a_o_weeksReader a_o_trays a_o_planner a_o_ruler a_o_life a_o_latestLife o_marked o_wasLived o_wasParsed o_faultKind o_faultPlace o_latestStatus o_fractionTop o_fractionBottom o_city_delay u170 hu170) [0] cal_X11_answer cav_X11_answer lk_X11_172 cx hP hD hS hl dX11_told_170 rfl rfl rfl rfl (Nat.le_of_ble_eq_true rfl) ⟨Nat.le_of_ble_eq_true rfl, Nat.le_of_ble_eq_true rfl⟩ rfl (by decide +kernel) rfl [some 0, none, none, none, none, none, none, none, none] rfl (by decide +kernel) rfl (fun H locs hP hD hS => ?_)
                obtain rfl := Option.some.inj hf
                subst hq
                exact retI cx hP hD hS dX11_told_173
              · have hf := it_f hc7 hf
                by_cases hc8 : v1 = 7
                · have hf := it_t hc8 hf
                  refine swT (tgt := 174) 7 cx dX11_told_1 (by rw [hc8]; decide) (by decide) rfl (by decide) ?_
                  refine lv_aload_n hx hb dX11_told_174 rfl (lv_at hl 0 rfl) ?_
                  refine lv_aload_n hx hb dX11_told_175 rfl (lv_at hl 0 rfl) ?_
                  refine va_get (D := E.1) (ci := 11) (v := .ref a_o_city) (C := RX11) (T := TX11) (N := 19) hx hb hts inX11 hown hK hP 0 rfl rfl 0 (by decide) (hts _ fl_X11_10) (fun _ h9 => h9) rfl dX11_told_176 ?_
                  refine va_get (D := E.1) (ci := 0) (v := .int o_city_odds) (C := RX0) (T := TX0) (N := 11) hx hb hts inX0 hown hK hP 1 rfl rfl 2 (by decide) (hts _ fl_X11_225) (fun _ h9 => h9) rfl dX11_told_179 ?_
                  obtain ⟨u182, hu182, hf⟩ := bd hf
                  refine callVI (wn := (wd_X11_told E a_o a_o_city a_o_ahead a_o_marks a_o_tape a_o_cityReader a_o_weeksReader a_o_trays a_o_planner a_o_ruler a_o_life a_o_latestLife a_o_city_streets a_o_city_names a_o_city_extras a_o_city_happenings a_o_city_watchers a_o_city_weeks a_o_city_streets_roads a_o_city_streets_takes a_o_city_streets_hours a_o_city_streets_roads_cells a_o_city_extras_cells a_o_city_happenings_cells a_o_city_watchers_cells o_marked o_wasLived o_wasParsed o_faultKind o_faultPlace u182.2 o_fractionTop o_fractionBottom o_city_wage o_city_delay o_city_odds o_city_clock o_city_hasWeeks o_city_streets_corners o_city_streets_roads_many o_city_extras_many o_city_extras_cells o_city_happenings_many o_city_happenings_cells o_city_watchers_many)) (n1 := 9) (ct_X11_answer l E a_o a_o_city a_o_ahead a_o_marks a_o_tape a_o_cityReader a_o_weeksReader a_o_trays a_o_planner a_o_ruler a_o_life a_o_latestLife o_marked o_wasLived o_wasParsed o_faultKind o_faultPlace o_latestStatus o_fractionTop o_fractionBottom o_city_odds u182 hu182) [0] cal_X11_answer cav_X11_answer lk_X11_172 cx hP hD hS hl dX11_told_182 rfl rfl rfl rfl (Nat.le_of_ble_eq_true rfl) ⟨Nat.le_of_ble_eq_true rfl, Nat.le_of_ble_eq_true rfl⟩ rfl (by decide +kernel) rfl [some 0, none, none, none, none, none, none, none, none] rfl (by decide +kernel) rfl (fun H locs hP hD hS => ?_)
                  obtain rfl := Option.some.inj hf
                  subst hq
                  exact retI cx hP hD hS dX11_told_185
                · have hf := it_f hc8 hf
                  by_cases hc9 : v1 = 8
                  · have hf := it_t hc9 hf
                    refine swT (tgt := 186) 8 cx dX11_told_1 (by rw [hc9]; decide) (by decide) rfl (by decide) ?_
                    refine lv_aload_n hx hb dX11_told_186 rfl (lv_at hl 0 rfl) ?_
                    refine lv_aload_n hx hb dX11_told_187 rfl (lv_at hl 0 rfl) ?_
                    refine va_get (D := E.1) (ci := 11) (v := .ref a_o_city) (C := RX11) (T := TX11) (N := 19) hx hb hts inX11 hown hK hP 0 rfl rfl 0 (by decide) (hts _ fl_X11_10) (fun _ h9 => h9) rfl dX11_told_188 ?_
                    refine va_get (D := E.1) (ci := 0) (v := .int o_city_clock) (C := RX0) (T := TX0) (N := 11) hx hb hts inX0 hown hK hP 1 rfl rfl 3 (by decide) (hts _ fl_X11_228) (fun _ h9 => h9) rfl dX11_told_191 ?_
                    obtain ⟨u194, hu194, hf⟩ := bd hf
                    refine callVI (wn := (wd_X11_told E a_o a_o_city a_o_ahead a_o_marks a_o_tape a_o_cityReader a_o_weeksReader a_o_trays a_o_planner a_o_ruler a_o_life a_o_latestLife a_o_city_streets a_o_city_names a_o_city_extras a_o_city_happenings a_o_city_watchers a_o_city_weeks a_o_city_streets_roads a_o_city_streets_takes a_o_city_streets_hours a_o_city_streets_roads_cells a_o_city_extras_cells a_o_city_happenings_cells a_o_city_watchers_cells o_marked o_wasLived o_wasParsed o_faultKind o_faultPlace u194.2 o_fractionTop o_fractionBottom o_city_wage o_city_delay o_city_odds o_city_clock o_city_hasWeeks o_city_streets_corners o_city_streets_roads_many o_city_extras_many o_city_extras_cells o_city_happenings_many o_city_happenings_cells o_city_watchers_many)) (n1 := 9) (ct_X11_answer l E a_o a_o_city a_o_ahead a_o_marks a_o_tape a_o_cityReader a_o_weeksReader a_o_trays a_o_planner a_o_ruler a_o_life a_o_latestLife o_marked o_wasLived o_wasParsed o_faultKind o_faultPlace o_latestStatus o_fractionTop o_fractionBottom o_city_clock u194 hu194) [0] cal_X11_answer cav_X11_answer lk_X11_172 cx hP hD hS hl dX11_told_194 rfl rfl rfl rfl (Nat.le_of_ble_eq_true rfl) ⟨Nat.le_of_ble_eq_true rfl, Nat.le_of_ble_eq_true rfl⟩ rfl (by decide +kernel) rfl [some 0, none, none, none, none, none, none, none, none] rfl (by decide +kernel) rfl (fun H locs hP hD hS => ?_)
                    obtain rfl := Option.some.inj hf
                    subst hq
                    exact retI cx hP hD hS dX11_told_197
                  · have hf := it_f hc9 hf
                    by_cases hc10 : v1 = 9
                    · have hf := it_t hc10 hf
                      refine swT (tgt := 198) 9 cx dX11_told_1 (by rw [hc10]; decide) (by decide) rfl (by decide) ?_
                      refine lv_aload_n hx hb dX11_told_198 rfl (lv_at hl 0 rfl) ?_
                      refine lv_aload_n hx hb dX11_told_199 rfl (lv_at hl 0 rfl) ?_
                      refine va_get (D := E.1) (ci := 11) (v := .ref a_o_city) (C := RX11) (T := TX11) (N := 19) hx hb hts inX11 hown hK hP 0 rfl rfl 0 (by decide) (hts _ fl_X11_10) (fun _ h9 => h9) rfl dX11_told_200 ?_
                      refine lv_iconst (v := 0) hx hb dX11_told_203 (by decide) ?_
                      obtain ⟨u204, hu204, hf⟩ := bd hf
                      refine keepVI (ct_X0_withFate l E F a_o_city a_o_city_streets a_o_city_names a_o_city_extras a_o_city_happenings a_o_city_watchers a_o_city_weeks a_o_city_happenings_cells o_city_wage o_city_delay o_city_odds o_city_clock o_city_hasWeeks o_city_happenings_many o_city_happenings_cells (0 : Int32) u204 hu204) [1, 6, 7] cal_X0_withFate cav_X0_withFate lk_X11_231 cx hP hD hS hl dX11_told_204 rfl rfl rfl rfl (Nat.le_of_ble_eq_true rfl) ⟨Nat.le_of_ble_eq_true rfl, Nat.le_of_ble_eq_true rfl⟩ rfl (by decide) (fun H locs hP hS => ?_)
                      obtain ⟨u207, hu207, hf⟩ := bd hf
                      refine callVI (wn := (wd_X11_told E a_o a_o_city a_o_ahead a_o_marks a_o_tape a_o_cityReader a_o_weeksReader a_o_trays a_o_planner a_o_ruler a_o_life a_o_latestLife a_o_city_streets a_o_city_names a_o_city_extras a_o_city_happenings a_o_city_watchers a_o_city_weeks a_o_city_streets_roads a_o_city_streets_takes a_o_city_streets_hours a_o_city_streets_roads_cells a_o_city_extras_cells a_o_city_happenings_cells a_o_city_watchers_cells o_marked o_wasLived o_wasParsed o_faultKind o_faultPlace u207.2 o_fractionTop o_fractionBottom o_city_wage o_city_delay o_city_odds o_city_clock o_city_hasWeeks o_city_streets_corners o_city_streets_roads_many o_city_extras_many o_city_extras_cells o_city_happenings_many o_city_happenings_cells o_city_watchers_many)) (n1 := 9) (ct_X11_answer l E a_o a_o_city a_o_ahead a_o_marks a_o_tape a_o_cityReader a_o_weeksReader a_o_trays a_o_planner a_o_ruler a_o_life a_o_latestLife o_marked o_wasLived o_wasParsed o_faultKind o_faultPlace o_latestStatus o_fractionTop o_fractionBottom u204 u207 hu207) [0] cal_X11_answer cav_X11_answer lk_X11_172 cx hP hD hS hl dX11_told_207 rfl rfl rfl rfl (Nat.le_of_ble_eq_true rfl) ⟨Nat.le_of_ble_eq_true rfl, Nat.le_of_ble_eq_true rfl⟩ rfl (by decide +kernel) rfl [some 0, none, none, none, none, none, none, none, none] rfl (by decide +kernel) rfl (fun H locs hP hD hS => ?_)
                      obtain rfl := Option.some.inj hf
                      subst hq
                      exact retI cx hP hD hS dX11_told_210
                    · have hf := it_f hc10 hf
                      by_cases hc11 : v1 = 10
                      · have hf := it_t hc11 hf
                        refine swT (tgt := 211) 10 cx dX11_told_1 (by rw [hc11]; decide) (by decide) rfl (by decide) ?_
                        refine lv_aload_n hx hb dX11_told_211 rfl (lv_at hl 0 rfl) ?_
                        refine lv_aload_n hx hb dX11_told_212 rfl (lv_at hl 0 rfl) ?_
                        refine va_get (D := E.1) (ci := 11) (v := .ref a_o_city) (C := RX11) (T := TX11) (N := 19) hx hb hts inX11 hown hK hP 0 rfl rfl 0 (by decide) (hts _ fl_X11_10) (fun _ h9 => h9) rfl dX11_told_213 ?_
                        refine lv_iconst (v := 1) hx hb dX11_told_216 (by decide) ?_
                        obtain ⟨u217, hu217, hf⟩ := bd hf
                        refine keepVI (ct_X0_withFate l E F a_o_city a_o_city_streets a_o_city_names a_o_city_extras a_o_city_happenings a_o_city_watchers a_o_city_weeks a_o_city_happenings_cells o_city_wage o_city_delay o_city_odds o_city_clock o_city_hasWeeks o_city_happenings_many o_city_happenings_cells (1 : Int32) u217 hu217) [1, 6, 7] cal_X0_withFate cav_X0_withFate lk_X11_231 cx hP hD hS hl dX11_told_217 rfl rfl rfl rfl (Nat.le_of_ble_eq_true rfl) ⟨Nat.le_of_ble_eq_true rfl, Nat.le_of_ble_eq_true rfl⟩ rfl (by decide) (fun H locs hP hS => ?_)
                        obtain ⟨u220, hu220, hf⟩ := bd hf
                        refine callVI (wn := (wd_X11_told E a_o a_o_city a_o_ahead a_o_marks a_o_tape a_o_cityReader a_o_weeksReader a_o_trays a_o_planner a_o_ruler a_o_life a_o_latestLife a_o_city_streets a_o_city_names a_o_city_extras a_o_city_happenings a_o_city_watchers a_o_city_weeks a_o_city_streets_roads a_o_city_streets_takes a_o_city_streets_hours a_o_city_streets_roads_cells a_o_city_extras_cells a_o_city_happenings_cells a_o_city_watchers_cells o_marked o_wasLived o_wasParsed o_faultKind o_faultPlace u220.2 o_fractionTop o_fractionBottom o_city_wage o_city_delay o_city_odds o_city_clock o_city_hasWeeks o_city_streets_corners o_city_streets_roads_many o_city_extras_many o_city_extras_cells o_city_happenings_many o_city_happenings_cells o_city_watchers_many)) (n1 := 9) (ct_X11_answer l E a_o a_o_city a_o_ahead a_o_marks a_o_tape a_o_cityReader a_o_weeksReader a_o_trays a_o_planner a_o_ruler a_o_life a_o_latestLife o_marked o_wasLived o_wasParsed o_faultKind o_faultPlace o_latestStatus o_fractionTop o_fractionBottom u217 u220 hu220) [0] cal_X11_answer cav_X11_answer lk_X11_172 cx hP hD hS hl dX11_told_220 rfl rfl rfl rfl (Nat.le_of_ble_eq_true rfl) ⟨Nat.le_of_ble_eq_true rfl, Nat.le_of_ble_eq_true rfl⟩ rfl (by decide +kernel) rfl [some 0, none, none, none, none, none, none, none, none] rfl (by decide +kernel) rfl (fun H locs hP hD hS => ?_)
                        obtain rfl := Option.some.inj hf
                        subst hq
                        exact retI cx hP hD hS dX11_told_223
                      · have hf := it_f hc11 hf
                        by_cases hc12 : v1 = 11
                        · have hf := it_t hc12 hf
                          refine swT (tgt := 224) 11 cx dX11_told_1 (by rw [hc12]; decide) (by decide) rfl (by decide) ?_
                          refine lv_aload_n hx hb dX11_told_224 rfl (lv_at hl 0 rfl) ?_
                          refine lv_aload_n hx hb dX11_told_225 rfl (lv_at hl 0 rfl) ?_
                          refine va_get (D := E.1) (ci := 11) (v := .ref a_o_city) (C := RX11) (T := TX11) (N := 19) hx hb hts inX11 hown hK hP 0 rfl rfl 0 (by decide) (hts _ fl_X11_10) (fun _ h9 => h9) rfl dX11_told_226 ?_
                          refine lv_iconst (v := 2) hx hb dX11_told_229 (by decide) ?_
                          obtain ⟨u230, hu230, hf⟩ := bd hf
                          refine keepVI (ct_X0_withFate l E F a_o_city a_o_city_streets a_o_city_names a_o_city_extras a_o_city_happenings a_o_city_watchers a_o_city_weeks a_o_city_happenings_cells o_city_wage o_city_delay o_city_odds o_city_clock o_city_hasWeeks o_city_happenings_many o_city_happenings_cells (2 : Int32) u230 hu230) [1, 6, 7] cal_X0_withFate cav_X0_withFate lk_X11_231 cx hP hD hS hl dX11_told_230 rfl rfl rfl rfl (Nat.le_of_ble_eq_true rfl) ⟨Nat.le_of_ble_eq_true rfl, Nat.le_of_ble_eq_true rfl⟩ rfl (by decide) (fun H locs hP hS => ?_)
                          obtain ⟨u233, hu233, hf⟩ := bd hf
                          refine callVI (wn := (wd_X11_told E a_o a_o_city a_o_ahead a_o_marks a_o_tape a_o_cityReader a_o_weeksReader a_o_trays a_o_planner a_o_ruler a_o_life a_o_latestLife a_o_city_streets a_o_city_names a_o_city_extras a_o_city_happenings a_o_city_watchers a_o_city_weeks a_o_city_streets_roads a_o_city_streets_takes a_o_city_streets_hours a_o_city_streets_roads_cells a_o_city_extras_cells a_o_city_happenings_cells a_o_city_watchers_cells o_marked o_wasLived o_wasParsed o_faultKind o_faultPlace u233.2 o_fractionTop o_fractionBottom o_city_wage o_city_delay o_city_odds o_city_clock o_city_hasWeeks o_city_streets_corners o_city_streets_roads_many o_city_extras_many o_city_extras_cells o_city_happenings_many o_city_happenings_cells o_city_watchers_many)) (n1 := 9) (ct_X11_answer l E a_o a_o_city a_o_ahead a_o_marks a_o_tape a_o_cityReader a_o_weeksReader a_o_trays a_o_planner a_o_ruler a_o_life a_o_latestLife o_marked o_wasLived o_wasParsed o_faultKind o_faultPlace o_latestStatus o_fractionTop o_fractionBottom u230 u233 hu233) [0] cal_X11_answer cav_X11_answer lk_X11_172 cx hP hD hS hl dX11_told_233 rfl rfl rfl rfl (Nat.le_of_ble_eq_true rfl) ⟨Nat.le_of_ble_eq_true rfl, Nat.le_of_ble_eq_true rfl⟩ rfl (by decide +kernel) rfl [some 0, none, none, none, none, none, none, none, none] rfl (by decide +kernel) rfl (fun H locs hP hD hS => ?_)
                          obtain rfl := Option.some.inj hf
                          subst hq
                          exact retI cx hP hD hS dX11_told_236
                        · have hf := it_f hc12 hf
                          by_cases hc13 : v1 = 12
                          · have hf := it_t hc13 hf
                            refine swT (tgt := 237) 12 cx dX11_told_1 (by rw [hc13]; decide) (by decide) rfl (by decide) ?_
                            refine lv_aload_n hx hb dX11_told_237 rfl (lv_at hl 0 rfl) ?_
                            refine lv_aload_n hx hb dX11_told_238 rfl (lv_at hl 0 rfl) ?_
                            refine va_get (D := E.1) (ci := 11) (v := .ref a_o_city) (C := RX11) (T := TX11) (N := 19) hx hb hts inX11 hown hK hP 0 rfl rfl 0 (by decide) (hts _ fl_X11_10) (fun _ h9 => h9) rfl dX11_told_239 ?_
                            obtain ⟨u242, hu242, hf⟩ := bd hf
                            refine keepVI (ct_X0_onRoads l E F a_o_city a_o_city_streets a_o_city_names a_o_city_extras a_o_city_happenings a_o_city_watchers a_o_city_weeks a_o_city_extras_cells o_city_wage o_city_delay o_city_odds o_city_clock o_city_hasWeeks o_city_extras_many o_city_extras_cells u242 hu242) [1, 4, 5] cal_X0_onRoads cav_X0_onRoads lk_X11_234 cx hP hD hS hl dX11_told_242 rfl rfl rfl rfl (Nat.le_of_ble_eq_true rfl) ⟨Nat.le_of_ble_eq_true rfl, Nat.le_of_ble_eq_true rfl⟩ rfl (by decide) (fun H locs hP hS => ?_)
                            obtain ⟨u245, hu245, hf⟩ := bd hf
                            refine callVI (wn := (wd_X11_told E a_o a_o_city a_o_ahead a_o_marks a_o_tape a_o_cityReader a_o_weeksReader a_o_trays a_o_planner a_o_ruler a_o_life a_o_latestLife a_o_city_streets a_o_city_names a_o_city_extras a_o_city_happenings a_o_city_watchers a_o_city_weeks a_o_city_streets_roads a_o_city_streets_takes a_o_city_streets_hours a_o_city_streets_roads_cells a_o_city_extras_cells a_o_city_happenings_cells a_o_city_watchers_cells o_marked o_wasLived o_wasParsed o_faultKind o_faultPlace u245.2 o_fractionTop o_fractionBottom o_city_wage o_city_delay o_city_odds o_city_clock o_city_hasWeeks o_city_streets_corners o_city_streets_roads_many o_city_extras_many o_city_extras_cells o_city_happenings_many o_city_happenings_cells o_city_watchers_many)) (n1 := 9) (ct_X11_answer l E a_o a_o_city a_o_ahead a_o_marks a_o_tape a_o_cityReader a_o_weeksReader a_o_trays a_o_planner a_o_ruler a_o_life a_o_latestLife o_marked o_wasLived o_wasParsed o_faultKind o_faultPlace o_latestStatus o_fractionTop o_fractionBottom u242 u245 hu245) [0] cal_X11_answer cav_X11_answer lk_X11_172 cx hP hD hS hl dX11_told_245 rfl rfl rfl rfl (Nat.le_of_ble_eq_true rfl) ⟨Nat.le_of_ble_eq_true rfl, Nat.le_of_ble_eq_true rfl⟩ rfl (by decide +kernel) rfl [some 0, none, none, none, none, none, none, none, none] rfl (by decide +kernel) rfl (fun H locs hP hD hS => ?_)
                            obtain rfl := Option.some.inj hf
                            subst hq
                            exact retI cx hP hD hS dX11_told_248
                          · have hf := it_f hc13 hf
                            by_cases hc14 : v1 = 13
                            · have hf := it_t hc14 hf
                              refine swT (tgt := 249) 13 cx dX11_told_1 (by rw [hc14]; decide) (by decide) rfl (by decide) ?_
                              refine lv_aload_n hx hb dX11_told_249 rfl (lv_at hl 0 rfl) ?_
                              refine lv_aload_n hx hb dX11_told_250 rfl (lv_at hl 0 rfl) ?_
                              refine va_get (D := E.1) (ci := 11) (v := .ref a_o_city) (C := RX11) (T := TX11) (N := 19) hx hb hts inX11 hown hK hP 0 rfl rfl 0 (by decide) (hts _ fl_X11_10) (fun _ h9 => h9) rfl dX11_told_251 ?_
                              refine va_get (D := E.1) (ci := 0) (v := .ref a_o_city_extras) (C := RX0) (T := TX0) (N := 11) hx hb hts inX0 hown hK hP 1 rfl rfl 7 (by decide) (hts _ fl_X11_210) (fun _ h9 => h9) rfl dX11_told_254 ?_
                              refine lv_iconst (v := 3) hx hb dX11_told_257 (by decide) ?_
                              obtain ⟨u258, hu258, hf⟩ := bd hf
                              refine keepVI (ct_X7_sum l E F a_o_city_extras a_o_city_extras_cells 35 5 o_city_extras_many o_city_extras_cells (3 : Int32) u258 hu258) [4, 5] cal_X7_sum cav_X7_sum lk_X11_238 cx hP hD hS hl dX11_told_258 rfl rfl rfl rfl (Nat.le_of_ble_eq_true rfl) ⟨Nat.le_of_ble_eq_true rfl, Nat.le_of_ble_eq_true rfl⟩ rfl (by decide) (fun H locs hP hS => ?_)
                              obtain ⟨u261, hu261, hf⟩ := bd hf
                              refine callVI (wn := (wd_X11_told E a_o a_o_city a_o_ahead a_o_marks a_o_tape a_o_cityReader a_o_weeksReader a_o_trays a_o_planner a_o_ruler a_o_life a_o_latestLife a_o_city_streets a_o_city_names a_o_city_extras a_o_city_happenings a_o_city_watchers a_o_city_weeks a_o_city_streets_roads a_o_city_streets_takes a_o_city_streets_hours a_o_city_streets_roads_cells a_o_city_extras_cells a_o_city_happenings_cells a_o_city_watchers_cells o_marked o_wasLived o_wasParsed o_faultKind o_faultPlace u261.2 o_fractionTop o_fractionBottom o_city_wage o_city_delay o_city_odds o_city_clock o_city_hasWeeks o_city_streets_corners o_city_streets_roads_many o_city_extras_many o_city_extras_cells o_city_happenings_many o_city_happenings_cells o_city_watchers_many)) (n1 := 9) (ct_X11_answer l E a_o a_o_city a_o_ahead a_o_marks a_o_tape a_o_cityReader a_o_weeksReader a_o_trays a_o_planner a_o_ruler a_o_life a_o_latestLife o_marked o_wasLived o_wasParsed o_faultKind o_faultPlace o_latestStatus o_fractionTop o_fractionBottom u258 u261 hu261) [0] cal_X11_answer cav_X11_answer lk_X11_172 cx hP hD hS hl dX11_told_261 rfl rfl rfl rfl (Nat.le_of_ble_eq_true rfl) ⟨Nat.le_of_ble_eq_true rfl, Nat.le_of_ble_eq_true rfl⟩ rfl (by decide +kernel) rfl [some 0, none, none, none, none, none, none, none, none] rfl (by decide +kernel) rfl (fun H locs hP hD hS => ?_)
                              obtain rfl := Option.some.inj hf
                              subst hq
                              exact retI cx hP hD hS dX11_told_264
                            · have hf := it_f hc14 hf
                              refine swD (tgt := 265) [0, 1, 2, 3, 4, 5, 6, 7, 8, 9, 10, 11, 12, 13] cx dX11_told_1 ?_ (by decide) (by decide) ?_
                              · intro z hz
                                simp only [List.mem_cons, List.not_mem_nil, or_false] at hz
                                rcases hz with rfl | rfl | rfl | rfl | rfl | rfl | rfl | rfl | rfl | rfl | rfl | rfl | rfl | rfl
                                · exact ne_int hc1 (by decide)
                                · exact ne_int hc2 (by decide)
                                · exact ne_int hc3 (by decide)
                                · exact ne_int hc4 (by decide)
                                · exact ne_int hc5 (by decide)
                                · exact ne_int hc6 (by decide)
                                · exact ne_int hc7 (by decide)
                                · exact ne_int hc8 (by decide)
                                · exact ne_int hc9 (by decide)
                                · exact ne_int hc10 (by decide)
                                · exact ne_int hc11 (by decide)
                                · exact ne_int hc12 (by decide)
                                · exact ne_int hc13 (by decide)
                                · exact ne_int hc14 (by decide)
                              · refine lv_aload_n hx hb dX11_told_265 rfl (lv_at hl 0 rfl) ?_
                                refine lv_iconst (v := 1) hx hb dX11_told_266 (by decide) ?_
                                obtain ⟨u267, hu267, hf⟩ := bd hf
                                refine callVI (wn := (wd_X11_told E a_o a_o_city a_o_ahead a_o_marks a_o_tape a_o_cityReader a_o_weeksReader a_o_trays a_o_planner a_o_ruler a_o_life a_o_latestLife a_o_city_streets a_o_city_names a_o_city_extras a_o_city_happenings a_o_city_watchers a_o_city_weeks a_o_city_streets_roads a_o_city_streets_takes a_o_city_streets_hours a_o_city_streets_roads_cells a_o_city_extras_cells a_o_city_happenings_cells a_o_city_watchers_cells o_marked o_wasLived o_wasParsed o_faultKind o_faultPlace u267.2 o_fractionTop o_fractionBottom o_city_wage o_city_delay o_city_odds o_city_clock o_city_hasWeeks o_city_streets_corners o_city_streets_roads_many o_city_extras_many o_city_extras_cells o_city_happenings_many o_city_happenings_cells o_city_watchers_many)) (n1 := 9) (ct_X11_none l E a_o a_o_city a_o_ahead a_o_marks a_o_tape a_o_cityReader a_o_weeksReader a_o_trays a_o_planner a_o_ruler a_o_life a_o_latestLife o_marked o_wasLived o_wasParsed o_faultKind o_faultPlace o_latestStatus o_fractionTop o_fractionBottom (1 : Int32) u267 hu267) [0] cal_X11_none cav_X11_none lk_X11_119 cx hP hD hS hl dX11_told_267 rfl rfl rfl rfl (Nat.le_of_ble_eq_true rfl) ⟨Nat.le_of_ble_eq_true rfl, Nat.le_of_ble_eq_true rfl⟩ rfl (by decide +kernel) rfl [some 0, none, none, none, none, none, none, none, none] rfl (by decide +kernel) rfl (fun H locs hP hD hS => ?_)
                                obtain rfl := Option.some.inj hf
                                subst hq
                                exact retI cx hP hD hS dX11_told_270
def X11_isExtra (o_city_extras_many : Int32) (v1 : Int32) : Option (Int32) :=
  (X11_within v1 (0 : Int32) (o_city_extras_many - 1)).bind fun u14 =>
  if isZ u14 then some u14 else none
abbrev wd_X11_isExtra (E : vE) (a_o a_o_city a_o_ahead a_o_marks a_o_tape a_o_cityReader a_o_weeksReader a_o_trays a_o_planner a_o_ruler a_o_life a_o_latestLife a_o_city_streets a_o_city_names a_o_city_extras a_o_city_happenings a_o_city_watchers a_o_city_weeks a_o_city_extras_cells : Nat) (o_marked : Int32) (o_wasLived : Int32) (o_wasParsed : Int32) (o_faultKind : Int32) (o_faultPlace : Int32) (o_latestStatus : Int32) (o_fractionTop : Int64) (o_fractionBottom : Int64) (o_city_wage : Int32) (o_city_delay : Int32) (o_city_odds : Int32) (o_city_clock : Int32) (o_city_hasWeeks : Int32) (o_city_extras_many : Int32) : va_W := [(a_o, .inr (11, [.ref a_o_city, .ref a_o_ahead, .ref a_o_marks, .int o_marked, .ref a_o_tape, .ref a_o_cityReader, .ref a_o_weeksReader, .ref a_o_trays, .ref a_o_planner, .ref a_o_ruler, .ref a_o_life, .ref a_o_latestLife, .int o_wasLived, .int o_wasParsed, .int o_faultKind, .int o_faultPlace, .int o_latestStatus, .long o_fractionTop, .long o_fractionBottom])), (a_o_city, .inr (0, [.int o_city_wage, .int o_city_delay, .int o_city_odds, .int o_city_clock, .int o_city_hasWeeks, .ref a_o_city_streets, .ref a_o_city_names, .ref a_o_city_extras, .ref a_o_city_happenings, .ref a_o_city_watchers, .ref a_o_city_weeks])), (a_o_city_extras, .inr (7, [.int 5, .ref a_o_city_extras_cells, .int o_city_extras_many]))]
set_option maxHeartbeats 4000000 in
set_option maxRecDepth 100000 in
theorem ct_X11_isExtra (l : Launch) (E : vE) (a_o a_o_city a_o_ahead a_o_marks a_o_tape a_o_cityReader a_o_weeksReader a_o_trays a_o_planner a_o_ruler a_o_life a_o_latestLife a_o_city_streets a_o_city_names a_o_city_extras a_o_city_happenings a_o_city_watchers a_o_city_weeks a_o_city_extras_cells : Nat) (o_marked : Int32) (o_wasLived : Int32) (o_wasParsed : Int32) (o_faultKind : Int32) (o_faultPlace : Int32) (o_latestStatus : Int32) (o_fractionTop : Int64) (o_fractionBottom : Int64) (o_city_wage : Int32) (o_city_delay : Int32) (o_city_odds : Int32) (o_city_clock : Int32) (o_city_hasWeeks : Int32) (o_city_extras_many : Int32) (v1 : Int32) (u : Int32) (hf : X11_isExtra o_city_extras_many v1 = some u) :
    CtI l yX11_isExtra cX11_isExtra 2 (some .boolean) 1 E [.ref a_o, .int v1] (wd_X11_isExtra E a_o a_o_city a_o_ahead a_o_marks a_o_tape a_o_cityReader a_o_weeksReader a_o_trays a_o_planner a_o_ruler a_o_life a_o_latestLife a_o_city_streets a_o_city_names a_o_city_extras a_o_city_happenings a_o_city_watchers a_o_city_weeks a_o_city_extras_cells o_marked o_wasLived o_wasParsed o_faultKind o_faultPlace o_latestStatus o_fractionTop o_fractionBottom o_city_wage o_city_delay o_city_odds o_city_clock o_city_hasWeeks o_city_extras_many) (wd_X11_isExtra E a_o a_o_city a_o_ahead a_o_marks a_o_tape a_o_cityReader a_o_weeksReader a_o_trays a_o_planner a_o_ruler a_o_life a_o_latestLife a_o_city_streets a_o_city_names a_o_city_extras a_o_city_happenings a_o_city_watchers a_o_city_weeks a_o_city_extras_cells o_marked o_wasLived o_wasParsed o_faultKind o_faultPlace o_latestStatus o_fractionTop o_fractionBottom o_city_wage o_city_delay o_city_odds o_city_clock o_city_hasWeeks o_city_extras_many) u := by
  refine ctI (by decide) (Nat.le_of_ble_eq_true rfl) ?_
  intro p e s m below meth cd A ls aa QQ hq cx hP hD hS hl
  obtain ⟨⟨hx, hb, hml, hown, hts⟩, hr, hlocks, hK, hA, hX⟩ := id cx
  have hl : lv_has ls 2 [(0, .ref a_o), (1, .int v1)] := hl
  unfold X11_isExtra at hf
  refine lv_iload_n hx hb dX11_isExtra_0 rfl (lv_at hl 1 rfl) ?_
  refine lv_iconst (v := 0) hx hb dX11_isExtra_1 (by decide) ?_
  refine lv_aload_n hx hb dX11_isExtra_2 rfl (lv_at hl 0 rfl) ?_
  refine va_get (D := E.1) (ci := 11) (v := .ref a_o_city) (C := RX11) (T := TX11) (N := 19) hx hb hts inX11 hown hK hP 0 rfl rfl 0 (by decide) (hts _ fl_X11_10) (fun _ h9 => h9) rfl dX11_isExtra_3 ?_
  refine va_get (D := E.1) (ci := 0) (v := .ref a_o_city_extras) (C := RX0) (T := TX0) (N := 11) hx hb hts inX0 hown hK hP 1 rfl rfl 7 (by decide) (hts _ fl_X11_210) (fun _ h9 => h9) rfl dX11_isExtra_6 ?_
  refine va_get (D := E.1) (ci := 7) (v := .int o_city_extras_many) (C := RX7) (T := TX7) (N := 3) hx hb hts inX7 hown hK hP 2 rfl rfl 2 (by decide) (hts _ fl_X11_198) (fun _ h9 => h9) rfl dX11_isExtra_9 ?_
  refine lv_iconst (v := 1) hx hb dX11_isExtra_12 (by decide) ?_
  refine lv_isub hx hb dX11_isExtra_13 ?_
  obtain ⟨u14, hu14, hf⟩ := bd hf
  refine keepSI (ct_X11_within l E v1 (0 : Int32) (o_city_extras_many - 1) u14 hu14) [] cal_X11_within sta_X11_within lk_X11_96 cx hP hD hS hl dX11_isExtra_14 rfl rfl (Nat.le_of_ble_eq_true rfl) ⟨Nat.le_of_ble_eq_true rfl, Nat.le_of_ble_eq_true rfl⟩ rfl (by decide) (fun H locs hP hS => ?_)
  obtain ⟨hz, hf⟩ := ck hf
  obtain rfl := Option.some.inj hf
  subst hq
  exact retZ cx hz hP hD hS dX11_isExtra_17
def X11_extra_j51 (o_latestStatus : Int32) (o_city_extras_many : Int32) (o_city_extras_cells : Nat → Int32) (k0 : Int32) : Option (Int32 × Int32) :=
  (X11_answer o_latestStatus k0).bind fun u51 =>
  some (u51.1, u51.2)
def X11_extra_j17 (o_latestStatus : Int32) (o_city_extras_many : Int32) (o_city_extras_cells : Nat → Int32) : Option (Int32 × Int32) :=
  (X11_none o_latestStatus (1 : Int32)).bind fun u19 =>
  some (u19.1, u19.2)
def X11_extra (o_latestStatus : Int32) (o_city_extras_many : Int32) (o_city_extras_cells : Nat → Int32) (v1 : Int32) (v2 : Int32) : Option (Int32 × Int32) :=
  (X11_isExtra o_city_extras_many v1).bind fun u2 =>
  if u2 = 0 then
  X11_extra_j17 o_latestStatus o_city_extras_many o_city_extras_cells
  else
  (X11_within v2 (0 : Int32) (4 : Int32)).bind fun u11 =>
  if u11 = 0 then
  X11_extra_j17 o_latestStatus o_city_extras_many o_city_extras_cells
  else
  if v2 = 0 then
  (X0_whereabouts o_city_extras_many o_city_extras_cells v1).bind fun u33 =>
  X11_extra_j51 o_latestStatus o_city_extras_many o_city_extras_cells u33
  else
  (X7_get 35 5 o_city_extras_many o_city_extras_cells v1 v2).bind fun u48 =>
  X11_extra_j51 o_latestStatus o_city_extras_many o_city_extras_cells u48
abbrev wd_X11_extra (E : vE) (a_o a_o_city a_o_ahead a_o_marks a_o_tape a_o_cityReader a_o_weeksReader a_o_trays a_o_planner a_o_ruler a_o_life a_o_latestLife a_o_city_streets a_o_city_names a_o_city_extras a_o_city_happenings a_o_city_watchers a_o_city_weeks a_o_city_extras_cells : Nat) (o_marked : Int32) (o_wasLived : Int32) (o_wasParsed : Int32) (o_faultKind : Int32) (o_faultPlace : Int32) (o_latestStatus : Int32) (o_fractionTop : Int64) (o_fractionBottom : Int64) (o_city_wage : Int32) (o_city_delay : Int32) (o_city_odds : Int32) (o_city_clock : Int32) (o_city_hasWeeks : Int32) (o_city_extras_many : Int32) (o_city_extras_cells : Nat → Int32) : va_W := [(a_o, .inr (11, [.ref a_o_city, .ref a_o_ahead, .ref a_o_marks, .int o_marked, .ref a_o_tape, .ref a_o_cityReader, .ref a_o_weeksReader, .ref a_o_trays, .ref a_o_planner, .ref a_o_ruler, .ref a_o_life, .ref a_o_latestLife, .int o_wasLived, .int o_wasParsed, .int o_faultKind, .int o_faultPlace, .int o_latestStatus, .long o_fractionTop, .long o_fractionBottom])), (a_o_city, .inr (0, [.int o_city_wage, .int o_city_delay, .int o_city_odds, .int o_city_clock, .int o_city_hasWeeks, .ref a_o_city_streets, .ref a_o_city_names, .ref a_o_city_extras, .ref a_o_city_happenings, .ref a_o_city_watchers, .ref a_o_city_weeks])), (a_o_city_extras, .inr (7, [.int 5, .ref a_o_city_extras_cells, .int o_city_extras_many])), (a_o_city_extras_cells, .inl (E.2.1, 35, .inl o_city_extras_cells))]
set_option maxHeartbeats 4000000 in
set_option maxRecDepth 100000 in
theorem ct_X11_extra (l : Launch) (E : vE) (a_o a_o_city a_o_ahead a_o_marks a_o_tape a_o_cityReader a_o_weeksReader a_o_trays a_o_planner a_o_ruler a_o_life a_o_latestLife a_o_city_streets a_o_city_names a_o_city_extras a_o_city_happenings a_o_city_watchers a_o_city_weeks a_o_city_extras_cells : Nat) (o_marked : Int32) (o_wasLived : Int32) (o_wasParsed : Int32) (o_faultKind : Int32) (o_faultPlace : Int32) (o_latestStatus : Int32) (o_fractionTop : Int64) (o_fractionBottom : Int64) (o_city_wage : Int32) (o_city_delay : Int32) (o_city_odds : Int32) (o_city_clock : Int32) (o_city_hasWeeks : Int32) (o_city_extras_many : Int32) (o_city_extras_cells : Nat → Int32) (v1 : Int32) (v2 : Int32) (u : Int32 × Int32) (hf : X11_extra o_latestStatus o_city_extras_many o_city_extras_cells v1 v2 = some u) :
    CtI l yX11_extra cX11_extra 3 (some .int) 2 E [.ref a_o, .int v1, .int v2] (wd_X11_extra E a_o a_o_city a_o_ahead a_o_marks a_o_tape a_o_cityReader a_o_weeksReader a_o_trays a_o_planner a_o_ruler a_o_life a_o_latestLife a_o_city_streets a_o_city_names a_o_city_extras a_o_city_happenings a_o_city_watchers a_o_city_weeks a_o_city_extras_cells o_marked o_wasLived o_wasParsed o_faultKind o_faultPlace o_latestStatus o_fractionTop o_fractionBottom o_city_wage o_city_delay o_city_odds o_city_clock o_city_hasWeeks o_city_extras_many o_city_extras_cells) (wd_X11_extra E a_o a_o_city a_o_ahead a_o_marks a_o_tape a_o_cityReader a_o_weeksReader a_o_trays a_o_planner a_o_ruler a_o_life a_o_latestLife a_o_city_streets a_o_city_names a_o_city_extras a_o_city_happenings a_o_city_watchers a_o_city_weeks a_o_city_extras_cells o_marked o_wasLived o_wasParsed o_faultKind o_faultPlace u.2 o_fractionTop o_fractionBottom o_city_wage o_city_delay o_city_odds o_city_clock o_city_hasWeeks o_city_extras_many o_city_extras_cells) u.1 := by
  refine ctI (by decide) (Nat.le_of_ble_eq_true rfl) ?_
  intro p e s m below meth cd A ls aa QQ hq cx hP hD hS hl
  obtain ⟨⟨hx, hb, hml, hown, hts⟩, hr, hlocks, hK, hA, hX⟩ := id cx
  have hl : lv_has ls 3 [(0, .ref a_o), (1, .int v1), (2, .int v2)] := hl
  have hj51 : ∀ (o_latestStatus_j51 : Int32) (k0_j51 : Int32) (H : Heap) (locs : List Loc) (ls : Array Slot), X11_extra_j51 o_latestStatus_j51 o_city_extras_many o_city_extras_cells k0_j51 = some u → va_P E.1 vwCl (wd_X11_extra E a_o a_o_city a_o_ahead a_o_marks a_o_tape a_o_cityReader a_o_weeksReader a_o_trays a_o_planner a_o_ruler a_o_life a_o_latestLife a_o_city_streets a_o_city_names a_o_city_extras a_o_city_happenings a_o_city_watchers a_o_city_weeks a_o_city_extras_cells o_marked o_wasLived o_wasParsed o_faultKind o_faultPlace o_latestStatus_j51 o_fractionTop o_fractionBottom o_city_wage o_city_delay o_city_odds o_city_clock o_city_hasWeeks o_city_extras_many o_city_extras_cells) H → va_D A (wd_X11_extra E a_o a_o_city a_o_ahead a_o_marks a_o_tape a_o_cityReader a_o_weeksReader a_o_trays a_o_planner a_o_ruler a_o_life a_o_latestLife a_o_city_streets a_o_city_names a_o_city_extras a_o_city_happenings a_o_city_watchers a_o_city_weeks a_o_city_extras_cells o_marked o_wasLived o_wasParsed o_faultKind o_faultPlace o_latestStatus_j51 o_fractionTop o_fractionBottom o_city_wage o_city_delay o_city_odds o_city_clock o_city_hasWeeks o_city_extras_many o_city_extras_cells) → va_S A s.heap H locs → lv_has ls 3 [] → W p l e (rmd 2) s m aa below meth cd H locs 0 0 QQ (F0 m 51 ls [.int k0_j51, .ref a_o]) := by
    intro o_latestStatus_j51 k0_j51 H locs ls hf hP hD hS hl
    unfold X11_extra_j51 at hf
    obtain ⟨u51, hu51, hf⟩ := bd hf
    refine callVI (wn := (wd_X11_extra E a_o a_o_city a_o_ahead a_o_marks a_o_tape a_o_cityReader a_o_weeksReader a_o_trays a_o_planner a_o_ruler a_o_life a_o_latestLife a_o_city_streets a_o_city_names a_o_city_extras a_o_city_happenings a_o_city_watchers a_o_city_weeks a_o_city_extras_cells o_marked o_wasLived o_wasParsed o_faultKind o_faultPlace u51.2 o_fractionTop o_fractionBottom o_city_wage o_city_delay o_city_odds o_city_clock o_city_hasWeeks o_city_extras_many o_city_extras_cells)) (n1 := 4) (ct_X11_answer l E a_o a_o_city a_o_ahead a_o_marks a_o_tape a_o_cityReader a_o_weeksReader a_o_trays a_o_planner a_o_ruler a_o_life a_o_latestLife o_marked o_wasLived o_wasParsed o_faultKind o_faultPlace o_latestStatus_j51 o_fractionTop o_fractionBottom k0_j51 u51 hu51) [0] cal_X11_answer cav_X11_answer lk_X11_172 cx hP hD hS hl dX11_extra_51 rfl rfl rfl rfl (Nat.le_of_ble_eq_true rfl) ⟨Nat.le_of_ble_eq_true rfl, Nat.le_of_ble_eq_true rfl⟩ rfl (by decide +kernel) rfl [some 0, none, none, none] rfl (by decide +kernel) rfl (fun H locs hP hD hS => ?_)
    obtain rfl := Option.some.inj hf
    subst hq
    exact retI cx hP hD hS dX11_extra_54
  have hj17 : ∀ (o_latestStatus_j17 : Int32) (H : Heap) (locs : List Loc) (ls : Array Slot), X11_extra_j17 o_latestStatus_j17 o_city_extras_many o_city_extras_cells = some u → va_P E.1 vwCl (wd_X11_extra E a_o a_o_city a_o_ahead a_o_marks a_o_tape a_o_cityReader a_o_weeksReader a_o_trays a_o_planner a_o_ruler a_o_life a_o_latestLife a_o_city_streets a_o_city_names a_o_city_extras a_o_city_happenings a_o_city_watchers a_o_city_weeks a_o_city_extras_cells o_marked o_wasLived o_wasParsed o_faultKind o_faultPlace o_latestStatus_j17 o_fractionTop o_fractionBottom o_city_wage o_city_delay o_city_odds o_city_clock o_city_hasWeeks o_city_extras_many o_city_extras_cells) H → va_D A (wd_X11_extra E a_o a_o_city a_o_ahead a_o_marks a_o_tape a_o_cityReader a_o_weeksReader a_o_trays a_o_planner a_o_ruler a_o_life a_o_latestLife a_o_city_streets a_o_city_names a_o_city_extras a_o_city_happenings a_o_city_watchers a_o_city_weeks a_o_city_extras_cells o_marked o_wasLived o_wasParsed o_faultKind o_faultPlace o_latestStatus_j17 o_fractionTop o_fractionBottom o_city_wage o_city_delay o_city_odds o_city_clock o_city_hasWeeks o_city_extras_many o_city_extras_cells) → va_S A s.heap H locs → lv_has ls 3 [(0, .ref a_o)] → W p l e (rmd 2) s m aa below meth cd H locs 0 0 QQ (F0 m 17 ls []) := by
    intro o_latestStatus_j17 H locs ls hf hP hD hS hl
    unfold X11_extra_j17 at hf
    refine lv_aload_n hx hb dX11_extra_17 rfl (lv_at hl 0 rfl) ?_
    refine lv_iconst (v := 1) hx hb dX11_extra_18 (by decide) ?_
    obtain ⟨u19, hu19, hf⟩ := bd hf
    refine callVI (wn := (wd_X11_extra E a_o a_o_city a_o_ahead a_o_marks a_o_tape a_o_cityReader a_o_weeksReader a_o_trays a_o_planner a_o_ruler a_o_life a_o_latestLife a_o_city_streets a_o_city_names a_o_city_extras a_o_city_happenings a_o_city_watchers a_o_city_weeks a_o_city_extras_cells o_marked o_wasLived o_wasParsed o_faultKind o_faultPlace u19.2 o_fractionTop o_fractionBottom o_city_wage o_city_delay o_city_odds o_city_clock o_city_hasWeeks o_city_extras_many o_city_extras_cells)) (n1 := 4) (ct_X11_none l E a_o a_o_city a_o_ahead a_o_marks a_o_tape a_o_cityReader a_o_weeksReader a_o_trays a_o_planner a_o_ruler a_o_life a_o_latestLife o_marked o_wasLived o_wasParsed o_faultKind o_faultPlace o_latestStatus_j17 o_fractionTop o_fractionBottom (1 : Int32) u19 hu19) [0] cal_X11_none cav_X11_none lk_X11_119 cx hP hD hS hl dX11_extra_19 rfl rfl rfl rfl (Nat.le_of_ble_eq_true rfl) ⟨Nat.le_of_ble_eq_true rfl, Nat.le_of_ble_eq_true rfl⟩ rfl (by decide +kernel) rfl [some 0, none, none, none] rfl (by decide +kernel) rfl (fun H locs hP hD hS => ?_)
    obtain rfl := Option.some.inj hf
    subst hq
    exact retI cx hP hD hS dX11_extra_22
  unfold X11_extra at hf
  refine lv_aload_n hx hb dX11_extra_0 rfl (lv_at hl 0 rfl) ?_
  refine lv_iload_n hx hb dX11_extra_1 rfl (lv_at hl 1 rfl) ?_
  obtain ⟨u2, hu2, hf⟩ := bd hf
  refine keepVI (ct_X11_isExtra l E a_o a_o_city a_o_ahead a_o_marks a_o_tape a_o_cityReader a_o_weeksReader a_o_trays a_o_planner a_o_ruler a_o_life a_o_latestLife a_o_city_streets a_o_city_names a_o_city_extras a_o_city_happenings a_o_city_watchers a_o_city_weeks a_o_city_extras_cells o_marked o_wasLived o_wasParsed o_faultKind o_faultPlace o_latestStatus o_fractionTop o_fractionBottom o_city_wage o_city_delay o_city_odds o_city_clock o_city_hasWeeks o_city_extras_many v1 u2 hu2) [0, 1, 2] cal_X11_isExtra cav_X11_isExtra lk_X11_241 cx hP hD hS hl dX11_extra_2 rfl rfl rfl rfl (Nat.le_of_ble_eq_true rfl) ⟨Nat.le_of_ble_eq_true rfl, Nat.le_of_ble_eq_true rfl⟩ rfl (by decide) (fun H locs hP hS => ?_)
  refine lv_if_eq (tgt := 17) hx hb dX11_extra_5 (by decide) (fun hc => ?_) (fun hc => ?_)
  · have hf := it_t hc hf
    exact hj17 _ _ _ _ hf hP hD hS (lv_sub hl [0] rfl)
  · have hf := it_f hc hf
    refine lv_iload_n hx hb dX11_extra_8 rfl (lv_at hl 2 rfl) ?_
    refine lv_iconst (v := 0) hx hb dX11_extra_9 (by decide) ?_
    refine lv_iconst (v := 4) hx hb dX11_extra_10 (by decide) ?_
    obtain ⟨u11, hu11, hf⟩ := bd hf
    refine keepSI (ct_X11_within l E v2 (0 : Int32) (4 : Int32) u11 hu11) [] cal_X11_within sta_X11_within lk_X11_96 cx hP hD hS hl dX11_extra_11 rfl rfl (Nat.le_of_ble_eq_true rfl) ⟨Nat.le_of_ble_eq_true rfl, Nat.le_of_ble_eq_true rfl⟩ rfl (by decide) (fun H locs hP hS => ?_)
    refine lv_if_ne (tgt := 23) hx hb dX11_extra_14 (by decide) (fun hc => ?_) (fun hc => ?_)
    · have hf := it_f hc hf
      refine lv_aload_n hx hb dX11_extra_23 rfl (lv_at hl 0 rfl) ?_
      refine lv_iload_n hx hb dX11_extra_24 rfl (lv_at hl 2 rfl) ?_
      refine lv_if_ne (tgt := 39) hx hb dX11_extra_25 (by decide) (fun hc => ?_) (fun hc => ?_)
      · have hf := it_f hc hf
        refine lv_aload_n hx hb dX11_extra_39 rfl (lv_at hl 0 rfl) ?_
        refine va_get (D := E.1) (ci := 11) (v := .ref a_o_city) (C := RX11) (T := TX11) (N := 19) hx hb hts inX11 hown hK hP 0 rfl rfl 0 (by decide) (hts _ fl_X11_10) (fun _ h9 => h9) rfl dX11_extra_40 ?_
        refine va_get (D := E.1) (ci := 0) (v := .ref a_o_city_extras) (C := RX0) (T := TX0) (N := 11) hx hb hts inX0 hown hK hP 1 rfl rfl 7 (by decide) (hts _ fl_X11_210) (fun _ h9 => h9) rfl dX11_extra_43 ?_
        refine lv_iload_n hx hb dX11_extra_46 rfl (lv_at hl 1 rfl) ?_
        refine lv_iload_n hx hb dX11_extra_47 rfl (lv_at hl 2 rfl) ?_
        obtain ⟨u48, hu48, hf⟩ := bd hf
        refine keepVI (ct_X7_get l E a_o_city_extras a_o_city_extras_cells 35 5 o_city_extras_many o_city_extras_cells v1 v2 u48 hu48) [2, 3] cal_X7_get cav_X7_get lk_X11_247 cx hP hD hS hl dX11_extra_48 rfl rfl rfl rfl (Nat.le_of_ble_eq_true rfl) ⟨Nat.le_of_ble_eq_true rfl, Nat.le_of_ble_eq_true rfl⟩ rfl (by decide) (fun H locs hP hS => ?_)
        exact hj51 _ _ _ _ _ hf hP hD hS (lv_sub hl [] rfl)
      · have hf := it_t hc hf
        refine lv_aload_n hx hb dX11_extra_28 rfl (lv_at hl 0 rfl) ?_
        refine va_get (D := E.1) (ci := 11) (v := .ref a_o_city) (C := RX11) (T := TX11) (N := 19) hx hb hts inX11 hown hK hP 0 rfl rfl 0 (by decide) (hts _ fl_X11_10) (fun _ h9 => h9) rfl dX11_extra_29 ?_
        refine lv_iload_n hx hb dX11_extra_32 rfl (lv_at hl 1 rfl) ?_
        obtain ⟨u33, hu33, hf⟩ := bd hf
        refine keepVI (ct_X0_whereabouts l E a_o_city a_o_city_streets a_o_city_names a_o_city_extras a_o_city_happenings a_o_city_watchers a_o_city_weeks a_o_city_extras_cells o_city_wage o_city_delay o_city_odds o_city_clock o_city_hasWeeks o_city_extras_many o_city_extras_cells v1 u33 hu33) [1, 2, 3] cal_X0_whereabouts cav_X0_whereabouts lk_X11_244 cx hP hD hS hl dX11_extra_33 rfl rfl rfl rfl (Nat.le_of_ble_eq_true rfl) ⟨Nat.le_of_ble_eq_true rfl, Nat.le_of_ble_eq_true rfl⟩ rfl (by decide) (fun H locs hP hS => ?_)
        refine lv_goto (tgt := 51) hx hb dX11_extra_36 (by decide) ?_
        exact hj51 _ _ _ _ _ hf hP hD hS (lv_sub hl [] rfl)
    · have hf := it_t hc hf
      exact hj17 _ _ _ _ hf hP hD hS (lv_sub hl [0] rfl)
def X11_isHappening (o_city_happenings_many : Int32) (v1 : Int32) : Option (Int32) :=
  (X11_within v1 (0 : Int32) (o_city_happenings_many - 1)).bind fun u14 =>
  if isZ u14 then some u14 else none
abbrev wd_X11_isHappening (E : vE) (a_o a_o_city a_o_ahead a_o_marks a_o_tape a_o_cityReader a_o_weeksReader a_o_trays a_o_planner a_o_ruler a_o_life a_o_latestLife a_o_city_streets a_o_city_names a_o_city_extras a_o_city_happenings a_o_city_watchers a_o_city_weeks a_o_city_happenings_cells : Nat) (o_marked : Int32) (o_wasLived : Int32) (o_wasParsed : Int32) (o_faultKind : Int32) (o_faultPlace : Int32) (o_latestStatus : Int32) (o_fractionTop : Int64) (o_fractionBottom : Int64) (o_city_wage : Int32) (o_city_delay : Int32) (o_city_odds : Int32) (o_city_clock : Int32) (o_city_hasWeeks : Int32) (o_city_happenings_many : Int32) : va_W := [(a_o, .inr (11, [.ref a_o_city, .ref a_o_ahead, .ref a_o_marks, .int o_marked, .ref a_o_tape, .ref a_o_cityReader, .ref a_o_weeksReader, .ref a_o_trays, .ref a_o_planner, .ref a_o_ruler, .ref a_o_life, .ref a_o_latestLife, .int o_wasLived, .int o_wasParsed, .int o_faultKind, .int o_faultPlace, .int o_latestStatus, .long o_fractionTop, .long o_fractionBottom])), (a_o_city, .inr (0, [.int o_city_wage, .int o_city_delay, .int o_city_odds, .int o_city_clock, .int o_city_hasWeeks, .ref a_o_city_streets, .ref a_o_city_names, .ref a_o_city_extras, .ref a_o_city_happenings, .ref a_o_city_watchers, .ref a_o_city_weeks])), (a_o_city_happenings, .inr (7, [.int 5, .ref a_o_city_happenings_cells, .int o_city_happenings_many]))]
set_option maxHeartbeats 4000000 in
set_option maxRecDepth 100000 in
theorem ct_X11_isHappening (l : Launch) (E : vE) (a_o a_o_city a_o_ahead a_o_marks a_o_tape a_o_cityReader a_o_weeksReader a_o_trays a_o_planner a_o_ruler a_o_life a_o_latestLife a_o_city_streets a_o_city_names a_o_city_extras a_o_city_happenings a_o_city_watchers a_o_city_weeks a_o_city_happenings_cells : Nat) (o_marked : Int32) (o_wasLived : Int32) (o_wasParsed : Int32) (o_faultKind : Int32) (o_faultPlace : Int32) (o_latestStatus : Int32) (o_fractionTop : Int64) (o_fractionBottom : Int64) (o_city_wage : Int32) (o_city_delay : Int32) (o_city_odds : Int32) (o_city_clock : Int32) (o_city_hasWeeks : Int32) (o_city_happenings_many : Int32) (v1 : Int32) (u : Int32) (hf : X11_isHappening o_city_happenings_many v1 = some u) :
    CtI l yX11_isHappening cX11_isHappening 2 (some .boolean) 1 E [.ref a_o, .int v1] (wd_X11_isHappening E a_o a_o_city a_o_ahead a_o_marks a_o_tape a_o_cityReader a_o_weeksReader a_o_trays a_o_planner a_o_ruler a_o_life a_o_latestLife a_o_city_streets a_o_city_names a_o_city_extras a_o_city_happenings a_o_city_watchers a_o_city_weeks a_o_city_happenings_cells o_marked o_wasLived o_wasParsed o_faultKind o_faultPlace o_latestStatus o_fractionTop o_fractionBottom o_city_wage o_city_delay o_city_odds o_city_clock o_city_hasWeeks o_city_happenings_many) (wd_X11_isHappening E a_o a_o_city a_o_ahead a_o_marks a_o_tape a_o_cityReader a_o_weeksReader a_o_trays a_o_planner a_o_ruler a_o_life a_o_latestLife a_o_city_streets a_o_city_names a_o_city_extras a_o_city_happenings a_o_city_watchers a_o_city_weeks a_o_city_happenings_cells o_marked o_wasLived o_wasParsed o_faultKind o_faultPlace o_latestStatus o_fractionTop o_fractionBottom o_city_wage o_city_delay o_city_odds o_city_clock o_city_hasWeeks o_city_happenings_many) u := by
  refine ctI (by decide) (Nat.le_of_ble_eq_true rfl) ?_
  intro p e s m below meth cd A ls aa QQ hq cx hP hD hS hl
  obtain ⟨⟨hx, hb, hml, hown, hts⟩, hr, hlocks, hK, hA, hX⟩ := id cx
  have hl : lv_has ls 2 [(0, .ref a_o), (1, .int v1)] := hl
  unfold X11_isHappening at hf
  refine lv_iload_n hx hb dX11_isHappening_0 rfl (lv_at hl 1 rfl) ?_
  refine lv_iconst (v := 0) hx hb dX11_isHappening_1 (by decide) ?_
  refine lv_aload_n hx hb dX11_isHappening_2 rfl (lv_at hl 0 rfl) ?_
  refine va_get (D := E.1) (ci := 11) (v := .ref a_o_city) (C := RX11) (T := TX11) (N := 19) hx hb hts inX11 hown hK hP 0 rfl rfl 0 (by decide) (hts _ fl_X11_10) (fun _ h9 => h9) rfl dX11_isHappening_3 ?_
  refine va_get (D := E.1) (ci := 0) (v := .ref a_o_city_happenings) (C := RX0) (T := TX0) (N := 11) hx hb hts inX0 hown hK hP 1 rfl rfl 8 (by decide) (hts _ fl_X11_213) (fun _ h9 => h9) rfl dX11_isHappening_6 ?_
  refine va_get (D := E.1) (ci := 7) (v := .int o_city_happenings_many) (C := RX7) (T := TX7) (N := 3) hx hb hts inX7 hown hK hP 2 rfl rfl 2 (by decide) (hts _ fl_X11_198) (fun _ h9 => h9) rfl dX11_isHappening_9 ?_
  refine lv_iconst (v := 1) hx hb dX11_isHappening_12 (by decide) ?_
  refine lv_isub hx hb dX11_isHappening_13 ?_
  obtain ⟨u14, hu14, hf⟩ := bd hf
  refine keepSI (ct_X11_within l E v1 (0 : Int32) (o_city_happenings_many - 1) u14 hu14) [] cal_X11_within sta_X11_within lk_X11_96 cx hP hD hS hl dX11_isHappening_14 rfl rfl (Nat.le_of_ble_eq_true rfl) ⟨Nat.le_of_ble_eq_true rfl, Nat.le_of_ble_eq_true rfl⟩ rfl (by decide) (fun H locs hP hS => ?_)
  obtain ⟨hz, hf⟩ := ck hf
  obtain rfl := Option.some.inj hf
  subst hq
  exact retZ cx hz hP hD hS dX11_isHappening_17
def X11_happening_j17 (F : Nat) (o_latestStatus : Int32) (o_city_extras_many : Int32) (o_city_extras_cells : Nat → Int32) (o_city_happenings_many : Int32) (o_city_happenings_cells : Nat → Int32) : Option (Int32 × Int32) :=
  (X11_none o_latestStatus (1 : Int32)).bind fun u19 =>
  some (u19.1, u19.2)
def X11_happening (F : Nat) (o_latestStatus : Int32) (o_city_extras_many : Int32) (o_city_extras_cells : Nat → Int32) (o_city_happenings_many : Int32) (o_city_happenings_cells : Nat → Int32) (v1 : Int32) (v2 : Int32) : Option (Int32 × Int32) :=
  (X11_isHappening o_city_happenings_many v1).bind fun u2 =>
  if u2 = 0 then
  X11_happening_j17 F o_latestStatus o_city_extras_many o_city_extras_cells o_city_happenings_many o_city_happenings_cells
  else
  (X11_within v2 (0 : Int32) (4 : Int32)).bind fun u11 =>
  if u11 = 0 then
  X11_happening_j17 F o_latestStatus o_city_extras_many o_city_extras_cells o_city_happenings_many o_city_happenings_cells
  else
  if v2 = 4 then
  (X7_get 40 5 o_city_happenings_many o_city_happenings_cells v1 (0 : Int32)).bind fun u42 =>
  (X0_behind F o_city_extras_many o_city_extras_cells u42).bind fun u45 =>
  (J6_bitCount_0f7a4 u45).bind fun u48 =>
  (X11_answer o_latestStatus u48).bind fun u51 =>
  some (u51.1, u51.2)
  else
  (X7_get 40 5 o_city_happenings_many o_city_happenings_cells v1 v2).bind fun u65 =>
  (X11_answer o_latestStatus u65).bind fun u68 =>
  some (u68.1, u68.2)
abbrev wd_X11_happening (E : vE) (a_o a_o_city a_o_ahead a_o_marks a_o_tape a_o_cityReader a_o_weeksReader a_o_trays a_o_planner a_o_ruler a_o_life a_o_latestLife a_o_city_streets a_o_city_names a_o_city_extras a_o_city_happenings a_o_city_watchers a_o_city_weeks a_o_city_extras_cells a_o_city_happenings_cells : Nat) (o_marked : Int32) (o_wasLived : Int32) (o_wasParsed : Int32) (o_faultKind : Int32) (o_faultPlace : Int32) (o_latestStatus : Int32) (o_fractionTop : Int64) (o_fractionBottom : Int64) (o_city_wage : Int32) (o_city_delay : Int32) (o_city_odds : Int32) (o_city_clock : Int32) (o_city_hasWeeks : Int32) (o_city_extras_many : Int32) (o_city_extras_cells : Nat → Int32) (o_city_happenings_many : Int32) (o_city_happenings_cells : Nat → Int32) : va_W := [(a_o, .inr (11, [.ref a_o_city, .ref a_o_ahead, .ref a_o_marks, .int o_marked, .ref a_o_tape, .ref a_o_cityReader, .ref a_o_weeksReader, .ref a_o_trays, .ref a_o_planner, .ref a_o_ruler, .ref a_o_life, .ref a_o_latestLife, .int o_wasLived, .int o_wasParsed, .int o_faultKind, .int o_faultPlace, .int o_latestStatus, .long o_fractionTop, .long o_fractionBottom])), (a_o_city, .inr (0, [.int o_city_wage, .int o_city_delay, .int o_city_odds, .int o_city_clock, .int o_city_hasWeeks, .ref a_o_city_streets, .ref a_o_city_names, .ref a_o_city_extras, .ref a_o_city_happenings, .ref a_o_city_watchers, .ref a_o_city_weeks])), (a_o_city_extras, .inr (7, [.int 5, .ref a_o_city_extras_cells, .int o_city_extras_many])), (a_o_city_extras_cells, .inl (E.2.1, 35, .inl o_city_extras_cells)), (a_o_city_happenings, .inr (7, [.int 5, .ref a_o_city_happenings_cells, .int o_city_happenings_many])), (a_o_city_happenings_cells, .inl (E.2.1, 40, .inl o_city_happenings_cells))]
set_option maxHeartbeats 4000000 in
set_option maxRecDepth 100000 in
theorem ct_X11_happening (l : Launch) (E : vE) (F : Nat) (a_o a_o_city a_o_ahead a_o_marks a_o_tape a_o_cityReader a_o_weeksReader a_o_trays a_o_planner a_o_ruler a_o_life a_o_latestLife a_o_city_streets a_o_city_names a_o_city_extras a_o_city_happenings a_o_city_watchers a_o_city_weeks a_o_city_extras_cells a_o_city_happenings_cells : Nat) (o_marked : Int32) (o_wasLived : Int32) (o_wasParsed : Int32) (o_faultKind : Int32) (o_faultPlace : Int32) (o_latestStatus : Int32) (o_fractionTop : Int64) (o_fractionBottom : Int64) (o_city_wage : Int32) (o_city_delay : Int32) (o_city_odds : Int32) (o_city_clock : Int32) (o_city_hasWeeks : Int32) (o_city_extras_many : Int32) (o_city_extras_cells : Nat → Int32) (o_city_happenings_many : Int32) (o_city_happenings_cells : Nat → Int32) (v1 : Int32) (v2 : Int32) (u : Int32 × Int32) (hf : X11_happening F o_latestStatus o_city_extras_many o_city_extras_cells o_city_happenings_many o_city_happenings_cells v1 v2 = some u) :
    CtI l yX11_happening cX11_happening 3 (some .int) 3 E [.ref a_o, .int v1, .int v2] (wd_X11_happening E a_o a_o_city a_o_ahead a_o_marks a_o_tape a_o_cityReader a_o_weeksReader a_o_trays a_o_planner a_o_ruler a_o_life a_o_latestLife a_o_city_streets a_o_city_names a_o_city_extras a_o_city_happenings a_o_city_watchers a_o_city_weeks a_o_city_extras_cells a_o_city_happenings_cells o_marked o_wasLived o_wasParsed o_faultKind o_faultPlace o_latestStatus o_fractionTop o_fractionBottom o_city_wage o_city_delay o_city_odds o_city_clock o_city_hasWeeks o_city_extras_many o_city_extras_cells o_city_happenings_many o_city_happenings_cells) (wd_X11_happening E a_o a_o_city a_o_ahead a_o_marks a_o_tape a_o_cityReader a_o_weeksReader a_o_trays a_o_planner a_o_ruler a_o_life a_o_latestLife a_o_city_streets a_o_city_names a_o_city_extras a_o_city_happenings a_o_city_watchers a_o_city_weeks a_o_city_extras_cells a_o_city_happenings_cells o_marked o_wasLived o_wasParsed o_faultKind o_faultPlace u.2 o_fractionTop o_fractionBottom o_city_wage o_city_delay o_city_odds o_city_clock o_city_hasWeeks o_city_extras_many o_city_extras_cells o_city_happenings_many o_city_happenings_cells) u.1 := by
  refine ctI (by decide) (Nat.le_of_ble_eq_true rfl) ?_
  intro p e s m below meth cd A ls aa QQ hq cx hP hD hS hl
  obtain ⟨⟨hx, hb, hml, hown, hts⟩, hr, hlocks, hK, hA, hX⟩ := id cx
  have hl : lv_has ls 3 [(0, .ref a_o), (1, .int v1), (2, .int v2)] := hl
  have hj17 : ∀ (o_latestStatus_j17 : Int32) (H : Heap) (locs : List Loc) (ls : Array Slot), X11_happening_j17 F o_latestStatus_j17 o_city_extras_many o_city_extras_cells o_city_happenings_many o_city_happenings_cells = some u → va_P E.1 vwCl (wd_X11_happening E a_o a_o_city a_o_ahead a_o_marks a_o_tape a_o_cityReader a_o_weeksReader a_o_trays a_o_planner a_o_ruler a_o_life a_o_latestLife a_o_city_streets a_o_city_names a_o_city_extras a_o_city_happenings a_o_city_watchers a_o_city_weeks a_o_city_extras_cells a_o_city_happenings_cells o_marked o_wasLived o_wasParsed o_faultKind o_faultPlace o_latestStatus_j17 o_fractionTop o_fractionBottom o_city_wage o_city_delay o_city_odds o_city_clock o_city_hasWeeks o_city_extras_many o_city_extras_cells o_city_happenings_many o_city_happenings_cells) H → va_D A (wd_X11_happening E a_o a_o_city a_o_ahead a_o_marks a_o_tape a_o_cityReader a_o_weeksReader a_o_trays a_o_planner a_o_ruler a_o_life a_o_latestLife a_o_city_streets a_o_city_names a_o_city_extras a_o_city_happenings a_o_city_watchers a_o_city_weeks a_o_city_extras_cells a_o_city_happenings_cells o_marked o_wasLived o_wasParsed o_faultKind o_faultPlace o_latestStatus_j17 o_fractionTop o_fractionBottom o_city_wage o_city_delay o_city_odds o_city_clock o_city_hasWeeks o_city_extras_many o_city_extras_cells o_city_happenings_many o_city_happenings_cells) → va_S A s.heap H locs → lv_has ls 3 [(0, .ref a_o)] → W p l e (rmd 3) s m aa below meth cd H locs 0 0 QQ (F0 m 17 ls []) := by
    intro o_latestStatus_j17 H locs ls hf hP hD hS hl
    unfold X11_happening_j17 at hf
    refine lv_aload_n hx hb dX11_happening_17 rfl (lv_at hl 0 rfl) ?_
    refine lv_iconst (v := 1) hx hb dX11_happening_18 (by decide) ?_
    obtain ⟨u19, hu19, hf⟩ := bd hf
    refine callVI (wn := (wd_X11_happening E a_o a_o_city a_o_ahead a_o_marks a_o_tape a_o_cityReader a_o_weeksReader a_o_trays a_o_planner a_o_ruler a_o_life a_o_latestLife a_o_city_streets a_o_city_names a_o_city_extras a_o_city_happenings a_o_city_watchers a_o_city_weeks a_o_city_extras_cells a_o_city_happenings_cells o_marked o_wasLived o_wasParsed o_faultKind o_faultPlace u19.2 o_fractionTop o_fractionBottom o_city_wage o_city_delay o_city_odds o_city_clock o_city_hasWeeks o_city_extras_many o_city_extras_cells o_city_happenings_many o_city_happenings_cells)) (n1 := 6) (ct_X11_none l E a_o a_o_city a_o_ahead a_o_marks a_o_tape a_o_cityReader a_o_weeksReader a_o_trays a_o_planner a_o_ruler a_o_life a_o_latestLife o_marked o_wasLived o_wasParsed o_faultKind o_faultPlace o_latestStatus_j17 o_fractionTop o_fractionBottom (1 : Int32) u19 hu19) [0] cal_X11_none cav_X11_none lk_X11_119 cx hP hD hS hl dX11_happening_19 rfl rfl rfl rfl (Nat.le_of_ble_eq_true rfl) ⟨Nat.le_of_ble_eq_true rfl, Nat.le_of_ble_eq_true rfl⟩ rfl (by decide +kernel) rfl [some 0, none, none, none, none, none] rfl (by decide +kernel) rfl (fun H locs hP hD hS => ?_)
    obtain rfl := Option.some.inj hf
    subst hq
    exact retI cx hP hD hS dX11_happening_22
  unfold X11_happening at hf
  refine lv_aload_n hx hb dX11_happening_0 rfl (lv_at hl 0 rfl) ?_
  refine lv_iload_n hx hb dX11_happening_1 rfl (lv_at hl 1 rfl) ?_
  obtain ⟨u2, hu2, hf⟩ := bd hf
  refine keepVI (ct_X11_isHappening l E a_o a_o_city a_o_ahead a_o_marks a_o_tape a_o_cityReader a_o_weeksReader a_o_trays a_o_planner a_o_ruler a_o_life a_o_latestLife a_o_city_streets a_o_city_names a_o_city_extras a_o_city_happenings a_o_city_watchers a_o_city_weeks a_o_city_happenings_cells o_marked o_wasLived o_wasParsed o_faultKind o_faultPlace o_latestStatus o_fractionTop o_fractionBottom o_city_wage o_city_delay o_city_odds o_city_clock o_city_hasWeeks o_city_happenings_many v1 u2 hu2) [0, 1, 4] cal_X11_isHappening cav_X11_isHappening lk_X11_249 cx hP hD hS hl dX11_happening_2 rfl rfl rfl rfl (Nat.le_of_ble_eq_true rfl) ⟨Nat.le_of_ble_eq_true rfl, Nat.le_of_ble_eq_true rfl⟩ rfl (by decide) (fun H locs hP hS => ?_)
  refine lv_if_eq (tgt := 17) hx hb dX11_happening_5 (by decide) (fun hc => ?_) (fun hc => ?_)
  · have hf := it_t hc hf
    exact hj17 _ _ _ _ hf hP hD hS (lv_sub hl [0] rfl)
  · have hf := it_f hc hf
    refine lv_iload_n hx hb dX11_happening_8 rfl (lv_at hl 2 rfl) ?_
    refine lv_iconst (v := 0) hx hb dX11_happening_9 (by decide) ?_
    refine lv_iconst (v := 4) hx hb dX11_happening_10 (by decide) ?_
    obtain ⟨u11, hu11, hf⟩ := bd hf
    refine keepSI (ct_X11_within l E v2 (0 : Int32) (4 : Int32) u11 hu11) [] cal_X11_within sta_X11_within lk_X11_96 cx hP hD hS hl dX11_happening_11 rfl rfl (Nat.le_of_ble_eq_true rfl) ⟨Nat.le_of_ble_eq_true rfl, Nat.le_of_ble_eq_true rfl⟩ rfl (by decide) (fun H locs hP hS => ?_)
    refine lv_if_ne (tgt := 23) hx hb dX11_happening_14 (by decide) (fun hc => ?_) (fun hc => ?_)
    · have hf := it_f hc hf
      refine lv_iload_n hx hb dX11_happening_23 rfl (lv_at hl 2 rfl) ?_
      refine lv_iconst (v := 4) hx hb dX11_happening_24 (by decide) ?_
      refine lv_icmp_ne (tgt := 55) hx hb dX11_happening_25 (by decide) (fun hc => ?_) (fun hc => ?_)
      · have hf := it_f hc hf
        refine lv_aload_n hx hb dX11_happening_55 rfl (lv_at hl 0 rfl) ?_
        refine lv_aload_n hx hb dX11_happening_56 rfl (lv_at hl 0 rfl) ?_
        refine va_get (D := E.1) (ci := 11) (v := .ref a_o_city) (C := RX11) (T := TX11) (N := 19) hx hb hts inX11 hown hK hP 0 rfl rfl 0 (by decide) (hts _ fl_X11_10) (fun _ h9 => h9) rfl dX11_happening_57 ?_
        refine va_get (D := E.1) (ci := 0) (v := .ref a_o_city_happenings) (C := RX0) (T := TX0) (N := 11) hx hb hts inX0 hown hK hP 1 rfl rfl 8 (by decide) (hts _ fl_X11_213) (fun _ h9 => h9) rfl dX11_happening_60 ?_
        refine lv_iload_n hx hb dX11_happening_63 rfl (lv_at hl 1 rfl) ?_
        refine lv_iload_n hx hb dX11_happening_64 rfl (lv_at hl 2 rfl) ?_
        obtain ⟨u65, hu65, hf⟩ := bd hf
        refine keepVI (ct_X7_get l E a_o_city_happenings a_o_city_happenings_cells 40 5 o_city_happenings_many o_city_happenings_cells v1 v2 u65 hu65) [4, 5] cal_X7_get cav_X7_get lk_X11_247 cx hP hD hS hl dX11_happening_65 rfl rfl rfl rfl (Nat.le_of_ble_eq_true rfl) ⟨Nat.le_of_ble_eq_true rfl, Nat.le_of_ble_eq_true rfl⟩ rfl (by decide) (fun H locs hP hS => ?_)
        obtain ⟨u68, hu68, hf⟩ := bd hf
        refine callVI (wn := (wd_X11_happening E a_o a_o_city a_o_ahead a_o_marks a_o_tape a_o_cityReader a_o_weeksReader a_o_trays a_o_planner a_o_ruler a_o_life a_o_latestLife a_o_city_streets a_o_city_names a_o_city_extras a_o_city_happenings a_o_city_watchers a_o_city_weeks a_o_city_extras_cells a_o_city_happenings_cells o_marked o_wasLived o_wasParsed o_faultKind o_faultPlace u68.2 o_fractionTop o_fractionBottom o_city_wage o_city_delay o_city_odds o_city_clock o_city_hasWeeks o_city_extras_many o_city_extras_cells o_city_happenings_many o_city_happenings_cells)) (n1 := 6) (ct_X11_answer l E a_o a_o_city a_o_ahead a_o_marks a_o_tape a_o_cityReader a_o_weeksReader a_o_trays a_o_planner a_o_ruler a_o_life a_o_latestLife o_marked o_wasLived o_wasParsed o_faultKind o_faultPlace o_latestStatus o_fractionTop o_fractionBottom u65 u68 hu68) [0] cal_X11_answer cav_X11_answer lk_X11_172 cx hP hD hS hl dX11_happening_68 rfl rfl rfl rfl (Nat.le_of_ble_eq_true rfl) ⟨Nat.le_of_ble_eq_true rfl, Nat.le_of_ble_eq_true rfl⟩ rfl (by decide +kernel) rfl [some 0, none, none, none, none, none] rfl (by decide +kernel) rfl (fun H locs hP hD hS => ?_)
        obtain rfl := Option.some.inj hf
        subst hq
        exact retI cx hP hD hS dX11_happening_71
      · have hf := it_t hc hf
        refine lv_aload_n hx hb dX11_happening_28 rfl (lv_at hl 0 rfl) ?_
        refine lv_aload_n hx hb dX11_happening_29 rfl (lv_at hl 0 rfl) ?_
        refine va_get (D := E.1) (ci := 11) (v := .ref a_o_city) (C := RX11) (T := TX11) (N := 19) hx hb hts inX11 hown hK hP 0 rfl rfl 0 (by decide) (hts _ fl_X11_10) (fun _ h9 => h9) rfl dX11_happening_30 ?_
        refine lv_aload_n hx hb dX11_happening_33 rfl (lv_at hl 0 rfl) ?_
        refine va_get (D := E.1) (ci := 11) (v := .ref a_o_city) (C := RX11) (T := TX11) (N := 19) hx hb hts inX11 hown hK hP 0 rfl rfl 0 (by decide) (hts _ fl_X11_10) (fun _ h9 => h9) rfl dX11_happening_34 ?_
        refine va_get (D := E.1) (ci := 0) (v := .ref a_o_city_happenings) (C := RX0) (T := TX0) (N := 11) hx hb hts inX0 hown hK hP 1 rfl rfl 8 (by decide) (hts _ fl_X11_213) (fun _ h9 => h9) rfl dX11_happening_37 ?_
        refine lv_iload_n hx hb dX11_happening_40 rfl (lv_at hl 1 rfl) ?_
        refine lv_iconst (v := 0) hx hb dX11_happening_41 (by decide) ?_
        obtain ⟨u42, hu42, hf⟩ := bd hf
        refine keepVI (ct_X7_get l E a_o_city_happenings a_o_city_happenings_cells 40 5 o_city_happenings_many o_city_happenings_cells v1 (0 : Int32) u42 hu42) [4, 5] cal_X7_get cav_X7_get lk_X11_247 cx hP hD hS hl dX11_happening_42 rfl rfl rfl rfl (Nat.le_of_ble_eq_true rfl) ⟨Nat.le_of_ble_eq_true rfl, Nat.le_of_ble_eq_true rfl⟩ rfl (by decide) (fun H locs hP hS => ?_)
        obtain ⟨u45, hu45, hf⟩ := bd hf
        refine keepVI (ct_X0_behind l E F a_o_city a_o_city_streets a_o_city_names a_o_city_extras a_o_city_happenings a_o_city_watchers a_o_city_weeks a_o_city_extras_cells o_city_wage o_city_delay o_city_odds o_city_clock o_city_hasWeeks o_city_extras_many o_city_extras_cells u42 u45 hu45) [1, 2, 3] cal_X0_behind cav_X0_behind lk_X11_252 cx hP hD hS hl dX11_happening_45 rfl rfl rfl rfl (Nat.le_of_ble_eq_true rfl) ⟨Nat.le_of_ble_eq_true rfl, Nat.le_of_ble_eq_true rfl⟩ rfl (by decide) (fun H locs hP hS => ?_)
        obtain ⟨u48, hu48, hf⟩ := bd hf
        refine keepSI (ct_J6_bitCount_0f7a4 l E u45 u48 hu48) [] cal_J6_bitCount_0f7a4 sta_J6_bitCount_0f7a4 lk_X11_255 cx hP hD hS hl dX11_happening_48 rfl rfl (Nat.le_of_ble_eq_true rfl) ⟨Nat.le_of_ble_eq_true rfl, Nat.le_of_ble_eq_true rfl⟩ rfl (by decide) (fun H locs hP hS => ?_)
        obtain ⟨u51, hu51, hf⟩ := bd hf
        refine callVI (wn := (wd_X11_happening E a_o a_o_city a_o_ahead a_o_marks a_o_tape a_o_cityReader a_o_weeksReader a_o_trays a_o_planner a_o_ruler a_o_life a_o_latestLife a_o_city_streets a_o_city_names a_o_city_extras a_o_city_happenings a_o_city_watchers a_o_city_weeks a_o_city_extras_cells a_o_city_happenings_cells o_marked o_wasLived o_wasParsed o_faultKind o_faultPlace u51.2 o_fractionTop o_fractionBottom o_city_wage o_city_delay o_city_odds o_city_clock o_city_hasWeeks o_city_extras_many o_city_extras_cells o_city_happenings_many o_city_happenings_cells)) (n1 := 6) (ct_X11_answer l E a_o a_o_city a_o_ahead a_o_marks a_o_tape a_o_cityReader a_o_weeksReader a_o_trays a_o_planner a_o_ruler a_o_life a_o_latestLife o_marked o_wasLived o_wasParsed o_faultKind o_faultPlace o_latestStatus o_fractionTop o_fractionBottom u48 u51 hu51) [0] cal_X11_answer cav_X11_answer lk_X11_172 cx hP hD hS hl dX11_happening_51 rfl rfl rfl rfl (Nat.le_of_ble_eq_true rfl) ⟨Nat.le_of_ble_eq_true rfl, Nat.le_of_ble_eq_true rfl⟩ rfl (by decide +kernel) rfl [some 0, none, none, none, none, none] rfl (by decide +kernel) rfl (fun H locs hP hD hS => ?_)
        obtain rfl := Option.some.inj hf
        subst hq
        exact retI cx hP hD hS dX11_happening_54
    · have hf := it_t hc hf
      exact hj17 _ _ _ _ hf hP hD hS (lv_sub hl [0] rfl)
def X11_isWatcher (o_city_watchers_many : Int32) (v1 : Int32) : Option (Int32) :=
  (X11_within v1 (0 : Int32) (o_city_watchers_many - 1)).bind fun u14 =>
  if isZ u14 then some u14 else none
abbrev wd_X11_isWatcher (E : vE) (a_o a_o_city a_o_ahead a_o_marks a_o_tape a_o_cityReader a_o_weeksReader a_o_trays a_o_planner a_o_ruler a_o_life a_o_latestLife a_o_city_streets a_o_city_names a_o_city_extras a_o_city_happenings a_o_city_watchers a_o_city_weeks a_o_city_watchers_cells : Nat) (o_marked : Int32) (o_wasLived : Int32) (o_wasParsed : Int32) (o_faultKind : Int32) (o_faultPlace : Int32) (o_latestStatus : Int32) (o_fractionTop : Int64) (o_fractionBottom : Int64) (o_city_wage : Int32) (o_city_delay : Int32) (o_city_odds : Int32) (o_city_clock : Int32) (o_city_hasWeeks : Int32) (o_city_watchers_many : Int32) : va_W := [(a_o, .inr (11, [.ref a_o_city, .ref a_o_ahead, .ref a_o_marks, .int o_marked, .ref a_o_tape, .ref a_o_cityReader, .ref a_o_weeksReader, .ref a_o_trays, .ref a_o_planner, .ref a_o_ruler, .ref a_o_life, .ref a_o_latestLife, .int o_wasLived, .int o_wasParsed, .int o_faultKind, .int o_faultPlace, .int o_latestStatus, .long o_fractionTop, .long o_fractionBottom])), (a_o_city, .inr (0, [.int o_city_wage, .int o_city_delay, .int o_city_odds, .int o_city_clock, .int o_city_hasWeeks, .ref a_o_city_streets, .ref a_o_city_names, .ref a_o_city_extras, .ref a_o_city_happenings, .ref a_o_city_watchers, .ref a_o_city_weeks])), (a_o_city_watchers, .inr (7, [.int 3, .ref a_o_city_watchers_cells, .int o_city_watchers_many]))]
set_option maxHeartbeats 4000000 in
set_option maxRecDepth 100000 in
theorem ct_X11_isWatcher (l : Launch) (E : vE) (a_o a_o_city a_o_ahead a_o_marks a_o_tape a_o_cityReader a_o_weeksReader a_o_trays a_o_planner a_o_ruler a_o_life a_o_latestLife a_o_city_streets a_o_city_names a_o_city_extras a_o_city_happenings a_o_city_watchers a_o_city_weeks a_o_city_watchers_cells : Nat) (o_marked : Int32) (o_wasLived : Int32) (o_wasParsed : Int32) (o_faultKind : Int32) (o_faultPlace : Int32) (o_latestStatus : Int32) (o_fractionTop : Int64) (o_fractionBottom : Int64) (o_city_wage : Int32) (o_city_delay : Int32) (o_city_odds : Int32) (o_city_clock : Int32) (o_city_hasWeeks : Int32) (o_city_watchers_many : Int32) (v1 : Int32) (u : Int32) (hf : X11_isWatcher o_city_watchers_many v1 = some u) :
    CtI l yX11_isWatcher cX11_isWatcher 2 (some .boolean) 1 E [.ref a_o, .int v1] (wd_X11_isWatcher E a_o a_o_city a_o_ahead a_o_marks a_o_tape a_o_cityReader a_o_weeksReader a_o_trays a_o_planner a_o_ruler a_o_life a_o_latestLife a_o_city_streets a_o_city_names a_o_city_extras a_o_city_happenings a_o_city_watchers a_o_city_weeks a_o_city_watchers_cells o_marked o_wasLived o_wasParsed o_faultKind o_faultPlace o_latestStatus o_fractionTop o_fractionBottom o_city_wage o_city_delay o_city_odds o_city_clock o_city_hasWeeks o_city_watchers_many) (wd_X11_isWatcher E a_o a_o_city a_o_ahead a_o_marks a_o_tape a_o_cityReader a_o_weeksReader a_o_trays a_o_planner a_o_ruler a_o_life a_o_latestLife a_o_city_streets a_o_city_names a_o_city_extras a_o_city_happenings a_o_city_watchers a_o_city_weeks a_o_city_watchers_cells o_marked o_wasLived o_wasParsed o_faultKind o_faultPlace o_latestStatus o_fractionTop o_fractionBottom o_city_wage o_city_delay o_city_odds o_city_clock o_city_hasWeeks o_city_watchers_many) u := by
  refine ctI (by decide) (Nat.le_of_ble_eq_true rfl) ?_
  intro p e s m below meth cd A ls aa QQ hq cx hP hD hS hl
  obtain ⟨⟨hx, hb, hml, hown, hts⟩, hr, hlocks, hK, hA, hX⟩ := id cx
  have hl : lv_has ls 2 [(0, .ref a_o), (1, .int v1)] := hl
  unfold X11_isWatcher at hf
  refine lv_iload_n hx hb dX11_isWatcher_0 rfl (lv_at hl 1 rfl) ?_
  refine lv_iconst (v := 0) hx hb dX11_isWatcher_1 (by decide) ?_
  refine lv_aload_n hx hb dX11_isWatcher_2 rfl (lv_at hl 0 rfl) ?_
  refine va_get (D := E.1) (ci := 11) (v := .ref a_o_city) (C := RX11) (T := TX11) (N := 19) hx hb hts inX11 hown hK hP 0 rfl rfl 0 (by decide) (hts _ fl_X11_10) (fun _ h9 => h9) rfl dX11_isWatcher_3 ?_
  refine va_get (D := E.1) (ci := 0) (v := .ref a_o_city_watchers) (C := RX0) (T := TX0) (N := 11) hx hb hts inX0 hown hK hP 1 rfl rfl 9 (by decide) (hts _ fl_X11_216) (fun _ h9 => h9) rfl dX11_isWatcher_6 ?_
  refine va_get (D := E.1) (ci := 7) (v := .int o_city_watchers_many) (C := RX7) (T := TX7) (N := 3) hx hb hts inX7 hown hK hP 2 rfl rfl 2 (by decide) (hts _ fl_X11_198) (fun _ h9 => h9) rfl dX11_isWatcher_9 ?_
  refine lv_iconst (v := 1) hx hb dX11_isWatcher_12 (by decide) ?_
  refine lv_isub hx hb dX11_isWatcher_13 ?_
  obtain ⟨u14, hu14, hf⟩ := bd hf
  refine keepSI (ct_X11_within l E v1 (0 : Int32) (o_city_watchers_many - 1) u14 hu14) [] cal_X11_within sta_X11_within lk_X11_96 cx hP hD hS hl dX11_isWatcher_14 rfl rfl (Nat.le_of_ble_eq_true rfl) ⟨Nat.le_of_ble_eq_true rfl, Nat.le_of_ble_eq_true rfl⟩ rfl (by decide) (fun H locs hP hS => ?_)
  obtain ⟨hz, hf⟩ := ck hf
  obtain rfl := Option.some.inj hf
  subst hq
  exact retZ cx hz hP hD hS dX11_isWatcher_17
def X11_watcher_j17 (o_latestStatus : Int32) (o_city_watchers_many : Int32) (o_city_watchers_cells : Nat → Int32) : Option (Int32 × Int32) :=
  (X11_none o_latestStatus (1 : Int32)).bind fun u19 =>
  some (u19.1, u19.2)
def X11_watcher (o_latestStatus : Int32) (o_city_watchers_many : Int32) (o_city_watchers_cells : Nat → Int32) (v1 : Int32) (v2 : Int32) : Option (Int32 × Int32) :=
  (X11_isWatcher o_city_watchers_many v1).bind fun u2 =>
  if u2 = 0 then
  X11_watcher_j17 o_latestStatus o_city_watchers_many o_city_watchers_cells
  else
  (X11_within v2 (0 : Int32) (2 : Int32)).bind fun u11 =>
  if u11 = 0 then
  X11_watcher_j17 o_latestStatus o_city_watchers_many o_city_watchers_cells
  else
  (X7_get 12 3 o_city_watchers_many o_city_watchers_cells v1 v2).bind fun u33 =>
  (X11_answer o_latestStatus u33).bind fun u36 =>
  some (u36.1, u36.2)
abbrev wd_X11_watcher (E : vE) (a_o a_o_city a_o_ahead a_o_marks a_o_tape a_o_cityReader a_o_weeksReader a_o_trays a_o_planner a_o_ruler a_o_life a_o_latestLife a_o_city_streets a_o_city_names a_o_city_extras a_o_city_happenings a_o_city_watchers a_o_city_weeks a_o_city_watchers_cells : Nat) (o_marked : Int32) (o_wasLived : Int32) (o_wasParsed : Int32) (o_faultKind : Int32) (o_faultPlace : Int32) (o_latestStatus : Int32) (o_fractionTop : Int64) (o_fractionBottom : Int64) (o_city_wage : Int32) (o_city_delay : Int32) (o_city_odds : Int32) (o_city_clock : Int32) (o_city_hasWeeks : Int32) (o_city_watchers_many : Int32) (o_city_watchers_cells : Nat → Int32) : va_W := [(a_o, .inr (11, [.ref a_o_city, .ref a_o_ahead, .ref a_o_marks, .int o_marked, .ref a_o_tape, .ref a_o_cityReader, .ref a_o_weeksReader, .ref a_o_trays, .ref a_o_planner, .ref a_o_ruler, .ref a_o_life, .ref a_o_latestLife, .int o_wasLived, .int o_wasParsed, .int o_faultKind, .int o_faultPlace, .int o_latestStatus, .long o_fractionTop, .long o_fractionBottom])), (a_o_city, .inr (0, [.int o_city_wage, .int o_city_delay, .int o_city_odds, .int o_city_clock, .int o_city_hasWeeks, .ref a_o_city_streets, .ref a_o_city_names, .ref a_o_city_extras, .ref a_o_city_happenings, .ref a_o_city_watchers, .ref a_o_city_weeks])), (a_o_city_watchers, .inr (7, [.int 3, .ref a_o_city_watchers_cells, .int o_city_watchers_many])), (a_o_city_watchers_cells, .inl (E.2.1, 12, .inl o_city_watchers_cells))]
set_option maxHeartbeats 4000000 in
set_option maxRecDepth 100000 in
theorem ct_X11_watcher (l : Launch) (E : vE) (a_o a_o_city a_o_ahead a_o_marks a_o_tape a_o_cityReader a_o_weeksReader a_o_trays a_o_planner a_o_ruler a_o_life a_o_latestLife a_o_city_streets a_o_city_names a_o_city_extras a_o_city_happenings a_o_city_watchers a_o_city_weeks a_o_city_watchers_cells : Nat) (o_marked : Int32) (o_wasLived : Int32) (o_wasParsed : Int32) (o_faultKind : Int32) (o_faultPlace : Int32) (o_latestStatus : Int32) (o_fractionTop : Int64) (o_fractionBottom : Int64) (o_city_wage : Int32) (o_city_delay : Int32) (o_city_odds : Int32) (o_city_clock : Int32) (o_city_hasWeeks : Int32) (o_city_watchers_many : Int32) (o_city_watchers_cells : Nat → Int32) (v1 : Int32) (v2 : Int32) (u : Int32 × Int32) (hf : X11_watcher o_latestStatus o_city_watchers_many o_city_watchers_cells v1 v2 = some u) :
    CtI l yX11_watcher cX11_watcher 3 (some .int) 2 E [.ref a_o, .int v1, .int v2] (wd_X11_watcher E a_o a_o_city a_o_ahead a_o_marks a_o_tape a_o_cityReader a_o_weeksReader a_o_trays a_o_planner a_o_ruler a_o_life a_o_latestLife a_o_city_streets a_o_city_names a_o_city_extras a_o_city_happenings a_o_city_watchers a_o_city_weeks a_o_city_watchers_cells o_marked o_wasLived o_wasParsed o_faultKind o_faultPlace o_latestStatus o_fractionTop o_fractionBottom o_city_wage o_city_delay o_city_odds o_city_clock o_city_hasWeeks o_city_watchers_many o_city_watchers_cells) (wd_X11_watcher E a_o a_o_city a_o_ahead a_o_marks a_o_tape a_o_cityReader a_o_weeksReader a_o_trays a_o_planner a_o_ruler a_o_life a_o_latestLife a_o_city_streets a_o_city_names a_o_city_extras a_o_city_happenings a_o_city_watchers a_o_city_weeks a_o_city_watchers_cells o_marked o_wasLived o_wasParsed o_faultKind o_faultPlace u.2 o_fractionTop o_fractionBottom o_city_wage o_city_delay o_city_odds o_city_clock o_city_hasWeeks o_city_watchers_many o_city_watchers_cells) u.1 := by
  refine ctI (by decide) (Nat.le_of_ble_eq_true rfl) ?_
  intro p e s m below meth cd A ls aa QQ hq cx hP hD hS hl
  obtain ⟨⟨hx, hb, hml, hown, hts⟩, hr, hlocks, hK, hA, hX⟩ := id cx
  have hl : lv_has ls 3 [(0, .ref a_o), (1, .int v1), (2, .int v2)] := hl
  have hj17 : ∀ (o_latestStatus_j17 : Int32) (H : Heap) (locs : List Loc) (ls : Array Slot), X11_watcher_j17 o_latestStatus_j17 o_city_watchers_many o_city_watchers_cells = some u → va_P E.1 vwCl (wd_X11_watcher E a_o a_o_city a_o_ahead a_o_marks a_o_tape a_o_cityReader a_o_weeksReader a_o_trays a_o_planner a_o_ruler a_o_life a_o_latestLife a_o_city_streets a_o_city_names a_o_city_extras a_o_city_happenings a_o_city_watchers a_o_city_weeks a_o_city_watchers_cells o_marked o_wasLived o_wasParsed o_faultKind o_faultPlace o_latestStatus_j17 o_fractionTop o_fractionBottom o_city_wage o_city_delay o_city_odds o_city_clock o_city_hasWeeks o_city_watchers_many o_city_watchers_cells) H → va_D A (wd_X11_watcher E a_o a_o_city a_o_ahead a_o_marks a_o_tape a_o_cityReader a_o_weeksReader a_o_trays a_o_planner a_o_ruler a_o_life a_o_latestLife a_o_city_streets a_o_city_names a_o_city_extras a_o_city_happenings a_o_city_watchers a_o_city_weeks a_o_city_watchers_cells o_marked o_wasLived o_wasParsed o_faultKind o_faultPlace o_latestStatus_j17 o_fractionTop o_fractionBottom o_city_wage o_city_delay o_city_odds o_city_clock o_city_hasWeeks o_city_watchers_many o_city_watchers_cells) → va_S A s.heap H locs → lv_has ls 3 [(0, .ref a_o)] → W p l e (rmd 2) s m aa below meth cd H locs 0 0 QQ (F0 m 17 ls []) := by
    intro o_latestStatus_j17 H locs ls hf hP hD hS hl
    unfold X11_watcher_j17 at hf
    refine lv_aload_n hx hb dX11_watcher_17 rfl (lv_at hl 0 rfl) ?_
    refine lv_iconst (v := 1) hx hb dX11_watcher_18 (by decide) ?_
    obtain ⟨u19, hu19, hf⟩ := bd hf
    refine callVI (wn := (wd_X11_watcher E a_o a_o_city a_o_ahead a_o_marks a_o_tape a_o_cityReader a_o_weeksReader a_o_trays a_o_planner a_o_ruler a_o_life a_o_latestLife a_o_city_streets a_o_city_names a_o_city_extras a_o_city_happenings a_o_city_watchers a_o_city_weeks a_o_city_watchers_cells o_marked o_wasLived o_wasParsed o_faultKind o_faultPlace u19.2 o_fractionTop o_fractionBottom o_city_wage o_city_delay o_city_odds o_city_clock o_city_hasWeeks o_city_watchers_many o_city_watchers_cells)) (n1 := 4) (ct_X11_none l E a_o a_o_city a_o_ahead a_o_marks a_o_tape a_o_cityReader a_o_weeksReader a_o_trays a_o_planner a_o_ruler a_o_life a_o_latestLife o_marked o_wasLived o_wasParsed o_faultKind o_faultPlace o_latestStatus_j17 o_fractionTop o_fractionBottom (1 : Int32) u19 hu19) [0] cal_X11_none cav_X11_none lk_X11_119 cx hP hD hS hl dX11_watcher_19 rfl rfl rfl rfl (Nat.le_of_ble_eq_true rfl) ⟨Nat.le_of_ble_eq_true rfl, Nat.le_of_ble_eq_true rfl⟩ rfl (by decide +kernel) rfl [some 0, none, none, none] rfl (by decide +kernel) rfl (fun H locs hP hD hS => ?_)
    obtain rfl := Option.some.inj hf
    subst hq
    exact retI cx hP hD hS dX11_watcher_22
  unfold X11_watcher at hf
  refine lv_aload_n hx hb dX11_watcher_0 rfl (lv_at hl 0 rfl) ?_
  refine lv_iload_n hx hb dX11_watcher_1 rfl (lv_at hl 1 rfl) ?_
  obtain ⟨u2, hu2, hf⟩ := bd hf
  refine keepVI (ct_X11_isWatcher l E a_o a_o_city a_o_ahead a_o_marks a_o_tape a_o_cityReader a_o_weeksReader a_o_trays a_o_planner a_o_ruler a_o_life a_o_latestLife a_o_city_streets a_o_city_names a_o_city_extras a_o_city_happenings a_o_city_watchers a_o_city_weeks a_o_city_watchers_cells o_marked o_wasLived o_wasParsed o_faultKind o_faultPlace o_latestStatus o_fractionTop o_fractionBottom o_city_wage o_city_delay o_city_odds o_city_clock o_city_hasWeeks o_city_watchers_many v1 u2 hu2) [0, 1, 2] cal_X11_isWatcher cav_X11_isWatcher lk_X11_260 cx hP hD hS hl dX11_watcher_2 rfl rfl rfl rfl (Nat.le_of_ble_eq_true rfl) ⟨Nat.le_of_ble_eq_true rfl, Nat.le_of_ble_eq_true rfl⟩ rfl (by decide) (fun H locs hP hS => ?_)
  refine lv_if_eq (tgt := 17) hx hb dX11_watcher_5 (by decide) (fun hc => ?_) (fun hc => ?_)
  · have hf := it_t hc hf
    exact hj17 _ _ _ _ hf hP hD hS (lv_sub hl [0] rfl)
  · have hf := it_f hc hf
    refine lv_iload_n hx hb dX11_watcher_8 rfl (lv_at hl 2 rfl) ?_
    refine lv_iconst (v := 0) hx hb dX11_watcher_9 (by decide) ?_
    refine lv_iconst (v := 2) hx hb dX11_watcher_10 (by decide) ?_
    obtain ⟨u11, hu11, hf⟩ := bd hf
    refine keepSI (ct_X11_within l E v2 (0 : Int32) (2 : Int32) u11 hu11) [] cal_X11_within sta_X11_within lk_X11_96 cx hP hD hS hl dX11_watcher_11 rfl rfl (Nat.le_of_ble_eq_true rfl) ⟨Nat.le_of_ble_eq_true rfl, Nat.le_of_ble_eq_true rfl⟩ rfl (by decide) (fun H locs hP hS => ?_)
    refine lv_if_ne (tgt := 23) hx hb dX11_watcher_14 (by decide) (fun hc => ?_) (fun hc => ?_)
    · have hf := it_f hc hf
      refine lv_aload_n hx hb dX11_watcher_23 rfl (lv_at hl 0 rfl) ?_
      refine lv_aload_n hx hb dX11_watcher_24 rfl (lv_at hl 0 rfl) ?_
      refine va_get (D := E.1) (ci := 11) (v := .ref a_o_city) (C := RX11) (T := TX11) (N := 19) hx hb hts inX11 hown hK hP 0 rfl rfl 0 (by decide) (hts _ fl_X11_10) (fun _ h9 => h9) rfl dX11_watcher_25 ?_
      refine va_get (D := E.1) (ci := 0) (v := .ref a_o_city_watchers) (C := RX0) (T := TX0) (N := 11) hx hb hts inX0 hown hK hP 1 rfl rfl 9 (by decide) (hts _ fl_X11_216) (fun _ h9 => h9) rfl dX11_watcher_28 ?_
      refine lv_iload_n hx hb dX11_watcher_31 rfl (lv_at hl 1 rfl) ?_
      refine lv_iload_n hx hb dX11_watcher_32 rfl (lv_at hl 2 rfl) ?_
      obtain ⟨u33, hu33, hf⟩ := bd hf
      refine keepVI (ct_X7_get l E a_o_city_watchers a_o_city_watchers_cells 12 3 o_city_watchers_many o_city_watchers_cells v1 v2 u33 hu33) [2, 3] cal_X7_get cav_X7_get lk_X11_247 cx hP hD hS hl dX11_watcher_33 rfl rfl rfl rfl (Nat.le_of_ble_eq_true rfl) ⟨Nat.le_of_ble_eq_true rfl, Nat.le_of_ble_eq_true rfl⟩ rfl (by decide) (fun H locs hP hS => ?_)
      obtain ⟨u36, hu36, hf⟩ := bd hf
      refine callVI (wn := (wd_X11_watcher E a_o a_o_city a_o_ahead a_o_marks a_o_tape a_o_cityReader a_o_weeksReader a_o_trays a_o_planner a_o_ruler a_o_life a_o_latestLife a_o_city_streets a_o_city_names a_o_city_extras a_o_city_happenings a_o_city_watchers a_o_city_weeks a_o_city_watchers_cells o_marked o_wasLived o_wasParsed o_faultKind o_faultPlace u36.2 o_fractionTop o_fractionBottom o_city_wage o_city_delay o_city_odds o_city_clock o_city_hasWeeks o_city_watchers_many o_city_watchers_cells)) (n1 := 4) (ct_X11_answer l E a_o a_o_city a_o_ahead a_o_marks a_o_tape a_o_cityReader a_o_weeksReader a_o_trays a_o_planner a_o_ruler a_o_life a_o_latestLife o_marked o_wasLived o_wasParsed o_faultKind o_faultPlace o_latestStatus o_fractionTop o_fractionBottom u33 u36 hu36) [0] cal_X11_answer cav_X11_answer lk_X11_172 cx hP hD hS hl dX11_watcher_36 rfl rfl rfl rfl (Nat.le_of_ble_eq_true rfl) ⟨Nat.le_of_ble_eq_true rfl, Nat.le_of_ble_eq_true rfl⟩ rfl (by decide +kernel) rfl [some 0, none, none, none] rfl (by decide +kernel) rfl (fun H locs hP hD hS => ?_)
      obtain rfl := Option.some.inj hf
      subst hq
      exact retI cx hP hD hS dX11_watcher_39
    · have hf := it_t hc hf
      exact hj17 _ _ _ _ hf hP hD hS (lv_sub hl [0] rfl)
def X11_isCorner (o_city_streets_corners : Int32) (v1 : Int32) : Option (Int32) :=
  (X11_within v1 (0 : Int32) (o_city_streets_corners - 1)).bind fun u14 =>
  if isZ u14 then some u14 else none
abbrev wd_X11_isCorner (E : vE) (a_o a_o_city a_o_ahead a_o_marks a_o_tape a_o_cityReader a_o_weeksReader a_o_trays a_o_planner a_o_ruler a_o_life a_o_latestLife a_o_city_streets a_o_city_names a_o_city_extras a_o_city_happenings a_o_city_watchers a_o_city_weeks a_o_city_streets_roads a_o_city_streets_takes a_o_city_streets_hours : Nat) (o_marked : Int32) (o_wasLived : Int32) (o_wasParsed : Int32) (o_faultKind : Int32) (o_faultPlace : Int32) (o_latestStatus : Int32) (o_fractionTop : Int64) (o_fractionBottom : Int64) (o_city_wage : Int32) (o_city_delay : Int32) (o_city_odds : Int32) (o_city_clock : Int32) (o_city_hasWeeks : Int32) (o_city_streets_corners : Int32) : va_W := [(a_o, .inr (11, [.ref a_o_city, .ref a_o_ahead, .ref a_o_marks, .int o_marked, .ref a_o_tape, .ref a_o_cityReader, .ref a_o_weeksReader, .ref a_o_trays, .ref a_o_planner, .ref a_o_ruler, .ref a_o_life, .ref a_o_latestLife, .int o_wasLived, .int o_wasParsed, .int o_faultKind, .int o_faultPlace, .int o_latestStatus, .long o_fractionTop, .long o_fractionBottom])), (a_o_city, .inr (0, [.int o_city_wage, .int o_city_delay, .int o_city_odds, .int o_city_clock, .int o_city_hasWeeks, .ref a_o_city_streets, .ref a_o_city_names, .ref a_o_city_extras, .ref a_o_city_happenings, .ref a_o_city_watchers, .ref a_o_city_weeks])), (a_o_city_streets, .inr (6, [.int o_city_streets_corners, .ref a_o_city_streets_roads, .ref a_o_city_streets_takes, .ref a_o_city_streets_hours]))]
set_option maxHeartbeats 4000000 in
set_option maxRecDepth 100000 in
theorem ct_X11_isCorner (l : Launch) (E : vE) (a_o a_o_city a_o_ahead a_o_marks a_o_tape a_o_cityReader a_o_weeksReader a_o_trays a_o_planner a_o_ruler a_o_life a_o_latestLife a_o_city_streets a_o_city_names a_o_city_extras a_o_city_happenings a_o_city_watchers a_o_city_weeks a_o_city_streets_roads a_o_city_streets_takes a_o_city_streets_hours : Nat) (o_marked : Int32) (o_wasLived : Int32) (o_wasParsed : Int32) (o_faultKind : Int32) (o_faultPlace : Int32) (o_latestStatus : Int32) (o_fractionTop : Int64) (o_fractionBottom : Int64) (o_city_wage : Int32) (o_city_delay : Int32) (o_city_odds : Int32) (o_city_clock : Int32) (o_city_hasWeeks : Int32) (o_city_streets_corners : Int32) (v1 : Int32) (u : Int32) (hf : X11_isCorner o_city_streets_corners v1 = some u) :
    CtI l yX11_isCorner cX11_isCorner 2 (some .boolean) 1 E [.ref a_o, .int v1] (wd_X11_isCorner E a_o a_o_city a_o_ahead a_o_marks a_o_tape a_o_cityReader a_o_weeksReader a_o_trays a_o_planner a_o_ruler a_o_life a_o_latestLife a_o_city_streets a_o_city_names a_o_city_extras a_o_city_happenings a_o_city_watchers a_o_city_weeks a_o_city_streets_roads a_o_city_streets_takes a_o_city_streets_hours o_marked o_wasLived o_wasParsed o_faultKind o_faultPlace o_latestStatus o_fractionTop o_fractionBottom o_city_wage o_city_delay o_city_odds o_city_clock o_city_hasWeeks o_city_streets_corners) (wd_X11_isCorner E a_o a_o_city a_o_ahead a_o_marks a_o_tape a_o_cityReader a_o_weeksReader a_o_trays a_o_planner a_o_ruler a_o_life a_o_latestLife a_o_city_streets a_o_city_names a_o_city_extras a_o_city_happenings a_o_city_watchers a_o_city_weeks a_o_city_streets_roads a_o_city_streets_takes a_o_city_streets_hours o_marked o_wasLived o_wasParsed o_faultKind o_faultPlace o_latestStatus o_fractionTop o_fractionBottom o_city_wage o_city_delay o_city_odds o_city_clock o_city_hasWeeks o_city_streets_corners) u := by
  refine ctI (by decide) (Nat.le_of_ble_eq_true rfl) ?_
  intro p e s m below meth cd A ls aa QQ hq cx hP hD hS hl
  obtain ⟨⟨hx, hb, hml, hown, hts⟩, hr, hlocks, hK, hA, hX⟩ := id cx
  have hl : lv_has ls 2 [(0, .ref a_o), (1, .int v1)] := hl
  unfold X11_isCorner at hf
  refine lv_iload_n hx hb dX11_isCorner_0 rfl (lv_at hl 1 rfl) ?_
  refine lv_iconst (v := 0) hx hb dX11_isCorner_1 (by decide) ?_
  refine lv_aload_n hx hb dX11_isCorner_2 rfl (lv_at hl 0 rfl) ?_
  refine va_get (D := E.1) (ci := 11) (v := .ref a_o_city) (C := RX11) (T := TX11) (N := 19) hx hb hts inX11 hown hK hP 0 rfl rfl 0 (by decide) (hts _ fl_X11_10) (fun _ h9 => h9) rfl dX11_isCorner_3 ?_
  refine va_get (D := E.1) (ci := 0) (v := .ref a_o_city_streets) (C := RX0) (T := TX0) (N := 11) hx hb hts inX0 hown hK hP 1 rfl rfl 5 (by decide) (hts _ fl_X11_163) (fun _ h9 => h9) rfl dX11_isCorner_6 ?_
  refine va_get (D := E.1) (ci := 6) (v := .int o_city_streets_corners) (C := RX6) (T := TX6) (N := 4) hx hb hts inX6 hown hK hP 2 rfl rfl 0 (by decide) (hts _ fl_X11_167) (fun _ h9 => h9) rfl dX11_isCorner_9 ?_
  refine lv_iconst (v := 1) hx hb dX11_isCorner_12 (by decide) ?_
  refine lv_isub hx hb dX11_isCorner_13 ?_
  obtain ⟨u14, hu14, hf⟩ := bd hf
  refine keepSI (ct_X11_within l E v1 (0 : Int32) (o_city_streets_corners - 1) u14 hu14) [] cal_X11_within sta_X11_within lk_X11_96 cx hP hD hS hl dX11_isCorner_14 rfl rfl (Nat.le_of_ble_eq_true rfl) ⟨Nat.le_of_ble_eq_true rfl, Nat.le_of_ble_eq_true rfl⟩ rfl (by decide) (fun H locs hP hS => ?_)
  obtain ⟨hz, hf⟩ := ck hf
  obtain rfl := Option.some.inj hf
  subst hq
  exact retZ cx hz hP hD hS dX11_isCorner_17
def X11_standing (F : Nat) (o_latestStatus : Int32) (o_city_streets_corners : Int32) (o_city_extras_many : Int32) (o_city_extras_cells : Nat → Int32) (v1 : Int32) : Option (Int32 × Int32) :=
  (X11_isCorner o_city_streets_corners v1).bind fun u2 =>
  if u2 = 0 then
  (X11_none o_latestStatus (1 : Int32)).bind fun u10 =>
  some (u10.1, u10.2)
  else
  (X0_behind F o_city_extras_many o_city_extras_cells v1).bind fun u20 =>
  (X11_answer o_latestStatus u20).bind fun u23 =>
  some (u23.1, u23.2)
abbrev wd_X11_standing (E : vE) (a_o a_o_city a_o_ahead a_o_marks a_o_tape a_o_cityReader a_o_weeksReader a_o_trays a_o_planner a_o_ruler a_o_life a_o_latestLife a_o_city_streets a_o_city_names a_o_city_extras a_o_city_happenings a_o_city_watchers a_o_city_weeks a_o_city_streets_roads a_o_city_streets_takes a_o_city_streets_hours a_o_city_extras_cells : Nat) (o_marked : Int32) (o_wasLived : Int32) (o_wasParsed : Int32) (o_faultKind : Int32) (o_faultPlace : Int32) (o_latestStatus : Int32) (o_fractionTop : Int64) (o_fractionBottom : Int64) (o_city_wage : Int32) (o_city_delay : Int32) (o_city_odds : Int32) (o_city_clock : Int32) (o_city_hasWeeks : Int32) (o_city_streets_corners : Int32) (o_city_extras_many : Int32) (o_city_extras_cells : Nat → Int32) : va_W := [(a_o, .inr (11, [.ref a_o_city, .ref a_o_ahead, .ref a_o_marks, .int o_marked, .ref a_o_tape, .ref a_o_cityReader, .ref a_o_weeksReader, .ref a_o_trays, .ref a_o_planner, .ref a_o_ruler, .ref a_o_life, .ref a_o_latestLife, .int o_wasLived, .int o_wasParsed, .int o_faultKind, .int o_faultPlace, .int o_latestStatus, .long o_fractionTop, .long o_fractionBottom])), (a_o_city, .inr (0, [.int o_city_wage, .int o_city_delay, .int o_city_odds, .int o_city_clock, .int o_city_hasWeeks, .ref a_o_city_streets, .ref a_o_city_names, .ref a_o_city_extras, .ref a_o_city_happenings, .ref a_o_city_watchers, .ref a_o_city_weeks])), (a_o_city_streets, .inr (6, [.int o_city_streets_corners, .ref a_o_city_streets_roads, .ref a_o_city_streets_takes, .ref a_o_city_streets_hours])), (a_o_city_extras, .inr (7, [.int 5, .ref a_o_city_extras_cells, .int o_city_extras_many])), (a_o_city_extras_cells, .inl (E.2.1, 35, .inl o_city_extras_cells))]
set_option maxHeartbeats 4000000 in
set_option maxRecDepth 100000 in
theorem ct_X11_standing (l : Launch) (E : vE) (F : Nat) (a_o a_o_city a_o_ahead a_o_marks a_o_tape a_o_cityReader a_o_weeksReader a_o_trays a_o_planner a_o_ruler a_o_life a_o_latestLife a_o_city_streets a_o_city_names a_o_city_extras a_o_city_happenings a_o_city_watchers a_o_city_weeks a_o_city_streets_roads a_o_city_streets_takes a_o_city_streets_hours a_o_city_extras_cells : Nat) (o_marked : Int32) (o_wasLived : Int32) (o_wasParsed : Int32) (o_faultKind : Int32) (o_faultPlace : Int32) (o_latestStatus : Int32) (o_fractionTop : Int64) (o_fractionBottom : Int64) (o_city_wage : Int32) (o_city_delay : Int32) (o_city_odds : Int32) (o_city_clock : Int32) (o_city_hasWeeks : Int32) (o_city_streets_corners : Int32) (o_city_extras_many : Int32) (o_city_extras_cells : Nat → Int32) (v1 : Int32) (u : Int32 × Int32) (hf : X11_standing F o_latestStatus o_city_streets_corners o_city_extras_many o_city_extras_cells v1 = some u) :
    CtI l yX11_standing cX11_standing 2 (some .int) 3 E [.ref a_o, .int v1] (wd_X11_standing E a_o a_o_city a_o_ahead a_o_marks a_o_tape a_o_cityReader a_o_weeksReader a_o_trays a_o_planner a_o_ruler a_o_life a_o_latestLife a_o_city_streets a_o_city_names a_o_city_extras a_o_city_happenings a_o_city_watchers a_o_city_weeks a_o_city_streets_roads a_o_city_streets_takes a_o_city_streets_hours a_o_city_extras_cells o_marked o_wasLived o_wasParsed o_faultKind o_faultPlace o_latestStatus o_fractionTop o_fractionBottom o_city_wage o_city_delay o_city_odds o_city_clock o_city_hasWeeks o_city_streets_corners o_city_extras_many o_city_extras_cells) (wd_X11_standing E a_o a_o_city a_o_ahead a_o_marks a_o_tape a_o_cityReader a_o_weeksReader a_o_trays a_o_planner a_o_ruler a_o_life a_o_latestLife a_o_city_streets a_o_city_names a_o_city_extras a_o_city_happenings a_o_city_watchers a_o_city_weeks a_o_city_streets_roads a_o_city_streets_takes a_o_city_streets_hours a_o_city_extras_cells o_marked o_wasLived o_wasParsed o_faultKind o_faultPlace u.2 o_fractionTop o_fractionBottom o_city_wage o_city_delay o_city_odds o_city_clock o_city_hasWeeks o_city_streets_corners o_city_extras_many o_city_extras_cells) u.1 := by
  refine ctI (by decide) (Nat.le_of_ble_eq_true rfl) ?_
  intro p e s m below meth cd A ls aa QQ hq cx hP hD hS hl
  obtain ⟨⟨hx, hb, hml, hown, hts⟩, hr, hlocks, hK, hA, hX⟩ := id cx
  have hl : lv_has ls 2 [(0, .ref a_o), (1, .int v1)] := hl
  unfold X11_standing at hf
  refine lv_aload_n hx hb dX11_standing_0 rfl (lv_at hl 0 rfl) ?_
  refine lv_iload_n hx hb dX11_standing_1 rfl (lv_at hl 1 rfl) ?_
  obtain ⟨u2, hu2, hf⟩ := bd hf
  refine keepVI (ct_X11_isCorner l E a_o a_o_city a_o_ahead a_o_marks a_o_tape a_o_cityReader a_o_weeksReader a_o_trays a_o_planner a_o_ruler a_o_life a_o_latestLife a_o_city_streets a_o_city_names a_o_city_extras a_o_city_happenings a_o_city_watchers a_o_city_weeks a_o_city_streets_roads a_o_city_streets_takes a_o_city_streets_hours o_marked o_wasLived o_wasParsed o_faultKind o_faultPlace o_latestStatus o_fractionTop o_fractionBottom o_city_wage o_city_delay o_city_odds o_city_clock o_city_hasWeeks o_city_streets_corners v1 u2 hu2) [0, 1, 2] cal_X11_isCorner cav_X11_isCorner lk_X11_263 cx hP hD hS hl dX11_standing_2 rfl rfl rfl rfl (Nat.le_of_ble_eq_true rfl) ⟨Nat.le_of_ble_eq_true rfl, Nat.le_of_ble_eq_true rfl⟩ rfl (by decide) (fun H locs hP hS => ?_)
  refine lv_if_ne (tgt := 14) hx hb dX11_standing_5 (by decide) (fun hc => ?_) (fun hc => ?_)
  · have hf := it_f hc hf
    refine lv_aload_n hx hb dX11_standing_14 rfl (lv_at hl 0 rfl) ?_
    refine lv_aload_n hx hb dX11_standing_15 rfl (lv_at hl 0 rfl) ?_
    refine va_get (D := E.1) (ci := 11) (v := .ref a_o_city) (C := RX11) (T := TX11) (N := 19) hx hb hts inX11 hown hK hP 0 rfl rfl 0 (by decide) (hts _ fl_X11_10) (fun _ h9 => h9) rfl dX11_standing_16 ?_
    refine lv_iload_n hx hb dX11_standing_19 rfl (lv_at hl 1 rfl) ?_
    obtain ⟨u20, hu20, hf⟩ := bd hf
    refine keepVI (ct_X0_behind l E F a_o_city a_o_city_streets a_o_city_names a_o_city_extras a_o_city_happenings a_o_city_watchers a_o_city_weeks a_o_city_extras_cells o_city_wage o_city_delay o_city_odds o_city_clock o_city_hasWeeks o_city_extras_many o_city_extras_cells v1 u20 hu20) [1, 3, 4] cal_X0_behind cav_X0_behind lk_X11_252 cx hP hD hS hl dX11_standing_20 rfl rfl rfl rfl (Nat.le_of_ble_eq_true rfl) ⟨Nat.le_of_ble_eq_true rfl, Nat.le_of_ble_eq_true rfl⟩ rfl (by decide) (fun H locs hP hS => ?_)
    obtain ⟨u23, hu23, hf⟩ := bd hf
    refine callVI (wn := (wd_X11_standing E a_o a_o_city a_o_ahead a_o_marks a_o_tape a_o_cityReader a_o_weeksReader a_o_trays a_o_planner a_o_ruler a_o_life a_o_latestLife a_o_city_streets a_o_city_names a_o_city_extras a_o_city_happenings a_o_city_watchers a_o_city_weeks a_o_city_streets_roads a_o_city_streets_takes a_o_city_streets_hours a_o_city_extras_cells o_marked o_wasLived o_wasParsed o_faultKind o_faultPlace u23.2 o_fractionTop o_fractionBottom o_city_wage o_city_delay o_city_odds o_city_clock o_city_hasWeeks o_city_streets_corners o_city_extras_many o_city_extras_cells)) (n1 := 5) (ct_X11_answer l E a_o a_o_city a_o_ahead a_o_marks a_o_tape a_o_cityReader a_o_weeksReader a_o_trays a_o_planner a_o_ruler a_o_life a_o_latestLife o_marked o_wasLived o_wasParsed o_faultKind o_faultPlace o_latestStatus o_fractionTop o_fractionBottom u20 u23 hu23) [0] cal_X11_answer cav_X11_answer lk_X11_172 cx hP hD hS hl dX11_standing_23 rfl rfl rfl rfl (Nat.le_of_ble_eq_true rfl) ⟨Nat.le_of_ble_eq_true rfl, Nat.le_of_ble_eq_true rfl⟩ rfl (by decide +kernel) rfl [some 0, none, none, none, none] rfl (by decide +kernel) rfl (fun H locs hP hD hS => ?_)
    obtain rfl := Option.some.inj hf
    subst hq
    exact retI cx hP hD hS dX11_standing_26
  · have hf := it_t hc hf
    refine lv_aload_n hx hb dX11_standing_8 rfl (lv_at hl 0 rfl) ?_
    refine lv_iconst (v := 1) hx hb dX11_standing_9 (by decide) ?_
    obtain ⟨u10, hu10, hf⟩ := bd hf
    refine callVI (wn := (wd_X11_standing E a_o a_o_city a_o_ahead a_o_marks a_o_tape a_o_cityReader a_o_weeksReader a_o_trays a_o_planner a_o_ruler a_o_life a_o_latestLife a_o_city_streets a_o_city_names a_o_city_extras a_o_city_happenings a_o_city_watchers a_o_city_weeks a_o_city_streets_roads a_o_city_streets_takes a_o_city_streets_hours a_o_city_extras_cells o_marked o_wasLived o_wasParsed o_faultKind o_faultPlace u10.2 o_fractionTop o_fractionBottom o_city_wage o_city_delay o_city_odds o_city_clock o_city_hasWeeks o_city_streets_corners o_city_extras_many o_city_extras_cells)) (n1 := 5) (ct_X11_none l E a_o a_o_city a_o_ahead a_o_marks a_o_tape a_o_cityReader a_o_weeksReader a_o_trays a_o_planner a_o_ruler a_o_life a_o_latestLife o_marked o_wasLived o_wasParsed o_faultKind o_faultPlace o_latestStatus o_fractionTop o_fractionBottom (1 : Int32) u10 hu10) [0] cal_X11_none cav_X11_none lk_X11_119 cx hP hD hS hl dX11_standing_10 rfl rfl rfl rfl (Nat.le_of_ble_eq_true rfl) ⟨Nat.le_of_ble_eq_true rfl, Nat.le_of_ble_eq_true rfl⟩ rfl (by decide +kernel) rfl [some 0, none, none, none, none] rfl (by decide +kernel) rfl (fun H locs hP hD hS => ?_)
    obtain rfl := Option.some.inj hf
    subst hq
    exact retI cx hP hD hS dX11_standing_13
def X11_road_j21 (o_latestStatus : Int32) (o_city_streets_corners : Int32) (o_city_streets_takes : Nat → Int32) : Option (Int32 × Int32) :=
  (X11_none o_latestStatus (1 : Int32)).bind fun u23 =>
  some (u23.1, u23.2)
def X11_road (o_latestStatus : Int32) (o_city_streets_corners : Int32) (o_city_streets_takes : Nat → Int32) (v1 : Int32) (v2 : Int32) : Option (Int32 × Int32) :=
  (X11_isCorner o_city_streets_corners v1).bind fun u2 =>
  if u2 = 0 then
  X11_road_j21 o_latestStatus o_city_streets_corners o_city_streets_takes
  else
  (X11_isCorner o_city_streets_corners v2).bind fun u10 =>
  if u10 = 0 then
  X11_road_j21 o_latestStatus o_city_streets_corners o_city_streets_takes
  else
  if v1 = v2 then
  X11_road_j21 o_latestStatus o_city_streets_corners o_city_streets_takes
  else
  (X6_takesBetween o_city_streets_takes v1 v2).bind fun u36 =>
  if u36 = 0 then
  (X11_none o_latestStatus (6 : Int32)).bind fun u47 =>
  some (u47.1, u47.2)
  else
  (X11_answer o_latestStatus u36).bind fun u55 =>
  some (u55.1, u55.2)
abbrev wd_X11_road (E : vE) (a_o a_o_city a_o_ahead a_o_marks a_o_tape a_o_cityReader a_o_weeksReader a_o_trays a_o_planner a_o_ruler a_o_life a_o_latestLife a_o_city_streets a_o_city_names a_o_city_extras a_o_city_happenings a_o_city_watchers a_o_city_weeks a_o_city_streets_roads a_o_city_streets_takes a_o_city_streets_hours : Nat) (o_marked : Int32) (o_wasLived : Int32) (o_wasParsed : Int32) (o_faultKind : Int32) (o_faultPlace : Int32) (o_latestStatus : Int32) (o_fractionTop : Int64) (o_fractionBottom : Int64) (o_city_wage : Int32) (o_city_delay : Int32) (o_city_odds : Int32) (o_city_clock : Int32) (o_city_hasWeeks : Int32) (o_city_streets_corners : Int32) (o_city_streets_takes : Nat → Int32) : va_W := [(a_o, .inr (11, [.ref a_o_city, .ref a_o_ahead, .ref a_o_marks, .int o_marked, .ref a_o_tape, .ref a_o_cityReader, .ref a_o_weeksReader, .ref a_o_trays, .ref a_o_planner, .ref a_o_ruler, .ref a_o_life, .ref a_o_latestLife, .int o_wasLived, .int o_wasParsed, .int o_faultKind, .int o_faultPlace, .int o_latestStatus, .long o_fractionTop, .long o_fractionBottom])), (a_o_city, .inr (0, [.int o_city_wage, .int o_city_delay, .int o_city_odds, .int o_city_clock, .int o_city_hasWeeks, .ref a_o_city_streets, .ref a_o_city_names, .ref a_o_city_extras, .ref a_o_city_happenings, .ref a_o_city_watchers, .ref a_o_city_weeks])), (a_o_city_streets, .inr (6, [.int o_city_streets_corners, .ref a_o_city_streets_roads, .ref a_o_city_streets_takes, .ref a_o_city_streets_hours])), (a_o_city_streets_takes, .inl (E.2.1, 64, .inl o_city_streets_takes))]
set_option maxHeartbeats 4000000 in
set_option maxRecDepth 100000 in
theorem ct_X11_road (l : Launch) (E : vE) (a_o a_o_city a_o_ahead a_o_marks a_o_tape a_o_cityReader a_o_weeksReader a_o_trays a_o_planner a_o_ruler a_o_life a_o_latestLife a_o_city_streets a_o_city_names a_o_city_extras a_o_city_happenings a_o_city_watchers a_o_city_weeks a_o_city_streets_roads a_o_city_streets_takes a_o_city_streets_hours : Nat) (o_marked : Int32) (o_wasLived : Int32) (o_wasParsed : Int32) (o_faultKind : Int32) (o_faultPlace : Int32) (o_latestStatus : Int32) (o_fractionTop : Int64) (o_fractionBottom : Int64) (o_city_wage : Int32) (o_city_delay : Int32) (o_city_odds : Int32) (o_city_clock : Int32) (o_city_hasWeeks : Int32) (o_city_streets_corners : Int32) (o_city_streets_takes : Nat → Int32) (v1 : Int32) (v2 : Int32) (u : Int32 × Int32) (hf : X11_road o_latestStatus o_city_streets_corners o_city_streets_takes v1 v2 = some u) :
    CtI l yX11_road cX11_road 4 (some .int) 2 E [.ref a_o, .int v1, .int v2] (wd_X11_road E a_o a_o_city a_o_ahead a_o_marks a_o_tape a_o_cityReader a_o_weeksReader a_o_trays a_o_planner a_o_ruler a_o_life a_o_latestLife a_o_city_streets a_o_city_names a_o_city_extras a_o_city_happenings a_o_city_watchers a_o_city_weeks a_o_city_streets_roads a_o_city_streets_takes a_o_city_streets_hours o_marked o_wasLived o_wasParsed o_faultKind o_faultPlace o_latestStatus o_fractionTop o_fractionBottom o_city_wage o_city_delay o_city_odds o_city_clock o_city_hasWeeks o_city_streets_corners o_city_streets_takes) (wd_X11_road E a_o a_o_city a_o_ahead a_o_marks a_o_tape a_o_cityReader a_o_weeksReader a_o_trays a_o_planner a_o_ruler a_o_life a_o_latestLife a_o_city_streets a_o_city_names a_o_city_extras a_o_city_happenings a_o_city_watchers a_o_city_weeks a_o_city_streets_roads a_o_city_streets_takes a_o_city_streets_hours o_marked o_wasLived o_wasParsed o_faultKind o_faultPlace u.2 o_fractionTop o_fractionBottom o_city_wage o_city_delay o_city_odds o_city_clock o_city_hasWeeks o_city_streets_corners o_city_streets_takes) u.1 := by
  refine ctI (by decide) (Nat.le_of_ble_eq_true rfl) ?_
  intro p e s m below meth cd A ls aa QQ hq cx hP hD hS hl
  obtain ⟨⟨hx, hb, hml, hown, hts⟩, hr, hlocks, hK, hA, hX⟩ := id cx
  have hl : lv_has ls 4 [(0, .ref a_o), (1, .int v1), (2, .int v2)] := hl
  have hj21 : ∀ (o_latestStatus_j21 : Int32) (H : Heap) (locs : List Loc) (ls : Array Slot), X11_road_j21 o_latestStatus_j21 o_city_streets_corners o_city_streets_takes = some u → va_P E.1 vwCl (wd_X11_road E a_o a_o_city a_o_ahead a_o_marks a_o_tape a_o_cityReader a_o_weeksReader a_o_trays a_o_planner a_o_ruler a_o_life a_o_latestLife a_o_city_streets a_o_city_names a_o_city_extras a_o_city_happenings a_o_city_watchers a_o_city_weeks a_o_city_streets_roads a_o_city_streets_takes a_o_city_streets_hours o_marked o_wasLived o_wasParsed o_faultKind o_faultPlace o_latestStatus_j21 o_fractionTop o_fractionBottom o_city_wage o_city_delay o_city_odds o_city_clock o_city_hasWeeks o_city_streets_corners o_city_streets_takes) H → va_D A (wd_X11_road E a_o a_o_city a_o_ahead a_o_marks a_o_tape a_o_cityReader a_o_weeksReader a_o_trays a_o_planner a_o_ruler a_o_life a_o_latestLife a_o_city_streets a_o_city_names a_o_city_extras a_o_city_happenings a_o_city_watchers a_o_city_weeks a_o_city_streets_roads a_o_city_streets_takes a_o_city_streets_hours o_marked o_wasLived o_wasParsed o_faultKind o_faultPlace o_latestStatus_j21 o_fractionTop o_fractionBottom o_city_wage o_city_delay o_city_odds o_city_clock o_city_hasWeeks o_city_streets_corners o_city_streets_takes) → va_S A s.heap H locs → lv_has ls 4 [(0, .ref a_o)] → W p l e (rmd 2) s m aa below meth cd H locs 0 0 QQ (F0 m 21 ls []) := by
    intro o_latestStatus_j21 H locs ls hf hP hD hS hl
    unfold X11_road_j21 at hf
    refine lv_aload_n hx hb dX11_road_21 rfl (lv_at hl 0 rfl) ?_
    refine lv_iconst (v := 1) hx hb dX11_road_22 (by decide) ?_
    obtain ⟨u23, hu23, hf⟩ := bd hf
    refine callVI (wn := (wd_X11_road E a_o a_o_city a_o_ahead a_o_marks a_o_tape a_o_cityReader a_o_weeksReader a_o_trays a_o_planner a_o_ruler a_o_life a_o_latestLife a_o_city_streets a_o_city_names a_o_city_extras a_o_city_happenings a_o_city_watchers a_o_city_weeks a_o_city_streets_roads a_o_city_streets_takes a_o_city_streets_hours o_marked o_wasLived o_wasParsed o_faultKind o_faultPlace u23.2 o_fractionTop o_fractionBottom o_city_wage o_city_delay o_city_odds o_city_clock o_city_hasWeeks o_city_streets_corners o_city_streets_takes)) (n1 := 4) (ct_X11_none l E a_o a_o_city a_o_ahead a_o_marks a_o_tape a_o_cityReader a_o_weeksReader a_o_trays a_o_planner a_o_ruler a_o_life a_o_latestLife o_marked o_wasLived o_wasParsed o_faultKind o_faultPlace o_latestStatus_j21 o_fractionTop o_fractionBottom (1 : Int32) u23 hu23) [0] cal_X11_none cav_X11_none lk_X11_119 cx hP hD hS hl dX11_road_23 rfl rfl rfl rfl (Nat.le_of_ble_eq_true rfl) ⟨Nat.le_of_ble_eq_true rfl, Nat.le_of_ble_eq_true rfl⟩ rfl (by decide +kernel) rfl [some 0, none, none, none] rfl (by decide +kernel) rfl (fun H locs hP hD hS => ?_)
    obtain rfl := Option.some.inj hf
    subst hq
    exact retI cx hP hD hS dX11_road_26
  unfold X11_road at hf
  refine lv_aload_n hx hb dX11_road_0 rfl (lv_at hl 0 rfl) ?_
  refine lv_iload_n hx hb dX11_road_1 rfl (lv_at hl 1 rfl) ?_
  obtain ⟨u2, hu2, hf⟩ := bd hf
  refine keepVI (ct_X11_isCorner l E a_o a_o_city a_o_ahead a_o_marks a_o_tape a_o_cityReader a_o_weeksReader a_o_trays a_o_planner a_o_ruler a_o_life a_o_latestLife a_o_city_streets a_o_city_names a_o_city_extras a_o_city_happenings a_o_city_watchers a_o_city_weeks a_o_city_streets_roads a_o_city_streets_takes a_o_city_streets_hours o_marked o_wasLived o_wasParsed o_faultKind o_faultPlace o_latestStatus o_fractionTop o_fractionBottom o_city_wage o_city_delay o_city_odds o_city_clock o_city_hasWeeks o_city_streets_corners v1 u2 hu2) [0, 1, 2] cal_X11_isCorner cav_X11_isCorner lk_X11_263 cx hP hD hS hl dX11_road_2 rfl rfl rfl rfl (Nat.le_of_ble_eq_true rfl) ⟨Nat.le_of_ble_eq_true rfl, Nat.le_of_ble_eq_true rfl⟩ rfl (by decide) (fun H locs hP hS => ?_)
  refine lv_if_eq (tgt := 21) hx hb dX11_road_5 (by decide) (fun hc => ?_) (fun hc => ?_)
  · have hf := it_t hc hf
    exact hj21 _ _ _ _ hf hP hD hS (lv_sub hl [0] rfl)
  · have hf := it_f hc hf
    refine lv_aload_n hx hb dX11_road_8 rfl (lv_at hl 0 rfl) ?_
    refine lv_iload_n hx hb dX11_road_9 rfl (lv_at hl 2 rfl) ?_
    obtain ⟨u10, hu10, hf⟩ := bd hf
    refine keepVI (ct_X11_isCorner l E a_o a_o_city a_o_ahead a_o_marks a_o_tape a_o_cityReader a_o_weeksReader a_o_trays a_o_planner a_o_ruler a_o_life a_o_latestLife a_o_city_streets a_o_city_names a_o_city_extras a_o_city_happenings a_o_city_watchers a_o_city_weeks a_o_city_streets_roads a_o_city_streets_takes a_o_city_streets_hours o_marked o_wasLived o_wasParsed o_faultKind o_faultPlace o_latestStatus o_fractionTop o_fractionBottom o_city_wage o_city_delay o_city_odds o_city_clock o_city_hasWeeks o_city_streets_corners v2 u10 hu10) [0, 1, 2] cal_X11_isCorner cav_X11_isCorner lk_X11_263 cx hP hD hS hl dX11_road_10 rfl rfl rfl rfl (Nat.le_of_ble_eq_true rfl) ⟨Nat.le_of_ble_eq_true rfl, Nat.le_of_ble_eq_true rfl⟩ rfl (by decide) (fun H locs hP hS => ?_)
    refine lv_if_eq (tgt := 21) hx hb dX11_road_13 (by decide) (fun hc => ?_) (fun hc => ?_)
    · have hf := it_t hc hf
      exact hj21 _ _ _ _ hf hP hD hS (lv_sub hl [0] rfl)
    · have hf := it_f hc hf
      refine lv_iload_n hx hb dX11_road_16 rfl (lv_at hl 1 rfl) ?_
      refine lv_iload_n hx hb dX11_road_17 rfl (lv_at hl 2 rfl) ?_
      refine lv_icmp_ne (tgt := 27) hx hb dX11_road_18 (by decide) (fun hc => ?_) (fun hc => ?_)
      · have hf := it_f hc hf
        refine lv_aload_n hx hb dX11_road_27 rfl (lv_at hl 0 rfl) ?_
        refine va_get (D := E.1) (ci := 11) (v := .ref a_o_city) (C := RX11) (T := TX11) (N := 19) hx hb hts inX11 hown hK hP 0 rfl rfl 0 (by decide) (hts _ fl_X11_10) (fun _ h9 => h9) rfl dX11_road_28 ?_
        refine va_get (D := E.1) (ci := 0) (v := .ref a_o_city_streets) (C := RX0) (T := TX0) (N := 11) hx hb hts inX0 hown hK hP 1 rfl rfl 5 (by decide) (hts _ fl_X11_163) (fun _ h9 => h9) rfl dX11_road_31 ?_
        refine lv_iload_n hx hb dX11_road_34 rfl (lv_at hl 1 rfl) ?_
        refine lv_iload_n hx hb dX11_road_35 rfl (lv_at hl 2 rfl) ?_
        obtain ⟨u36, hu36, hf⟩ := bd hf
        refine keepVI (ct_X6_takesBetween l E a_o_city_streets a_o_city_streets_roads a_o_city_streets_takes a_o_city_streets_hours o_city_streets_corners o_city_streets_takes v1 v2 u36 hu36) [2, 3] cal_X6_takesBetween cav_X6_takesBetween lk_X11_266 cx hP hD hS hl dX11_road_36 rfl rfl rfl rfl (Nat.le_of_ble_eq_true rfl) ⟨Nat.le_of_ble_eq_true rfl, Nat.le_of_ble_eq_true rfl⟩ rfl (by decide) (fun H locs hP hS => ?_)
        refine lv_istore_n (lv' := [(3, .int u36), (0, .ref a_o), (1, .int v1), (2, .int v2)]) hx hb dX11_road_39 rfl hl (by decide) rfl (fun ls hl => ?_)
        refine lv_iload_n hx hb dX11_road_40 rfl (lv_at hl 0 rfl) ?_
        refine lv_if_ne (tgt := 53) hx hb dX11_road_41 (by decide) (fun hc => ?_) (fun hc => ?_)
        · have hf := it_f hc hf
          refine lv_aload_n hx hb dX11_road_53 rfl (lv_at hl 1 rfl) ?_
          refine lv_iload_n hx hb dX11_road_54 rfl (lv_at hl 0 rfl) ?_
          obtain ⟨u55, hu55, hf⟩ := bd hf
          refine callVI (wn := (wd_X11_road E a_o a_o_city a_o_ahead a_o_marks a_o_tape a_o_cityReader a_o_weeksReader a_o_trays a_o_planner a_o_ruler a_o_life a_o_latestLife a_o_city_streets a_o_city_names a_o_city_extras a_o_city_happenings a_o_city_watchers a_o_city_weeks a_o_city_streets_roads a_o_city_streets_takes a_o_city_streets_hours o_marked o_wasLived o_wasParsed o_faultKind o_faultPlace u55.2 o_fractionTop o_fractionBottom o_city_wage o_city_delay o_city_odds o_city_clock o_city_hasWeeks o_city_streets_corners o_city_streets_takes)) (n1 := 4) (ct_X11_answer l E a_o a_o_city a_o_ahead a_o_marks a_o_tape a_o_cityReader a_o_weeksReader a_o_trays a_o_planner a_o_ruler a_o_life a_o_latestLife o_marked o_wasLived o_wasParsed o_faultKind o_faultPlace o_latestStatus o_fractionTop o_fractionBottom u36 u55 hu55) [0] cal_X11_answer cav_X11_answer lk_X11_172 cx hP hD hS hl dX11_road_55 rfl rfl rfl rfl (Nat.le_of_ble_eq_true rfl) ⟨Nat.le_of_ble_eq_true rfl, Nat.le_of_ble_eq_true rfl⟩ rfl (by decide +kernel) rfl [some 0, none, none, none] rfl (by decide +kernel) rfl (fun H locs hP hD hS => ?_)
          obtain rfl := Option.some.inj hf
          subst hq
          exact retI cx hP hD hS dX11_road_58
        · have hf := it_t hc hf
          refine lv_aload_n hx hb dX11_road_44 rfl (lv_at hl 1 rfl) ?_
          refine lv_bipush (v := 6) hx hb dX11_road_45 (by decide) ?_
          obtain ⟨u47, hu47, hf⟩ := bd hf
          refine callVI (wn := (wd_X11_road E a_o a_o_city a_o_ahead a_o_marks a_o_tape a_o_cityReader a_o_weeksReader a_o_trays a_o_planner a_o_ruler a_o_life a_o_latestLife a_o_city_streets a_o_city_names a_o_city_extras a_o_city_happenings a_o_city_watchers a_o_city_weeks a_o_city_streets_roads a_o_city_streets_takes a_o_city_streets_hours o_marked o_wasLived o_wasParsed o_faultKind o_faultPlace u47.2 o_fractionTop o_fractionBottom o_city_wage o_city_delay o_city_odds o_city_clock o_city_hasWeeks o_city_streets_corners o_city_streets_takes)) (n1 := 4) (ct_X11_none l E a_o a_o_city a_o_ahead a_o_marks a_o_tape a_o_cityReader a_o_weeksReader a_o_trays a_o_planner a_o_ruler a_o_life a_o_latestLife o_marked o_wasLived o_wasParsed o_faultKind o_faultPlace o_latestStatus o_fractionTop o_fractionBottom (6 : Int32) u47 hu47) [0] cal_X11_none cav_X11_none lk_X11_119 cx hP hD hS hl dX11_road_47 rfl rfl rfl rfl (Nat.le_of_ble_eq_true rfl) ⟨Nat.le_of_ble_eq_true rfl, Nat.le_of_ble_eq_true rfl⟩ rfl (by decide +kernel) rfl [some 0, none, none, none] rfl (by decide +kernel) rfl (fun H locs hP hD hS => ?_)
          refine lv_goto (tgt := 58) hx hb dX11_road_50 (by decide) ?_
          obtain rfl := Option.some.inj hf
          subst hq
          exact retI cx hP hD hS dX11_road_58
      · have hf := it_t hc hf
        exact hj21 _ _ _ _ hf hP hD hS (lv_sub hl [0] rfl)
