def X11_hour (F : Nat) (o_latestStatus : Int32) (o_city_wage : Int32) (o_city_delay : Int32) (o_city_clock : Int32) (o_city_streets_corners : Int32) (o_city_streets_takes : Nat → Int32) (o_city_streets_hours : Nat → Int32) (o_city_extras_many : Int32) (o_city_extras_cells : Nat → Int32) (o_city_happenings_many : Int32) (o_city_happenings_cells : Nat → Int32) (o_city_watchers_many : Int32) (o_city_watchers_cells : Nat → Int32) (v1 : Int32) : Option (Int32 × Int32 × Int32 × (Nat → Int32) × (Nat → Int32) × (Nat → Int32)) :=
  (X11_within v1 (1 : Int32) (99 : Int32)).bind fun u4 =>
  if u4 = 0 then
  (X11_none o_latestStatus (1 : Int32)).bind fun u12 =>
  some (u12.1, u12.2, o_city_clock, o_city_extras_cells, o_city_happenings_cells, o_city_watchers_cells)
  else
  (X0_canPass o_city_clock v1).bind fun u21 =>
  if u21 = 0 then
  (X11_none o_latestStatus (4 : Int32)).bind fun u29 =>
  some (u29.1, u29.2, o_city_clock, o_city_extras_cells, o_city_happenings_cells, o_city_watchers_cells)
  else
  (X0_withFate F o_city_happenings_many o_city_happenings_cells (1 : Int32)).bind fun u38 =>
  (J6_bitCount_0f7a4 u38).bind fun u41 =>
  (X0_passHours F o_city_wage o_city_delay o_city_clock o_city_streets_corners o_city_streets_takes o_city_streets_hours o_city_extras_many o_city_extras_cells o_city_happenings_many o_city_happenings_cells o_city_watchers_many o_city_watchers_cells v1).bind fun u50 =>
  (X0_withFate F o_city_happenings_many u50.2.2.1 (1 : Int32)).bind fun u59 =>
  (J6_bitCount_0f7a4 u59).bind fun u62 =>
  (X11_answer o_latestStatus (u62 - u41)).bind fun u67 =>
  some (u67.1, u67.2, u50.1, u50.2.1, u50.2.2.1, u50.2.2.2)
abbrev wd_X11_hour (E : vE) (a_o a_o_city a_o_ahead a_o_marks a_o_tape a_o_cityReader a_o_weeksReader a_o_trays a_o_planner a_o_ruler a_o_life a_o_latestLife a_o_city_streets a_o_city_names a_o_city_extras a_o_city_happenings a_o_city_watchers a_o_city_weeks a_o_city_streets_roads a_o_city_streets_takes a_o_city_streets_hours a_o_city_extras_cells a_o_city_happenings_cells a_o_city_watchers_cells : Nat) (o_marked : Int32) (o_wasLived : Int32) (o_wasParsed : Int32) (o_faultKind : Int32) (o_faultPlace : Int32) (o_latestStatus : Int32) (o_fractionTop : Int64) (o_fractionBottom : Int64) (o_city_wage : Int32) (o_city_delay : Int32) (o_city_odds : Int32) (o_city_clock : Int32) (o_city_hasWeeks : Int32) (o_city_streets_corners : Int32) (o_city_streets_takes : Nat → Int32) (o_city_streets_hours : Nat → Int32) (o_city_extras_many : Int32) (o_city_extras_cells : Nat → Int32) (o_city_happenings_many : Int32) (o_city_happenings_cells : Nat → Int32) (o_city_watchers_many : Int32) (o_city_watchers_cells : Nat → Int32) : va_W := [(a_o, .inr (11, [.ref a_o_city, .ref a_o_ahead, .ref a_o_marks, .int o_marked, .ref a_o_tape, .ref a_o_cityReader, .ref a_o_weeksReader, .ref a_o_trays, .ref a_o_planner, .ref a_o_ruler, .ref a_o_life, .ref a_o_latestLife, .int o_wasLived, .int o_wasParsed, .int o_faultKind, .int o_faultPlace, .int o_latestStatus, .long o_fractionTop, .long o_fractionBottom])), (a_o_city, .inr (0, [.int o_city_wage, .int o_city_delay, .int o_city_odds, .int o_city_clock, .int o_city_hasWeeks, .ref a_o_city_streets, .ref a_o_city_names, .ref a_o_city_extras, .ref a_o_city_happenings, .ref a_o_city_watchers, .ref a_o_city_weeks])), (a_o_city_streets, .inr (6, [.int o_city_streets_corners, .ref a_o_city_streets_roads, .ref a_o_city_streets_takes, .ref a_o_city_streets_hours])), (a_o_city_streets_takes, .inl (E.2.1, 64, .inl o_city_streets_takes)), (a_o_city_streets_hours, .inl (E.2.1, 64, .inl o_city_streets_hours)), (a_o_city_extras, .inr (7, [.int 5, .ref a_o_city_extras_cells, .int o_city_extras_many])), (a_o_city_extras_cells, .inl (E.2.1, 35, .inl o_city_extras_cells)), (a_o_city_happenings, .inr (7, [.int 5, .ref a_o_city_happenings_cells, .int o_city_happenings_many])), (a_o_city_happenings_cells, .inl (E.2.1, 40, .inl o_city_happenings_cells)), (a_o_city_watchers, .inr (7, [.int 3, .ref a_o_city_watchers_cells, .int o_city_watchers_many])), (a_o_city_watchers_cells, .inl (E.2.1, 12, .inl o_city_watchers_cells))]
set_option maxHeartbeats 4000000 in
set_option maxRecDepth 100000 in
theorem ct_X11_hour (l : Launch) (E : vE) (F : Nat) (a_o a_o_city a_o_ahead a_o_marks a_o_tape a_o_cityReader a_o_weeksReader a_o_trays a_o_planner a_o_ruler a_o_life a_o_latestLife a_o_city_streets a_o_city_names a_o_city_extras a_o_city_happenings a_o_city_watchers a_o_city_weeks a_o_city_streets_roads a_o_city_streets_takes a_o_city_streets_hours a_o_city_extras_cells a_o_city_happenings_cells a_o_city_watchers_cells : Nat) (o_marked : Int32) (o_wasLived : Int32) (o_wasParsed : Int32) (o_faultKind : Int32) (o_faultPlace : Int32) (o_latestStatus : Int32) (o_fractionTop : Int64) (o_fractionBottom : Int64) (o_city_wage : Int32) (o_city_delay : Int32) (o_city_odds : Int32) (o_city_clock : Int32) (o_city_hasWeeks : Int32) (o_city_streets_corners : Int32) (o_city_streets_takes : Nat → Int32) (o_city_streets_hours : Nat → Int32) (o_city_extras_many : Int32) (o_city_extras_cells : Nat → Int32) (o_city_happenings_many : Int32) (o_city_happenings_cells : Nat → Int32) (o_city_watchers_many : Int32) (o_city_watchers_cells : Nat → Int32) (v1 : Int32) (u : Int32 × Int32 × Int32 × (Nat → Int32) × (Nat → Int32) × (Nat → Int32)) (hf : X11_hour F o_latestStatus o_city_wage o_city_delay o_city_clock o_city_streets_corners o_city_streets_takes o_city_streets_hours o_city_extras_many o_city_extras_cells o_city_happenings_many o_city_happenings_cells o_city_watchers_many o_city_watchers_cells v1 = some u) :
    CtI l yX11_hour cX11_hour 3 (some .int) 5 E [.ref a_o, .int v1] (wd_X11_hour E a_o a_o_city a_o_ahead a_o_marks a_o_tape a_o_cityReader a_o_weeksReader a_o_trays a_o_planner a_o_ruler a_o_life a_o_latestLife a_o_city_streets a_o_city_names a_o_city_extras a_o_city_happenings a_o_city_watchers a_o_city_weeks a_o_city_streets_roads a_o_city_streets_takes a_o_city_streets_hours a_o_city_extras_cells a_o_city_happenings_cells a_o_city_watchers_cells o_marked o_wasLived o_wasParsed o_faultKind o_faultPlace o_latestStatus o_fractionTop o_fractionBottom o_city_wage o_city_delay o_city_odds o_city_clock o_city_hasWeeks o_city_streets_corners o_city_streets_takes o_city_streets_hours o_city_extras_many o_city_extras_cells o_city_happenings_many o_city_happenings_cells o_city_watchers_many o_city_watchers_cells) (wd_X11_hour E a_o a_o_city a_o_ahead a_o_marks a_o_tape a_o_cityReader a_o_weeksReader a_o_trays a_o_planner a_o_ruler a_o_life a_o_latestLife a_o_city_streets a_o_city_names a_o_city_extras a_o_city_happenings a_o_city_watchers a_o_city_weeks a_o_city_streets_roads a_o_city_streets_takes a_o_city_streets_hours a_o_city_extras_cells a_o_city_happenings_cells a_o_city_watchers_cells o_marked o_wasLived o_wasParsed o_faultKind o_faultPlace u.2.1 o_fractionTop o_fractionBottom o_city_wage o_city_delay o_city_odds u.2.2.1 o_city_hasWeeks o_city_streets_corners o_city_streets_takes o_city_streets_hours o_city_extras_many u.2.2.2.1 o_city_happenings_many u.2.2.2.2.1 o_city_watchers_many u.2.2.2.2.2) u.1 := by
  refine ctI (by decide) (Nat.le_of_ble_eq_true rfl) ?_
  intro p e s m below meth cd A ls aa QQ hq cx hP hD hS hl
  obtain ⟨⟨hx, hb, hml, hown, hts⟩, hr, hlocks, hK, hA, hX⟩ := id cx
  have hl : lv_has ls 3 [(0, .ref a_o), (1, .int v1)] := hl
  unfold X11_hour at hf
  refine lv_iload_n hx hb dX11_hour_0 rfl (lv_at hl 1 rfl) ?_
  refine lv_iconst (v := 1) hx hb dX11_hour_1 (by decide) ?_
  refine lv_bipush (v := 99) hx hb dX11_hour_2 (by decide) ?_
  obtain ⟨u4, hu4, hf⟩ := bd hf
  refine keepSI (ct_X11_within l E v1 (1 : Int32) (99 : Int32) u4 hu4) [] cal_X11_within sta_X11_within lk_X11_96 cx hP hD hS hl dX11_hour_4 rfl rfl (Nat.le_of_ble_eq_true rfl) ⟨Nat.le_of_ble_eq_true rfl, Nat.le_of_ble_eq_true rfl⟩ rfl (by decide) (fun H locs hP hS => ?_)
  refine lv_if_ne (tgt := 16) hx hb dX11_hour_7 (by decide) (fun hc => ?_) (fun hc => ?_)
  · have hf := it_f hc hf
    refine lv_aload_n hx hb dX11_hour_16 rfl (lv_at hl 0 rfl) ?_
    refine va_get (D := E.1) (ci := 11) (v := .ref a_o_city) (C := RX11) (T := TX11) (N := 19) hx hb hts inX11 hown hK hP 0 rfl rfl 0 (by decide) (hts _ fl_X11_10) (fun _ h9 => h9) rfl dX11_hour_17 ?_
    refine lv_iload_n hx hb dX11_hour_20 rfl (lv_at hl 1 rfl) ?_
    obtain ⟨u21, hu21, hf⟩ := bd hf
    refine keepVI (ct_X0_canPass l E a_o_city a_o_city_streets a_o_city_names a_o_city_extras a_o_city_happenings a_o_city_watchers a_o_city_weeks o_city_wage o_city_delay o_city_odds o_city_clock o_city_hasWeeks v1 u21 hu21) [1] cal_X0_canPass cav_X0_canPass lk_X11_269 cx hP hD hS hl dX11_hour_21 rfl rfl rfl rfl (Nat.le_of_ble_eq_true rfl) ⟨Nat.le_of_ble_eq_true rfl, Nat.le_of_ble_eq_true rfl⟩ rfl (by decide) (fun H locs hP hS => ?_)
    refine lv_if_ne (tgt := 33) hx hb dX11_hour_24 (by decide) (fun hc => ?_) (fun hc => ?_)
    · have hf := it_f hc hf
      refine lv_aload_n hx hb dX11_hour_33 rfl (lv_at hl 0 rfl) ?_
      refine va_get (D := E.1) (ci := 11) (v := .ref a_o_city) (C := RX11) (T := TX11) (N := 19) hx hb hts inX11 hown hK hP 0 rfl rfl 0 (by decide) (hts _ fl_X11_10) (fun _ h9 => h9) rfl dX11_hour_34 ?_
      refine lv_iconst (v := 1) hx hb dX11_hour_37 (by decide) ?_
      obtain ⟨u38, hu38, hf⟩ := bd hf
      refine keepVI (ct_X0_withFate l E F a_o_city a_o_city_streets a_o_city_names a_o_city_extras a_o_city_happenings a_o_city_watchers a_o_city_weeks a_o_city_happenings_cells o_city_wage o_city_delay o_city_odds o_city_clock o_city_hasWeeks o_city_happenings_many o_city_happenings_cells (1 : Int32) u38 hu38) [1, 7, 8] cal_X0_withFate cav_X0_withFate lk_X11_231 cx hP hD hS hl dX11_hour_38 rfl rfl rfl rfl (Nat.le_of_ble_eq_true rfl) ⟨Nat.le_of_ble_eq_true rfl, Nat.le_of_ble_eq_true rfl⟩ rfl (by decide) (fun H locs hP hS => ?_)
      obtain ⟨u41, hu41, hf⟩ := bd hf
      refine keepSI (ct_J6_bitCount_0f7a4 l E u38 u41 hu41) [] cal_J6_bitCount_0f7a4 sta_J6_bitCount_0f7a4 lk_X11_255 cx hP hD hS hl dX11_hour_41 rfl rfl (Nat.le_of_ble_eq_true rfl) ⟨Nat.le_of_ble_eq_true rfl, Nat.le_of_ble_eq_true rfl⟩ rfl (by decide) (fun H locs hP hS => ?_)
      refine lv_istore_n (lv' := [(2, .int u41), (0, .ref a_o), (1, .int v1)]) hx hb dX11_hour_44 rfl hl (by decide) rfl (fun ls hl => ?_)
      refine lv_aload_n hx hb dX11_hour_45 rfl (lv_at hl 1 rfl) ?_
      refine va_get (D := E.1) (ci := 11) (v := .ref a_o_city) (C := RX11) (T := TX11) (N := 19) hx hb hts inX11 hown hK hP 0 rfl rfl 0 (by decide) (hts _ fl_X11_10) (fun _ h9 => h9) rfl dX11_hour_46 ?_
      refine lv_iload_n hx hb dX11_hour_49 rfl (lv_at hl 2 rfl) ?_
      obtain ⟨u50, hu50, hf⟩ := bd hf
      refine callVV (wn := (wd_X11_hour E a_o a_o_city a_o_ahead a_o_marks a_o_tape a_o_cityReader a_o_weeksReader a_o_trays a_o_planner a_o_ruler a_o_life a_o_latestLife a_o_city_streets a_o_city_names a_o_city_extras a_o_city_happenings a_o_city_watchers a_o_city_weeks a_o_city_streets_roads a_o_city_streets_takes a_o_city_streets_hours a_o_city_extras_cells a_o_city_happenings_cells a_o_city_watchers_cells o_marked o_wasLived o_wasParsed o_faultKind o_faultPlace o_latestStatus o_fractionTop o_fractionBottom o_city_wage o_city_delay o_city_odds u50.1 o_city_hasWeeks o_city_streets_corners o_city_streets_takes o_city_streets_hours o_city_extras_many u50.2.1 o_city_happenings_many u50.2.2.1 o_city_watchers_many u50.2.2.2)) (n1 := 11) (ct_X0_passHours l E F a_o_city a_o_city_streets a_o_city_names a_o_city_extras a_o_city_happenings a_o_city_watchers a_o_city_weeks a_o_city_streets_roads a_o_city_streets_takes a_o_city_streets_hours a_o_city_extras_cells a_o_city_happenings_cells a_o_city_watchers_cells o_city_wage o_city_delay o_city_odds o_city_clock o_city_hasWeeks o_city_streets_corners o_city_streets_takes o_city_streets_hours o_city_extras_many o_city_extras_cells o_city_happenings_many o_city_happenings_cells o_city_watchers_many o_city_watchers_cells v1 u50 hu50) [1, 2, 3, 4, 5, 6, 7, 8, 9, 10] cal_X0_passHours cav_X0_passHours lk_X11_272 cx hP hD hS hl dX11_hour_50 rfl rfl rfl rfl (Nat.le_of_ble_eq_true rfl) ⟨Nat.le_of_ble_eq_true rfl, Nat.le_of_ble_eq_true rfl⟩ rfl (by decide +kernel) rfl [none, some 0, some 1, some 2, some 3, some 4, some 5, some 6, some 7, some 8, some 9] rfl (by decide +kernel) rfl (fun H locs hP hD hS => ?_)
      refine lv_aload_n hx hb dX11_hour_53 rfl (lv_at hl 1 rfl) ?_
      refine lv_aload_n hx hb dX11_hour_54 rfl (lv_at hl 1 rfl) ?_
      refine va_get (D := E.1) (ci := 11) (v := .ref a_o_city) (C := RX11) (T := TX11) (N := 19) hx hb hts inX11 hown hK hP 0 rfl rfl 0 (by decide) (hts _ fl_X11_10) (fun _ h9 => h9) rfl dX11_hour_55 ?_
      refine lv_iconst (v := 1) hx hb dX11_hour_58 (by decide) ?_
      obtain ⟨u59, hu59, hf⟩ := bd hf
      refine keepVI (ct_X0_withFate l E F a_o_city a_o_city_streets a_o_city_names a_o_city_extras a_o_city_happenings a_o_city_watchers a_o_city_weeks a_o_city_happenings_cells o_city_wage o_city_delay o_city_odds u50.1 o_city_hasWeeks o_city_happenings_many u50.2.2.1 (1 : Int32) u59 hu59) [1, 7, 8] cal_X0_withFate cav_X0_withFate lk_X11_231 cx hP hD hS hl dX11_hour_59 rfl rfl rfl rfl (Nat.le_of_ble_eq_true rfl) ⟨Nat.le_of_ble_eq_true rfl, Nat.le_of_ble_eq_true rfl⟩ rfl (by decide) (fun H locs hP hS => ?_)
      obtain ⟨u62, hu62, hf⟩ := bd hf
      refine keepSI (ct_J6_bitCount_0f7a4 l E u59 u62 hu62) [] cal_J6_bitCount_0f7a4 sta_J6_bitCount_0f7a4 lk_X11_255 cx hP hD hS hl dX11_hour_62 rfl rfl (Nat.le_of_ble_eq_true rfl) ⟨Nat.le_of_ble_eq_true rfl, Nat.le_of_ble_eq_true rfl⟩ rfl (by decide) (fun H locs hP hS => ?_)
      refine lv_iload_n hx hb dX11_hour_65 rfl (lv_at hl 0 rfl) ?_
      refine lv_isub hx hb dX11_hour_66 ?_
      obtain ⟨u67, hu67, hf⟩ := bd hf
      refine callVI (wn := (wd_X11_hour E a_o a_o_city a_o_ahead a_o_marks a_o_tape a_o_cityReader a_o_weeksReader a_o_trays a_o_planner a_o_ruler a_o_life a_o_latestLife a_o_city_streets a_o_city_names a_o_city_extras a_o_city_happenings a_o_city_watchers a_o_city_weeks a_o_city_streets_roads a_o_city_streets_takes a_o_city_streets_hours a_o_city_extras_cells a_o_city_happenings_cells a_o_city_watchers_cells o_marked o_wasLived o_wasParsed o_faultKind o_faultPlace u67.2 o_fractionTop o_fractionBottom o_city_wage o_city_delay o_city_odds u50.1 o_city_hasWeeks o_city_streets_corners o_city_streets_takes o_city_streets_hours o_city_extras_many u50.2.1 o_city_happenings_many u50.2.2.1 o_city_watchers_many u50.2.2.2)) (n1 := 11) (ct_X11_answer l E a_o a_o_city a_o_ahead a_o_marks a_o_tape a_o_cityReader a_o_weeksReader a_o_trays a_o_planner a_o_ruler a_o_life a_o_latestLife o_marked o_wasLived o_wasParsed o_faultKind o_faultPlace o_latestStatus o_fractionTop o_fractionBottom (u62 - u41) u67 hu67) [0] cal_X11_answer cav_X11_answer lk_X11_172 cx hP hD hS hl dX11_hour_67 rfl rfl rfl rfl (Nat.le_of_ble_eq_true rfl) ⟨Nat.le_of_ble_eq_true rfl, Nat.le_of_ble_eq_true rfl⟩ rfl (by decide +kernel) rfl [some 0, none, none, none, none, none, none, none, none, none, none] rfl (by decide +kernel) rfl (fun H locs hP hD hS => ?_)
      obtain rfl := Option.some.inj hf
      subst hq
      exact retI cx hP hD hS dX11_hour_70
    · have hf := it_t hc hf
      refine lv_aload_n hx hb dX11_hour_27 rfl (lv_at hl 0 rfl) ?_
      refine lv_iconst (v := 4) hx hb dX11_hour_28 (by decide) ?_
      obtain ⟨u29, hu29, hf⟩ := bd hf
      refine callVI (wn := (wd_X11_hour E a_o a_o_city a_o_ahead a_o_marks a_o_tape a_o_cityReader a_o_weeksReader a_o_trays a_o_planner a_o_ruler a_o_life a_o_latestLife a_o_city_streets a_o_city_names a_o_city_extras a_o_city_happenings a_o_city_watchers a_o_city_weeks a_o_city_streets_roads a_o_city_streets_takes a_o_city_streets_hours a_o_city_extras_cells a_o_city_happenings_cells a_o_city_watchers_cells o_marked o_wasLived o_wasParsed o_faultKind o_faultPlace u29.2 o_fractionTop o_fractionBottom o_city_wage o_city_delay o_city_odds o_city_clock o_city_hasWeeks o_city_streets_corners o_city_streets_takes o_city_streets_hours o_city_extras_many o_city_extras_cells o_city_happenings_many o_city_happenings_cells o_city_watchers_many o_city_watchers_cells)) (n1 := 11) (ct_X11_none l E a_o a_o_city a_o_ahead a_o_marks a_o_tape a_o_cityReader a_o_weeksReader a_o_trays a_o_planner a_o_ruler a_o_life a_o_latestLife o_marked o_wasLived o_wasParsed o_faultKind o_faultPlace o_latestStatus o_fractionTop o_fractionBottom (4 : Int32) u29 hu29) [0] cal_X11_none cav_X11_none lk_X11_119 cx hP hD hS hl dX11_hour_29 rfl rfl rfl rfl (Nat.le_of_ble_eq_true rfl) ⟨Nat.le_of_ble_eq_true rfl, Nat.le_of_ble_eq_true rfl⟩ rfl (by decide +kernel) rfl [some 0, none, none, none, none, none, none, none, none, none, none] rfl (by decide +kernel) rfl (fun H locs hP hD hS => ?_)
      obtain rfl := Option.some.inj hf
      subst hq
      exact retI cx hP hD hS dX11_hour_32
  · have hf := it_t hc hf
    refine lv_aload_n hx hb dX11_hour_10 rfl (lv_at hl 0 rfl) ?_
    refine lv_iconst (v := 1) hx hb dX11_hour_11 (by decide) ?_
    obtain ⟨u12, hu12, hf⟩ := bd hf
    refine callVI (wn := (wd_X11_hour E a_o a_o_city a_o_ahead a_o_marks a_o_tape a_o_cityReader a_o_weeksReader a_o_trays a_o_planner a_o_ruler a_o_life a_o_latestLife a_o_city_streets a_o_city_names a_o_city_extras a_o_city_happenings a_o_city_watchers a_o_city_weeks a_o_city_streets_roads a_o_city_streets_takes a_o_city_streets_hours a_o_city_extras_cells a_o_city_happenings_cells a_o_city_watchers_cells o_marked o_wasLived o_wasParsed o_faultKind o_faultPlace u12.2 o_fractionTop o_fractionBottom o_city_wage o_city_delay o_city_odds o_city_clock o_city_hasWeeks o_city_streets_corners o_city_streets_takes o_city_streets_hours o_city_extras_many o_city_extras_cells o_city_happenings_many o_city_happenings_cells o_city_watchers_many o_city_watchers_cells)) (n1 := 11) (ct_X11_none l E a_o a_o_city a_o_ahead a_o_marks a_o_tape a_o_cityReader a_o_weeksReader a_o_trays a_o_planner a_o_ruler a_o_life a_o_latestLife o_marked o_wasLived o_wasParsed o_faultKind o_faultPlace o_latestStatus o_fractionTop o_fractionBottom (1 : Int32) u12 hu12) [0] cal_X11_none cav_X11_none lk_X11_119 cx hP hD hS hl dX11_hour_12 rfl rfl rfl rfl (Nat.le_of_ble_eq_true rfl) ⟨Nat.le_of_ble_eq_true rfl, Nat.le_of_ble_eq_true rfl⟩ rfl (by decide +kernel) rfl [some 0, none, none, none, none, none, none, none, none, none, none] rfl (by decide +kernel) rfl (fun H locs hP hD hS => ?_)
    obtain rfl := Option.some.inj hf
    subst hq
    exact retI cx hP hD hS dX11_hour_15
def X11_order_j16 (o_latestStatus : Int32) (o_city_extras_many : Int32) (o_city_extras_cells : Nat → Int32) (o_city_happenings_many : Int32) : Option (Int32 × Int32 × (Nat → Int32)) :=
  (X11_refused o_latestStatus (1 : Int32)).bind fun u18 =>
  if isZ u18.1 then some (u18.1, u18.2, o_city_extras_cells) else none
def X11_order (o_latestStatus : Int32) (o_city_extras_many : Int32) (o_city_extras_cells : Nat → Int32) (o_city_happenings_many : Int32) (v1 : Int32) (v2 : Int32) (v3 : Int32) : Option (Int32 × Int32 × (Nat → Int32)) :=
  (X11_isExtra o_city_extras_many v1).bind fun u2 =>
  if u2 = 0 then
  X11_order_j16 o_latestStatus o_city_extras_many o_city_extras_cells o_city_happenings_many
  else
  (X11_isHappening o_city_happenings_many v2).bind fun u10 =>
  if u10 = 0 then
  X11_order_j16 o_latestStatus o_city_extras_many o_city_extras_cells o_city_happenings_many
  else
  (X0_isOrdered o_city_extras_many o_city_extras_cells v1 v2).bind fun u29 =>
  if v3 = u29 then
  (X11_refused o_latestStatus (7 : Int32)).bind fun u38 =>
  if isZ u38.1 then some (u38.1, u38.2, o_city_extras_cells) else none
  else
  (X0_turnOrder o_city_extras_many o_city_extras_cells v1 v2).bind fun u48 =>
  (X11_accepted o_latestStatus).bind fun u52 =>
  if isZ u52.1 then some (u52.1, u52.2, u48) else none
abbrev wd_X11_order (E : vE) (a_o a_o_city a_o_ahead a_o_marks a_o_tape a_o_cityReader a_o_weeksReader a_o_trays a_o_planner a_o_ruler a_o_life a_o_latestLife a_o_city_streets a_o_city_names a_o_city_extras a_o_city_happenings a_o_city_watchers a_o_city_weeks a_o_city_extras_cells a_o_city_happenings_cells : Nat) (o_marked : Int32) (o_wasLived : Int32) (o_wasParsed : Int32) (o_faultKind : Int32) (o_faultPlace : Int32) (o_latestStatus : Int32) (o_fractionTop : Int64) (o_fractionBottom : Int64) (o_city_wage : Int32) (o_city_delay : Int32) (o_city_odds : Int32) (o_city_clock : Int32) (o_city_hasWeeks : Int32) (o_city_extras_many : Int32) (o_city_extras_cells : Nat → Int32) (o_city_happenings_many : Int32) : va_W := [(a_o, .inr (11, [.ref a_o_city, .ref a_o_ahead, .ref a_o_marks, .int o_marked, .ref a_o_tape, .ref a_o_cityReader, .ref a_o_weeksReader, .ref a_o_trays, .ref a_o_planner, .ref a_o_ruler, .ref a_o_life, .ref a_o_latestLife, .int o_wasLived, .int o_wasParsed, .int o_faultKind, .int o_faultPlace, .int o_latestStatus, .long o_fractionTop, .long o_fractionBottom])), (a_o_city, .inr (0, [.int o_city_wage, .int o_city_delay, .int o_city_odds, .int o_city_clock, .int o_city_hasWeeks, .ref a_o_city_streets, .ref a_o_city_names, .ref a_o_city_extras, .ref a_o_city_happenings, .ref a_o_city_watchers, .ref a_o_city_weeks])), (a_o_city_extras, .inr (7, [.int 5, .ref a_o_city_extras_cells, .int o_city_extras_many])), (a_o_city_extras_cells, .inl (E.2.1, 35, .inl o_city_extras_cells)), (a_o_city_happenings, .inr (7, [.int 5, .ref a_o_city_happenings_cells, .int o_city_happenings_many]))]
set_option maxHeartbeats 4000000 in
set_option maxRecDepth 100000 in
theorem ct_X11_order (l : Launch) (E : vE) (a_o a_o_city a_o_ahead a_o_marks a_o_tape a_o_cityReader a_o_weeksReader a_o_trays a_o_planner a_o_ruler a_o_life a_o_latestLife a_o_city_streets a_o_city_names a_o_city_extras a_o_city_happenings a_o_city_watchers a_o_city_weeks a_o_city_extras_cells a_o_city_happenings_cells : Nat) (o_marked : Int32) (o_wasLived : Int32) (o_wasParsed : Int32) (o_faultKind : Int32) (o_faultPlace : Int32) (o_latestStatus : Int32) (o_fractionTop : Int64) (o_fractionBottom : Int64) (o_city_wage : Int32) (o_city_delay : Int32) (o_city_odds : Int32) (o_city_clock : Int32) (o_city_hasWeeks : Int32) (o_city_extras_many : Int32) (o_city_extras_cells : Nat → Int32) (o_city_happenings_many : Int32) (v1 : Int32) (v2 : Int32) (v3 : Int32) (u : Int32 × Int32 × (Nat → Int32)) (hf : X11_order o_latestStatus o_city_extras_many o_city_extras_cells o_city_happenings_many v1 v2 v3 = some u) :
    CtI l yX11_order cX11_order 4 (some .boolean) 2 E [.ref a_o, .int v1, .int v2, .int v3] (wd_X11_order E a_o a_o_city a_o_ahead a_o_marks a_o_tape a_o_cityReader a_o_weeksReader a_o_trays a_o_planner a_o_ruler a_o_life a_o_latestLife a_o_city_streets a_o_city_names a_o_city_extras a_o_city_happenings a_o_city_watchers a_o_city_weeks a_o_city_extras_cells a_o_city_happenings_cells o_marked o_wasLived o_wasParsed o_faultKind o_faultPlace o_latestStatus o_fractionTop o_fractionBottom o_city_wage o_city_delay o_city_odds o_city_clock o_city_hasWeeks o_city_extras_many o_city_extras_cells o_city_happenings_many) (wd_X11_order E a_o a_o_city a_o_ahead a_o_marks a_o_tape a_o_cityReader a_o_weeksReader a_o_trays a_o_planner a_o_ruler a_o_life a_o_latestLife a_o_city_streets a_o_city_names a_o_city_extras a_o_city_happenings a_o_city_watchers a_o_city_weeks a_o_city_extras_cells a_o_city_happenings_cells o_marked o_wasLived o_wasParsed o_faultKind o_faultPlace u.2.1 o_fractionTop o_fractionBottom o_city_wage o_city_delay o_city_odds o_city_clock o_city_hasWeeks o_city_extras_many u.2.2 o_city_happenings_many) u.1 := by
  refine ctI (by decide) (Nat.le_of_ble_eq_true rfl) ?_
  intro p e s m below meth cd A ls aa QQ hq cx hP hD hS hl
  obtain ⟨⟨hx, hb, hml, hown, hts⟩, hr, hlocks, hK, hA, hX⟩ := id cx
  have hl : lv_has ls 4 [(0, .ref a_o), (1, .int v1), (2, .int v2), (3, .int v3)] := hl
  have hj16 : ∀ (o_latestStatus_j16 : Int32) (o_city_extras_cells_j16 : Nat → Int32) (H : Heap) (locs : List Loc) (ls : Array Slot), X11_order_j16 o_latestStatus_j16 o_city_extras_many o_city_extras_cells_j16 o_city_happenings_many = some u → va_P E.1 vwCl (wd_X11_order E a_o a_o_city a_o_ahead a_o_marks a_o_tape a_o_cityReader a_o_weeksReader a_o_trays a_o_planner a_o_ruler a_o_life a_o_latestLife a_o_city_streets a_o_city_names a_o_city_extras a_o_city_happenings a_o_city_watchers a_o_city_weeks a_o_city_extras_cells a_o_city_happenings_cells o_marked o_wasLived o_wasParsed o_faultKind o_faultPlace o_latestStatus_j16 o_fractionTop o_fractionBottom o_city_wage o_city_delay o_city_odds o_city_clock o_city_hasWeeks o_city_extras_many o_city_extras_cells_j16 o_city_happenings_many) H → va_D A (wd_X11_order E a_o a_o_city a_o_ahead a_o_marks a_o_tape a_o_cityReader a_o_weeksReader a_o_trays a_o_planner a_o_ruler a_o_life a_o_latestLife a_o_city_streets a_o_city_names a_o_city_extras a_o_city_happenings a_o_city_watchers a_o_city_weeks a_o_city_extras_cells a_o_city_happenings_cells o_marked o_wasLived o_wasParsed o_faultKind o_faultPlace o_latestStatus_j16 o_fractionTop o_fractionBottom o_city_wage o_city_delay o_city_odds o_city_clock o_city_hasWeeks o_city_extras_many o_city_extras_cells_j16 o_city_happenings_many) → va_S A s.heap H locs → lv_has ls 4 [(0, .ref a_o)] → W p l e (rmd 2) s m aa below meth cd H locs 0 0 QQ (F0 m 16 ls []) := by
    intro o_latestStatus_j16 o_city_extras_cells_j16 H locs ls hf hP hD hS hl
    unfold X11_order_j16 at hf
    refine lv_aload_n hx hb dX11_order_16 rfl (lv_at hl 0 rfl) ?_
    refine lv_iconst (v := 1) hx hb dX11_order_17 (by decide) ?_
    obtain ⟨u18, hu18, hf⟩ := bd hf
    refine callVI (wn := (wd_X11_order E a_o a_o_city a_o_ahead a_o_marks a_o_tape a_o_cityReader a_o_weeksReader a_o_trays a_o_planner a_o_ruler a_o_life a_o_latestLife a_o_city_streets a_o_city_names a_o_city_extras a_o_city_happenings a_o_city_watchers a_o_city_weeks a_o_city_extras_cells a_o_city_happenings_cells o_marked o_wasLived o_wasParsed o_faultKind o_faultPlace u18.2 o_fractionTop o_fractionBottom o_city_wage o_city_delay o_city_odds o_city_clock o_city_hasWeeks o_city_extras_many o_city_extras_cells_j16 o_city_happenings_many)) (n1 := 5) (ct_X11_refused l E a_o a_o_city a_o_ahead a_o_marks a_o_tape a_o_cityReader a_o_weeksReader a_o_trays a_o_planner a_o_ruler a_o_life a_o_latestLife o_marked o_wasLived o_wasParsed o_faultKind o_faultPlace o_latestStatus_j16 o_fractionTop o_fractionBottom (1 : Int32) u18 hu18) [0] cal_X11_refused cav_X11_refused lk_X11_100 cx hP hD hS hl dX11_order_18 rfl rfl rfl rfl (Nat.le_of_ble_eq_true rfl) ⟨Nat.le_of_ble_eq_true rfl, Nat.le_of_ble_eq_true rfl⟩ rfl (by decide +kernel) rfl [some 0, none, none, none, none] rfl (by decide +kernel) rfl (fun H locs hP hD hS => ?_)
    obtain ⟨hz, hf⟩ := ck hf
    obtain rfl := Option.some.inj hf
    subst hq
    exact retZ cx hz hP hD hS dX11_order_21
  unfold X11_order at hf
  refine lv_aload_n hx hb dX11_order_0 rfl (lv_at hl 0 rfl) ?_
  refine lv_iload_n hx hb dX11_order_1 rfl (lv_at hl 1 rfl) ?_
  obtain ⟨u2, hu2, hf⟩ := bd hf
  refine keepVI (ct_X11_isExtra l E a_o a_o_city a_o_ahead a_o_marks a_o_tape a_o_cityReader a_o_weeksReader a_o_trays a_o_planner a_o_ruler a_o_life a_o_latestLife a_o_city_streets a_o_city_names a_o_city_extras a_o_city_happenings a_o_city_watchers a_o_city_weeks a_o_city_extras_cells o_marked o_wasLived o_wasParsed o_faultKind o_faultPlace o_latestStatus o_fractionTop o_fractionBottom o_city_wage o_city_delay o_city_odds o_city_clock o_city_hasWeeks o_city_extras_many v1 u2 hu2) [0, 1, 2] cal_X11_isExtra cav_X11_isExtra lk_X11_241 cx hP hD hS hl dX11_order_2 rfl rfl rfl rfl (Nat.le_of_ble_eq_true rfl) ⟨Nat.le_of_ble_eq_true rfl, Nat.le_of_ble_eq_true rfl⟩ rfl (by decide) (fun H locs hP hS => ?_)
  refine lv_if_eq (tgt := 16) hx hb dX11_order_5 (by decide) (fun hc => ?_) (fun hc => ?_)
  · have hf := it_t hc hf
    exact hj16 _ _ _ _ _ hf hP hD hS (lv_sub hl [0] rfl)
  · have hf := it_f hc hf
    refine lv_aload_n hx hb dX11_order_8 rfl (lv_at hl 0 rfl) ?_
    refine lv_iload_n hx hb dX11_order_9 rfl (lv_at hl 2 rfl) ?_
    obtain ⟨u10, hu10, hf⟩ := bd hf
    refine keepVI (ct_X11_isHappening l E a_o a_o_city a_o_ahead a_o_marks a_o_tape a_o_cityReader a_o_weeksReader a_o_trays a_o_planner a_o_ruler a_o_life a_o_latestLife a_o_city_streets a_o_city_names a_o_city_extras a_o_city_happenings a_o_city_watchers a_o_city_weeks a_o_city_happenings_cells o_marked o_wasLived o_wasParsed o_faultKind o_faultPlace o_latestStatus o_fractionTop o_fractionBottom o_city_wage o_city_delay o_city_odds o_city_clock o_city_hasWeeks o_city_happenings_many v2 u10 hu10) [0, 1, 4] cal_X11_isHappening cav_X11_isHappening lk_X11_249 cx hP hD hS hl dX11_order_10 rfl rfl rfl rfl (Nat.le_of_ble_eq_true rfl) ⟨Nat.le_of_ble_eq_true rfl, Nat.le_of_ble_eq_true rfl⟩ rfl (by decide) (fun H locs hP hS => ?_)
    refine lv_if_ne (tgt := 22) hx hb dX11_order_13 (by decide) (fun hc => ?_) (fun hc => ?_)
    · have hf := it_f hc hf
      refine lv_iload_n hx hb dX11_order_22 rfl (lv_at hl 3 rfl) ?_
      refine lv_aload_n hx hb dX11_order_23 rfl (lv_at hl 0 rfl) ?_
      refine va_get (D := E.1) (ci := 11) (v := .ref a_o_city) (C := RX11) (T := TX11) (N := 19) hx hb hts inX11 hown hK hP 0 rfl rfl 0 (by decide) (hts _ fl_X11_10) (fun _ h9 => h9) rfl dX11_order_24 ?_
      refine lv_iload_n hx hb dX11_order_27 rfl (lv_at hl 1 rfl) ?_
      refine lv_iload_n hx hb dX11_order_28 rfl (lv_at hl 2 rfl) ?_
      obtain ⟨u29, hu29, hf⟩ := bd hf
      refine keepVI (ct_X0_isOrdered l E a_o_city a_o_city_streets a_o_city_names a_o_city_extras a_o_city_happenings a_o_city_watchers a_o_city_weeks a_o_city_extras_cells o_city_wage o_city_delay o_city_odds o_city_clock o_city_hasWeeks o_city_extras_many o_city_extras_cells v1 v2 u29 hu29) [1, 2, 3] cal_X0_isOrdered cav_X0_isOrdered lk_X11_275 cx hP hD hS hl dX11_order_29 rfl rfl rfl rfl (Nat.le_of_ble_eq_true rfl) ⟨Nat.le_of_ble_eq_true rfl, Nat.le_of_ble_eq_true rfl⟩ rfl (by decide) (fun H locs hP hS => ?_)
      refine lv_icmp_ne (tgt := 42) hx hb dX11_order_32 (by decide) (fun hc => ?_) (fun hc => ?_)
      · have hf := it_f hc hf
        refine lv_aload_n hx hb dX11_order_42 rfl (lv_at hl 0 rfl) ?_
        refine va_get (D := E.1) (ci := 11) (v := .ref a_o_city) (C := RX11) (T := TX11) (N := 19) hx hb hts inX11 hown hK hP 0 rfl rfl 0 (by decide) (hts _ fl_X11_10) (fun _ h9 => h9) rfl dX11_order_43 ?_
        refine lv_iload_n hx hb dX11_order_46 rfl (lv_at hl 1 rfl) ?_
        refine lv_iload_n hx hb dX11_order_47 rfl (lv_at hl 2 rfl) ?_
        obtain ⟨u48, hu48, hf⟩ := bd hf
        refine callVV (wn := (wd_X11_order E a_o a_o_city a_o_ahead a_o_marks a_o_tape a_o_cityReader a_o_weeksReader a_o_trays a_o_planner a_o_ruler a_o_life a_o_latestLife a_o_city_streets a_o_city_names a_o_city_extras a_o_city_happenings a_o_city_watchers a_o_city_weeks a_o_city_extras_cells a_o_city_happenings_cells o_marked o_wasLived o_wasParsed o_faultKind o_faultPlace o_latestStatus o_fractionTop o_fractionBottom o_city_wage o_city_delay o_city_odds o_city_clock o_city_hasWeeks o_city_extras_many u48 o_city_happenings_many)) (n1 := 5) (ct_X0_turnOrder l E a_o_city a_o_city_streets a_o_city_names a_o_city_extras a_o_city_happenings a_o_city_watchers a_o_city_weeks a_o_city_extras_cells o_city_wage o_city_delay o_city_odds o_city_clock o_city_hasWeeks o_city_extras_many o_city_extras_cells v1 v2 u48 hu48) [1, 2, 3] cal_X0_turnOrder cav_X0_turnOrder lk_X11_279 cx hP hD hS hl dX11_order_48 rfl rfl rfl rfl (Nat.le_of_ble_eq_true rfl) ⟨Nat.le_of_ble_eq_true rfl, Nat.le_of_ble_eq_true rfl⟩ rfl (by decide +kernel) rfl [none, some 0, some 1, some 2, none] rfl (by decide +kernel) rfl (fun H locs hP hD hS => ?_)
        refine lv_aload_n hx hb dX11_order_51 rfl (lv_at hl 0 rfl) ?_
        obtain ⟨u52, hu52, hf⟩ := bd hf
        refine callVI (wn := (wd_X11_order E a_o a_o_city a_o_ahead a_o_marks a_o_tape a_o_cityReader a_o_weeksReader a_o_trays a_o_planner a_o_ruler a_o_life a_o_latestLife a_o_city_streets a_o_city_names a_o_city_extras a_o_city_happenings a_o_city_watchers a_o_city_weeks a_o_city_extras_cells a_o_city_happenings_cells o_marked o_wasLived o_wasParsed o_faultKind o_faultPlace u52.2 o_fractionTop o_fractionBottom o_city_wage o_city_delay o_city_odds o_city_clock o_city_hasWeeks o_city_extras_many u48 o_city_happenings_many)) (n1 := 5) (ct_X11_accepted l E a_o a_o_city a_o_ahead a_o_marks a_o_tape a_o_cityReader a_o_weeksReader a_o_trays a_o_planner a_o_ruler a_o_life a_o_latestLife o_marked o_wasLived o_wasParsed o_faultKind o_faultPlace o_latestStatus o_fractionTop o_fractionBottom u52 hu52) [0] cal_X11_accepted cav_X11_accepted lk_X11_107 cx hP hD hS hl dX11_order_52 rfl rfl rfl rfl (Nat.le_of_ble_eq_true rfl) ⟨Nat.le_of_ble_eq_true rfl, Nat.le_of_ble_eq_true rfl⟩ rfl (by decide +kernel) rfl [some 0, none, none, none, none] rfl (by decide +kernel) rfl (fun H locs hP hD hS => ?_)
        obtain ⟨hz, hf⟩ := ck hf
        obtain rfl := Option.some.inj hf
        subst hq
        exact retZ cx hz hP hD hS dX11_order_55
      · have hf := it_t hc hf
        refine lv_aload_n hx hb dX11_order_35 rfl (lv_at hl 0 rfl) ?_
        refine lv_bipush (v := 7) hx hb dX11_order_36 (by decide) ?_
        obtain ⟨u38, hu38, hf⟩ := bd hf
        refine callVI (wn := (wd_X11_order E a_o a_o_city a_o_ahead a_o_marks a_o_tape a_o_cityReader a_o_weeksReader a_o_trays a_o_planner a_o_ruler a_o_life a_o_latestLife a_o_city_streets a_o_city_names a_o_city_extras a_o_city_happenings a_o_city_watchers a_o_city_weeks a_o_city_extras_cells a_o_city_happenings_cells o_marked o_wasLived o_wasParsed o_faultKind o_faultPlace u38.2 o_fractionTop o_fractionBottom o_city_wage o_city_delay o_city_odds o_city_clock o_city_hasWeeks o_city_extras_many o_city_extras_cells o_city_happenings_many)) (n1 := 5) (ct_X11_refused l E a_o a_o_city a_o_ahead a_o_marks a_o_tape a_o_cityReader a_o_weeksReader a_o_trays a_o_planner a_o_ruler a_o_life a_o_latestLife o_marked o_wasLived o_wasParsed o_faultKind o_faultPlace o_latestStatus o_fractionTop o_fractionBottom (7 : Int32) u38 hu38) [0] cal_X11_refused cav_X11_refused lk_X11_100 cx hP hD hS hl dX11_order_38 rfl rfl rfl rfl (Nat.le_of_ble_eq_true rfl) ⟨Nat.le_of_ble_eq_true rfl, Nat.le_of_ble_eq_true rfl⟩ rfl (by decide +kernel) rfl [some 0, none, none, none, none] rfl (by decide +kernel) rfl (fun H locs hP hD hS => ?_)
        obtain ⟨hz, hf⟩ := ck hf
        obtain rfl := Option.some.inj hf
        subst hq
        exact retZ cx hz hP hD hS dX11_order_41
    · have hf := it_t hc hf
      exact hj16 _ _ _ _ _ hf hP hD hS (lv_sub hl [0] rfl)
def X11_put_j18 (o_latestStatus : Int32) (o_city_happenings_many : Int32) (o_city_happenings_cells : Nat → Int32) : Option (Int32 × Int32 × (Nat → Int32)) :=
  (X11_none o_latestStatus (1 : Int32)).bind fun u20 =>
  some (u20.1, u20.2, o_city_happenings_cells)
def X11_put (o_latestStatus : Int32) (o_city_happenings_many : Int32) (o_city_happenings_cells : Nat → Int32) (v1 : Int32) (v2 : Int32) : Option (Int32 × Int32 × (Nat → Int32)) :=
  (X11_isHappening o_city_happenings_many v1).bind fun u2 =>
  if u2 = 0 then
  X11_put_j18 o_latestStatus o_city_happenings_many o_city_happenings_cells
  else
  (X11_within v2 (1 : Int32) (99 : Int32)).bind fun u12 =>
  if u12 = 0 then
  X11_put_j18 o_latestStatus o_city_happenings_many o_city_happenings_cells
  else
  (X0_putOff o_city_happenings_many o_city_happenings_cells v1 v2).bind fun u30 =>
  if u30.1 = 0 then
  (X11_none o_latestStatus (7 : Int32)).bind fun u39 =>
  some (u39.1, u39.2, u30.2)
  else
  (X7_get 40 5 o_city_happenings_many u30.2 v1 (1 : Int32)).bind fun u53 =>
  (X11_answer o_latestStatus u53).bind fun u56 =>
  some (u56.1, u56.2, u30.2)
abbrev wd_X11_put (E : vE) (a_o a_o_city a_o_ahead a_o_marks a_o_tape a_o_cityReader a_o_weeksReader a_o_trays a_o_planner a_o_ruler a_o_life a_o_latestLife a_o_city_streets a_o_city_names a_o_city_extras a_o_city_happenings a_o_city_watchers a_o_city_weeks a_o_city_happenings_cells : Nat) (o_marked : Int32) (o_wasLived : Int32) (o_wasParsed : Int32) (o_faultKind : Int32) (o_faultPlace : Int32) (o_latestStatus : Int32) (o_fractionTop : Int64) (o_fractionBottom : Int64) (o_city_wage : Int32) (o_city_delay : Int32) (o_city_odds : Int32) (o_city_clock : Int32) (o_city_hasWeeks : Int32) (o_city_happenings_many : Int32) (o_city_happenings_cells : Nat → Int32) : va_W := [(a_o, .inr (11, [.ref a_o_city, .ref a_o_ahead, .ref a_o_marks, .int o_marked, .ref a_o_tape, .ref a_o_cityReader, .ref a_o_weeksReader, .ref a_o_trays, .ref a_o_planner, .ref a_o_ruler, .ref a_o_life, .ref a_o_latestLife, .int o_wasLived, .int o_wasParsed, .int o_faultKind, .int o_faultPlace, .int o_latestStatus, .long o_fractionTop, .long o_fractionBottom])), (a_o_city, .inr (0, [.int o_city_wage, .int o_city_delay, .int o_city_odds, .int o_city_clock, .int o_city_hasWeeks, .ref a_o_city_streets, .ref a_o_city_names, .ref a_o_city_extras, .ref a_o_city_happenings, .ref a_o_city_watchers, .ref a_o_city_weeks])), (a_o_city_happenings, .inr (7, [.int 5, .ref a_o_city_happenings_cells, .int o_city_happenings_many])), (a_o_city_happenings_cells, .inl (E.2.1, 40, .inl o_city_happenings_cells))]
set_option maxHeartbeats 4000000 in
set_option maxRecDepth 100000 in
theorem ct_X11_put (l : Launch) (E : vE) (a_o a_o_city a_o_ahead a_o_marks a_o_tape a_o_cityReader a_o_weeksReader a_o_trays a_o_planner a_o_ruler a_o_life a_o_latestLife a_o_city_streets a_o_city_names a_o_city_extras a_o_city_happenings a_o_city_watchers a_o_city_weeks a_o_city_happenings_cells : Nat) (o_marked : Int32) (o_wasLived : Int32) (o_wasParsed : Int32) (o_faultKind : Int32) (o_faultPlace : Int32) (o_latestStatus : Int32) (o_fractionTop : Int64) (o_fractionBottom : Int64) (o_city_wage : Int32) (o_city_delay : Int32) (o_city_odds : Int32) (o_city_clock : Int32) (o_city_hasWeeks : Int32) (o_city_happenings_many : Int32) (o_city_happenings_cells : Nat → Int32) (v1 : Int32) (v2 : Int32) (u : Int32 × Int32 × (Nat → Int32)) (hf : X11_put o_latestStatus o_city_happenings_many o_city_happenings_cells v1 v2 = some u) :
    CtI l yX11_put cX11_put 3 (some .int) 3 E [.ref a_o, .int v1, .int v2] (wd_X11_put E a_o a_o_city a_o_ahead a_o_marks a_o_tape a_o_cityReader a_o_weeksReader a_o_trays a_o_planner a_o_ruler a_o_life a_o_latestLife a_o_city_streets a_o_city_names a_o_city_extras a_o_city_happenings a_o_city_watchers a_o_city_weeks a_o_city_happenings_cells o_marked o_wasLived o_wasParsed o_faultKind o_faultPlace o_latestStatus o_fractionTop o_fractionBottom o_city_wage o_city_delay o_city_odds o_city_clock o_city_hasWeeks o_city_happenings_many o_city_happenings_cells) (wd_X11_put E a_o a_o_city a_o_ahead a_o_marks a_o_tape a_o_cityReader a_o_weeksReader a_o_trays a_o_planner a_o_ruler a_o_life a_o_latestLife a_o_city_streets a_o_city_names a_o_city_extras a_o_city_happenings a_o_city_watchers a_o_city_weeks a_o_city_happenings_cells o_marked o_wasLived o_wasParsed o_faultKind o_faultPlace u.2.1 o_fractionTop o_fractionBottom o_city_wage o_city_delay o_city_odds o_city_clock o_city_hasWeeks o_city_happenings_many u.2.2) u.1 := by
  refine ctI (by decide) (Nat.le_of_ble_eq_true rfl) ?_
  intro p e s m below meth cd A ls aa QQ hq cx hP hD hS hl
  obtain ⟨⟨hx, hb, hml, hown, hts⟩, hr, hlocks, hK, hA, hX⟩ := id cx
  have hl : lv_has ls 3 [(0, .ref a_o), (1, .int v1), (2, .int v2)] := hl
  have hj18 : ∀ (o_latestStatus_j18 : Int32) (o_city_happenings_cells_j18 : Nat → Int32) (H : Heap) (locs : List Loc) (ls : Array Slot), X11_put_j18 o_latestStatus_j18 o_city_happenings_many o_city_happenings_cells_j18 = some u → va_P E.1 vwCl (wd_X11_put E a_o a_o_city a_o_ahead a_o_marks a_o_tape a_o_cityReader a_o_weeksReader a_o_trays a_o_planner a_o_ruler a_o_life a_o_latestLife a_o_city_streets a_o_city_names a_o_city_extras a_o_city_happenings a_o_city_watchers a_o_city_weeks a_o_city_happenings_cells o_marked o_wasLived o_wasParsed o_faultKind o_faultPlace o_latestStatus_j18 o_fractionTop o_fractionBottom o_city_wage o_city_delay o_city_odds o_city_clock o_city_hasWeeks o_city_happenings_many o_city_happenings_cells_j18) H → va_D A (wd_X11_put E a_o a_o_city a_o_ahead a_o_marks a_o_tape a_o_cityReader a_o_weeksReader a_o_trays a_o_planner a_o_ruler a_o_life a_o_latestLife a_o_city_streets a_o_city_names a_o_city_extras a_o_city_happenings a_o_city_watchers a_o_city_weeks a_o_city_happenings_cells o_marked o_wasLived o_wasParsed o_faultKind o_faultPlace o_latestStatus_j18 o_fractionTop o_fractionBottom o_city_wage o_city_delay o_city_odds o_city_clock o_city_hasWeeks o_city_happenings_many o_city_happenings_cells_j18) → va_S A s.heap H locs → lv_has ls 3 [(0, .ref a_o)] → W p l e (rmd 3) s m aa below meth cd H locs 0 0 QQ (F0 m 18 ls []) := by
    intro o_latestStatus_j18 o_city_happenings_cells_j18 H locs ls hf hP hD hS hl
    unfold X11_put_j18 at hf
    refine lv_aload_n hx hb dX11_put_18 rfl (lv_at hl 0 rfl) ?_
    refine lv_iconst (v := 1) hx hb dX11_put_19 (by decide) ?_
    obtain ⟨u20, hu20, hf⟩ := bd hf
    refine callVI (wn := (wd_X11_put E a_o a_o_city a_o_ahead a_o_marks a_o_tape a_o_cityReader a_o_weeksReader a_o_trays a_o_planner a_o_ruler a_o_life a_o_latestLife a_o_city_streets a_o_city_names a_o_city_extras a_o_city_happenings a_o_city_watchers a_o_city_weeks a_o_city_happenings_cells o_marked o_wasLived o_wasParsed o_faultKind o_faultPlace u20.2 o_fractionTop o_fractionBottom o_city_wage o_city_delay o_city_odds o_city_clock o_city_hasWeeks o_city_happenings_many o_city_happenings_cells_j18)) (n1 := 4) (ct_X11_none l E a_o a_o_city a_o_ahead a_o_marks a_o_tape a_o_cityReader a_o_weeksReader a_o_trays a_o_planner a_o_ruler a_o_life a_o_latestLife o_marked o_wasLived o_wasParsed o_faultKind o_faultPlace o_latestStatus_j18 o_fractionTop o_fractionBottom (1 : Int32) u20 hu20) [0] cal_X11_none cav_X11_none lk_X11_119 cx hP hD hS hl dX11_put_20 rfl rfl rfl rfl (Nat.le_of_ble_eq_true rfl) ⟨Nat.le_of_ble_eq_true rfl, Nat.le_of_ble_eq_true rfl⟩ rfl (by decide +kernel) rfl [some 0, none, none, none] rfl (by decide +kernel) rfl (fun H locs hP hD hS => ?_)
    obtain rfl := Option.some.inj hf
    subst hq
    exact retI cx hP hD hS dX11_put_23
  unfold X11_put at hf
  refine lv_aload_n hx hb dX11_put_0 rfl (lv_at hl 0 rfl) ?_
  refine lv_iload_n hx hb dX11_put_1 rfl (lv_at hl 1 rfl) ?_
  obtain ⟨u2, hu2, hf⟩ := bd hf
  refine keepVI (ct_X11_isHappening l E a_o a_o_city a_o_ahead a_o_marks a_o_tape a_o_cityReader a_o_weeksReader a_o_trays a_o_planner a_o_ruler a_o_life a_o_latestLife a_o_city_streets a_o_city_names a_o_city_extras a_o_city_happenings a_o_city_watchers a_o_city_weeks a_o_city_happenings_cells o_marked o_wasLived o_wasParsed o_faultKind o_faultPlace o_latestStatus o_fractionTop o_fractionBottom o_city_wage o_city_delay o_city_odds o_city_clock o_city_hasWeeks o_city_happenings_many v1 u2 hu2) [0, 1, 2] cal_X11_isHappening cav_X11_isHappening lk_X11_249 cx hP hD hS hl dX11_put_2 rfl rfl rfl rfl (Nat.le_of_ble_eq_true rfl) ⟨Nat.le_of_ble_eq_true rfl, Nat.le_of_ble_eq_true rfl⟩ rfl (by decide) (fun H locs hP hS => ?_)
  refine lv_if_eq (tgt := 18) hx hb dX11_put_5 (by decide) (fun hc => ?_) (fun hc => ?_)
  · have hf := it_t hc hf
    exact hj18 _ _ _ _ _ hf hP hD hS (lv_sub hl [0] rfl)
  · have hf := it_f hc hf
    refine lv_iload_n hx hb dX11_put_8 rfl (lv_at hl 2 rfl) ?_
    refine lv_iconst (v := 1) hx hb dX11_put_9 (by decide) ?_
    refine lv_bipush (v := 99) hx hb dX11_put_10 (by decide) ?_
    obtain ⟨u12, hu12, hf⟩ := bd hf
    refine keepSI (ct_X11_within l E v2 (1 : Int32) (99 : Int32) u12 hu12) [] cal_X11_within sta_X11_within lk_X11_96 cx hP hD hS hl dX11_put_12 rfl rfl (Nat.le_of_ble_eq_true rfl) ⟨Nat.le_of_ble_eq_true rfl, Nat.le_of_ble_eq_true rfl⟩ rfl (by decide) (fun H locs hP hS => ?_)
    refine lv_if_ne (tgt := 24) hx hb dX11_put_15 (by decide) (fun hc => ?_) (fun hc => ?_)
    · have hf := it_f hc hf
      refine lv_aload_n hx hb dX11_put_24 rfl (lv_at hl 0 rfl) ?_
      refine va_get (D := E.1) (ci := 11) (v := .ref a_o_city) (C := RX11) (T := TX11) (N := 19) hx hb hts inX11 hown hK hP 0 rfl rfl 0 (by decide) (hts _ fl_X11_10) (fun _ h9 => h9) rfl dX11_put_25 ?_
      refine lv_iload_n hx hb dX11_put_28 rfl (lv_at hl 1 rfl) ?_
      refine lv_iload_n hx hb dX11_put_29 rfl (lv_at hl 2 rfl) ?_
      obtain ⟨u30, hu30, hf⟩ := bd hf
      refine callVI (wn := (wd_X11_put E a_o a_o_city a_o_ahead a_o_marks a_o_tape a_o_cityReader a_o_weeksReader a_o_trays a_o_planner a_o_ruler a_o_life a_o_latestLife a_o_city_streets a_o_city_names a_o_city_extras a_o_city_happenings a_o_city_watchers a_o_city_weeks a_o_city_happenings_cells o_marked o_wasLived o_wasParsed o_faultKind o_faultPlace o_latestStatus o_fractionTop o_fractionBottom o_city_wage o_city_delay o_city_odds o_city_clock o_city_hasWeeks o_city_happenings_many u30.2)) (n1 := 4) (ct_X0_putOff l E a_o_city a_o_city_streets a_o_city_names a_o_city_extras a_o_city_happenings a_o_city_watchers a_o_city_weeks a_o_city_happenings_cells o_city_wage o_city_delay o_city_odds o_city_clock o_city_hasWeeks o_city_happenings_many o_city_happenings_cells v1 v2 u30 hu30) [1, 2, 3] cal_X0_putOff cav_X0_putOff lk_X11_283 cx hP hD hS hl dX11_put_30 rfl rfl rfl rfl (Nat.le_of_ble_eq_true rfl) ⟨Nat.le_of_ble_eq_true rfl, Nat.le_of_ble_eq_true rfl⟩ rfl (by decide +kernel) rfl [none, some 0, some 1, some 2] rfl (by decide +kernel) rfl (fun H locs hP hD hS => ?_)
      refine lv_if_ne (tgt := 43) hx hb dX11_put_33 (by decide) (fun hc => ?_) (fun hc => ?_)
      · have hf := it_f hc hf
        refine lv_aload_n hx hb dX11_put_43 rfl (lv_at hl 0 rfl) ?_
        refine lv_aload_n hx hb dX11_put_44 rfl (lv_at hl 0 rfl) ?_
        refine va_get (D := E.1) (ci := 11) (v := .ref a_o_city) (C := RX11) (T := TX11) (N := 19) hx hb hts inX11 hown hK hP 0 rfl rfl 0 (by decide) (hts _ fl_X11_10) (fun _ h9 => h9) rfl dX11_put_45 ?_
        refine va_get (D := E.1) (ci := 0) (v := .ref a_o_city_happenings) (C := RX0) (T := TX0) (N := 11) hx hb hts inX0 hown hK hP 1 rfl rfl 8 (by decide) (hts _ fl_X11_213) (fun _ h9 => h9) rfl dX11_put_48 ?_
        refine lv_iload_n hx hb dX11_put_51 rfl (lv_at hl 1 rfl) ?_
        refine lv_iconst (v := 1) hx hb dX11_put_52 (by decide) ?_
        obtain ⟨u53, hu53, hf⟩ := bd hf
        refine keepVI (ct_X7_get l E a_o_city_happenings a_o_city_happenings_cells 40 5 o_city_happenings_many u30.2 v1 (1 : Int32) u53 hu53) [2, 3] cal_X7_get cav_X7_get lk_X11_247 cx hP hD hS hl dX11_put_53 rfl rfl rfl rfl (Nat.le_of_ble_eq_true rfl) ⟨Nat.le_of_ble_eq_true rfl, Nat.le_of_ble_eq_true rfl⟩ rfl (by decide) (fun H locs hP hS => ?_)
        obtain ⟨u56, hu56, hf⟩ := bd hf
        refine callVI (wn := (wd_X11_put E a_o a_o_city a_o_ahead a_o_marks a_o_tape a_o_cityReader a_o_weeksReader a_o_trays a_o_planner a_o_ruler a_o_life a_o_latestLife a_o_city_streets a_o_city_names a_o_city_extras a_o_city_happenings a_o_city_watchers a_o_city_weeks a_o_city_happenings_cells o_marked o_wasLived o_wasParsed o_faultKind o_faultPlace u56.2 o_fractionTop o_fractionBottom o_city_wage o_city_delay o_city_odds o_city_clock o_city_hasWeeks o_city_happenings_many u30.2)) (n1 := 4) (ct_X11_answer l E a_o a_o_city a_o_ahead a_o_marks a_o_tape a_o_cityReader a_o_weeksReader a_o_trays a_o_planner a_o_ruler a_o_life a_o_latestLife o_marked o_wasLived o_wasParsed o_faultKind o_faultPlace o_latestStatus o_fractionTop o_fractionBottom u53 u56 hu56) [0] cal_X11_answer cav_X11_answer lk_X11_172 cx hP hD hS hl dX11_put_56 rfl rfl rfl rfl (Nat.le_of_ble_eq_true rfl) ⟨Nat.le_of_ble_eq_true rfl, Nat.le_of_ble_eq_true rfl⟩ rfl (by decide +kernel) rfl [some 0, none, none, none] rfl (by decide +kernel) rfl (fun H locs hP hD hS => ?_)
        obtain rfl := Option.some.inj hf
        subst hq
        exact retI cx hP hD hS dX11_put_59
      · have hf := it_t hc hf
        refine lv_aload_n hx hb dX11_put_36 rfl (lv_at hl 0 rfl) ?_
        refine lv_bipush (v := 7) hx hb dX11_put_37 (by decide) ?_
        obtain ⟨u39, hu39, hf⟩ := bd hf
        refine callVI (wn := (wd_X11_put E a_o a_o_city a_o_ahead a_o_marks a_o_tape a_o_cityReader a_o_weeksReader a_o_trays a_o_planner a_o_ruler a_o_life a_o_latestLife a_o_city_streets a_o_city_names a_o_city_extras a_o_city_happenings a_o_city_watchers a_o_city_weeks a_o_city_happenings_cells o_marked o_wasLived o_wasParsed o_faultKind o_faultPlace u39.2 o_fractionTop o_fractionBottom o_city_wage o_city_delay o_city_odds o_city_clock o_city_hasWeeks o_city_happenings_many u30.2)) (n1 := 4) (ct_X11_none l E a_o a_o_city a_o_ahead a_o_marks a_o_tape a_o_cityReader a_o_weeksReader a_o_trays a_o_planner a_o_ruler a_o_life a_o_latestLife o_marked o_wasLived o_wasParsed o_faultKind o_faultPlace o_latestStatus o_fractionTop o_fractionBottom (7 : Int32) u39 hu39) [0] cal_X11_none cav_X11_none lk_X11_119 cx hP hD hS hl dX11_put_39 rfl rfl rfl rfl (Nat.le_of_ble_eq_true rfl) ⟨Nat.le_of_ble_eq_true rfl, Nat.le_of_ble_eq_true rfl⟩ rfl (by decide +kernel) rfl [some 0, none, none, none] rfl (by decide +kernel) rfl (fun H locs hP hD hS => ?_)
        obtain rfl := Option.some.inj hf
        subst hq
        exact retI cx hP hD hS dX11_put_42
    · have hf := it_t hc hf
      exact hj18 _ _ _ _ _ hf hP hD hS (lv_sub hl [0] rfl)
def X11_raise_j17 (o_latestStatus : Int32) (o_city_happenings_many : Int32) (o_city_happenings_cells : Nat → Int32) : Option (Int32 × Int32 × (Nat → Int32)) :=
  (X11_refused o_latestStatus (1 : Int32)).bind fun u19 =>
  if isZ u19.1 then some (u19.1, u19.2, o_city_happenings_cells) else none
def X11_raise (o_latestStatus : Int32) (o_city_happenings_many : Int32) (o_city_happenings_cells : Nat → Int32) (v1 : Int32) (v2 : Int32) : Option (Int32 × Int32 × (Nat → Int32)) :=
  (X11_isHappening o_city_happenings_many v1).bind fun u2 =>
  if u2 = 0 then
  X11_raise_j17 o_latestStatus o_city_happenings_many o_city_happenings_cells
  else
  (X11_within v2 (1 : Int32) (4 : Int32)).bind fun u11 =>
  if u11 = 0 then
  X11_raise_j17 o_latestStatus o_city_happenings_many o_city_happenings_cells
  else
  (X0_isToCome o_city_happenings_many o_city_happenings_cells v1).bind fun u28 =>
  if u28 = 0 then
  (X11_refused o_latestStatus (7 : Int32)).bind fun u37 =>
  if isZ u37.1 then some (u37.1, u37.2, o_city_happenings_cells) else none
  else
  (X7_set 40 5 o_city_happenings_many o_city_happenings_cells v1 (2 : Int32) v2).bind fun u51 =>
  (X11_accepted o_latestStatus).bind fun u55 =>
  if isZ u55.1 then some (u55.1, u55.2, u51) else none
abbrev wd_X11_raise (E : vE) (a_o a_o_city a_o_ahead a_o_marks a_o_tape a_o_cityReader a_o_weeksReader a_o_trays a_o_planner a_o_ruler a_o_life a_o_latestLife a_o_city_streets a_o_city_names a_o_city_extras a_o_city_happenings a_o_city_watchers a_o_city_weeks a_o_city_happenings_cells : Nat) (o_marked : Int32) (o_wasLived : Int32) (o_wasParsed : Int32) (o_faultKind : Int32) (o_faultPlace : Int32) (o_latestStatus : Int32) (o_fractionTop : Int64) (o_fractionBottom : Int64) (o_city_wage : Int32) (o_city_delay : Int32) (o_city_odds : Int32) (o_city_clock : Int32) (o_city_hasWeeks : Int32) (o_city_happenings_many : Int32) (o_city_happenings_cells : Nat → Int32) : va_W := [(a_o, .inr (11, [.ref a_o_city, .ref a_o_ahead, .ref a_o_marks, .int o_marked, .ref a_o_tape, .ref a_o_cityReader, .ref a_o_weeksReader, .ref a_o_trays, .ref a_o_planner, .ref a_o_ruler, .ref a_o_life, .ref a_o_latestLife, .int o_wasLived, .int o_wasParsed, .int o_faultKind, .int o_faultPlace, .int o_latestStatus, .long o_fractionTop, .long o_fractionBottom])), (a_o_city, .inr (0, [.int o_city_wage, .int o_city_delay, .int o_city_odds, .int o_city_clock, .int o_city_hasWeeks, .ref a_o_city_streets, .ref a_o_city_names, .ref a_o_city_extras, .ref a_o_city_happenings, .ref a_o_city_watchers, .ref a_o_city_weeks])), (a_o_city_happenings, .inr (7, [.int 5, .ref a_o_city_happenings_cells, .int o_city_happenings_many])), (a_o_city_happenings_cells, .inl (E.2.1, 40, .inl o_city_happenings_cells))]
set_option maxHeartbeats 4000000 in
set_option maxRecDepth 100000 in
theorem ct_X11_raise (l : Launch) (E : vE) (a_o a_o_city a_o_ahead a_o_marks a_o_tape a_o_cityReader a_o_weeksReader a_o_trays a_o_planner a_o_ruler a_o_life a_o_latestLife a_o_city_streets a_o_city_names a_o_city_extras a_o_city_happenings a_o_city_watchers a_o_city_weeks a_o_city_happenings_cells : Nat) (o_marked : Int32) (o_wasLived : Int32) (o_wasParsed : Int32) (o_faultKind : Int32) (o_faultPlace : Int32) (o_latestStatus : Int32) (o_fractionTop : Int64) (o_fractionBottom : Int64) (o_city_wage : Int32) (o_city_delay : Int32) (o_city_odds : Int32) (o_city_clock : Int32) (o_city_hasWeeks : Int32) (o_city_happenings_many : Int32) (o_city_happenings_cells : Nat → Int32) (v1 : Int32) (v2 : Int32) (u : Int32 × Int32 × (Nat → Int32)) (hf : X11_raise o_latestStatus o_city_happenings_many o_city_happenings_cells v1 v2 = some u) :
    CtI l yX11_raise cX11_raise 3 (some .boolean) 2 E [.ref a_o, .int v1, .int v2] (wd_X11_raise E a_o a_o_city a_o_ahead a_o_marks a_o_tape a_o_cityReader a_o_weeksReader a_o_trays a_o_planner a_o_ruler a_o_life a_o_latestLife a_o_city_streets a_o_city_names a_o_city_extras a_o_city_happenings a_o_city_watchers a_o_city_weeks a_o_city_happenings_cells o_marked o_wasLived o_wasParsed o_faultKind o_faultPlace o_latestStatus o_fractionTop o_fractionBottom o_city_wage o_city_delay o_city_odds o_city_clock o_city_hasWeeks o_city_happenings_many o_city_happenings_cells) (wd_X11_raise E a_o a_o_city a_o_ahead a_o_marks a_o_tape a_o_cityReader a_o_weeksReader a_o_trays a_o_planner a_o_ruler a_o_life a_o_latestLife a_o_city_streets a_o_city_names a_o_city_extras a_o_city_happenings a_o_city_watchers a_o_city_weeks a_o_city_happenings_cells o_marked o_wasLived o_wasParsed o_faultKind o_faultPlace u.2.1 o_fractionTop o_fractionBottom o_city_wage o_city_delay o_city_odds o_city_clock o_city_hasWeeks o_city_happenings_many u.2.2) u.1 := by
  refine ctI (by decide) (Nat.le_of_ble_eq_true rfl) ?_
  intro p e s m below meth cd A ls aa QQ hq cx hP hD hS hl
  obtain ⟨⟨hx, hb, hml, hown, hts⟩, hr, hlocks, hK, hA, hX⟩ := id cx
  have hl : lv_has ls 3 [(0, .ref a_o), (1, .int v1), (2, .int v2)] := hl
  have hj17 : ∀ (o_latestStatus_j17 : Int32) (o_city_happenings_cells_j17 : Nat → Int32) (H : Heap) (locs : List Loc) (ls : Array Slot), X11_raise_j17 o_latestStatus_j17 o_city_happenings_many o_city_happenings_cells_j17 = some u → va_P E.1 vwCl (wd_X11_raise E a_o a_o_city a_o_ahead a_o_marks a_o_tape a_o_cityReader a_o_weeksReader a_o_trays a_o_planner a_o_ruler a_o_life a_o_latestLife a_o_city_streets a_o_city_names a_o_city_extras a_o_city_happenings a_o_city_watchers a_o_city_weeks a_o_city_happenings_cells o_marked o_wasLived o_wasParsed o_faultKind o_faultPlace o_latestStatus_j17 o_fractionTop o_fractionBottom o_city_wage o_city_delay o_city_odds o_city_clock o_city_hasWeeks o_city_happenings_many o_city_happenings_cells_j17) H → va_D A (wd_X11_raise E a_o a_o_city a_o_ahead a_o_marks a_o_tape a_o_cityReader a_o_weeksReader a_o_trays a_o_planner a_o_ruler a_o_life a_o_latestLife a_o_city_streets a_o_city_names a_o_city_extras a_o_city_happenings a_o_city_watchers a_o_city_weeks a_o_city_happenings_cells o_marked o_wasLived o_wasParsed o_faultKind o_faultPlace o_latestStatus_j17 o_fractionTop o_fractionBottom o_city_wage o_city_delay o_city_odds o_city_clock o_city_hasWeeks o_city_happenings_many o_city_happenings_cells_j17) → va_S A s.heap H locs → lv_has ls 3 [(0, .ref a_o)] → W p l e (rmd 2) s m aa below meth cd H locs 0 0 QQ (F0 m 17 ls []) := by
    intro o_latestStatus_j17 o_city_happenings_cells_j17 H locs ls hf hP hD hS hl
    unfold X11_raise_j17 at hf
    refine lv_aload_n hx hb dX11_raise_17 rfl (lv_at hl 0 rfl) ?_
    refine lv_iconst (v := 1) hx hb dX11_raise_18 (by decide) ?_
    obtain ⟨u19, hu19, hf⟩ := bd hf
    refine callVI (wn := (wd_X11_raise E a_o a_o_city a_o_ahead a_o_marks a_o_tape a_o_cityReader a_o_weeksReader a_o_trays a_o_planner a_o_ruler a_o_life a_o_latestLife a_o_city_streets a_o_city_names a_o_city_extras a_o_city_happenings a_o_city_watchers a_o_city_weeks a_o_city_happenings_cells o_marked o_wasLived o_wasParsed o_faultKind o_faultPlace u19.2 o_fractionTop o_fractionBottom o_city_wage o_city_delay o_city_odds o_city_clock o_city_hasWeeks o_city_happenings_many o_city_happenings_cells_j17)) (n1 := 4) (ct_X11_refused l E a_o a_o_city a_o_ahead a_o_marks a_o_tape a_o_cityReader a_o_weeksReader a_o_trays a_o_planner a_o_ruler a_o_life a_o_latestLife o_marked o_wasLived o_wasParsed o_faultKind o_faultPlace o_latestStatus_j17 o_fractionTop o_fractionBottom (1 : Int32) u19 hu19) [0] cal_X11_refused cav_X11_refused lk_X11_100 cx hP hD hS hl dX11_raise_19 rfl rfl rfl rfl (Nat.le_of_ble_eq_true rfl) ⟨Nat.le_of_ble_eq_true rfl, Nat.le_of_ble_eq_true rfl⟩ rfl (by decide +kernel) rfl [some 0, none, none, none] rfl (by decide +kernel) rfl (fun H locs hP hD hS => ?_)
    obtain ⟨hz, hf⟩ := ck hf
    obtain rfl := Option.some.inj hf
    subst hq
    exact retZ cx hz hP hD hS dX11_raise_22
  unfold X11_raise at hf
  refine lv_aload_n hx hb dX11_raise_0 rfl (lv_at hl 0 rfl) ?_
  refine lv_iload_n hx hb dX11_raise_1 rfl (lv_at hl 1 rfl) ?_
  obtain ⟨u2, hu2, hf⟩ := bd hf
  refine keepVI (ct_X11_isHappening l E a_o a_o_city a_o_ahead a_o_marks a_o_tape a_o_cityReader a_o_weeksReader a_o_trays a_o_planner a_o_ruler a_o_life a_o_latestLife a_o_city_streets a_o_city_names a_o_city_extras a_o_city_happenings a_o_city_watchers a_o_city_weeks a_o_city_happenings_cells o_marked o_wasLived o_wasParsed o_faultKind o_faultPlace o_latestStatus o_fractionTop o_fractionBottom o_city_wage o_city_delay o_city_odds o_city_clock o_city_hasWeeks o_city_happenings_many v1 u2 hu2) [0, 1, 2] cal_X11_isHappening cav_X11_isHappening lk_X11_249 cx hP hD hS hl dX11_raise_2 rfl rfl rfl rfl (Nat.le_of_ble_eq_true rfl) ⟨Nat.le_of_ble_eq_true rfl, Nat.le_of_ble_eq_true rfl⟩ rfl (by decide) (fun H locs hP hS => ?_)
  refine lv_if_eq (tgt := 17) hx hb dX11_raise_5 (by decide) (fun hc => ?_) (fun hc => ?_)
  · have hf := it_t hc hf
    exact hj17 _ _ _ _ _ hf hP hD hS (lv_sub hl [0] rfl)
  · have hf := it_f hc hf
    refine lv_iload_n hx hb dX11_raise_8 rfl (lv_at hl 2 rfl) ?_
    refine lv_iconst (v := 1) hx hb dX11_raise_9 (by decide) ?_
    refine lv_iconst (v := 4) hx hb dX11_raise_10 (by decide) ?_
    obtain ⟨u11, hu11, hf⟩ := bd hf
    refine keepSI (ct_X11_within l E v2 (1 : Int32) (4 : Int32) u11 hu11) [] cal_X11_within sta_X11_within lk_X11_96 cx hP hD hS hl dX11_raise_11 rfl rfl (Nat.le_of_ble_eq_true rfl) ⟨Nat.le_of_ble_eq_true rfl, Nat.le_of_ble_eq_true rfl⟩ rfl (by decide) (fun H locs hP hS => ?_)
    refine lv_if_ne (tgt := 23) hx hb dX11_raise_14 (by decide) (fun hc => ?_) (fun hc => ?_)
    · have hf := it_f hc hf
      refine lv_aload_n hx hb dX11_raise_23 rfl (lv_at hl 0 rfl) ?_
      refine va_get (D := E.1) (ci := 11) (v := .ref a_o_city) (C := RX11) (T := TX11) (N := 19) hx hb hts inX11 hown hK hP 0 rfl rfl 0 (by decide) (hts _ fl_X11_10) (fun _ h9 => h9) rfl dX11_raise_24 ?_
      refine lv_iload_n hx hb dX11_raise_27 rfl (lv_at hl 1 rfl) ?_
      obtain ⟨u28, hu28, hf⟩ := bd hf
      refine keepVI (ct_X0_isToCome l E a_o_city a_o_city_streets a_o_city_names a_o_city_extras a_o_city_happenings a_o_city_watchers a_o_city_weeks a_o_city_happenings_cells o_city_wage o_city_delay o_city_odds o_city_clock o_city_hasWeeks o_city_happenings_many o_city_happenings_cells v1 u28 hu28) [1, 2, 3] cal_X0_isToCome cav_X0_isToCome lk_X11_286 cx hP hD hS hl dX11_raise_28 rfl rfl rfl rfl (Nat.le_of_ble_eq_true rfl) ⟨Nat.le_of_ble_eq_true rfl, Nat.le_of_ble_eq_true rfl⟩ rfl (by decide) (fun H locs hP hS => ?_)
      refine lv_if_ne (tgt := 41) hx hb dX11_raise_31 (by decide) (fun hc => ?_) (fun hc => ?_)
      · have hf := it_f hc hf
        refine lv_aload_n hx hb dX11_raise_41 rfl (lv_at hl 0 rfl) ?_
        refine va_get (D := E.1) (ci := 11) (v := .ref a_o_city) (C := RX11) (T := TX11) (N := 19) hx hb hts inX11 hown hK hP 0 rfl rfl 0 (by decide) (hts _ fl_X11_10) (fun _ h9 => h9) rfl dX11_raise_42 ?_
        refine va_get (D := E.1) (ci := 0) (v := .ref a_o_city_happenings) (C := RX0) (T := TX0) (N := 11) hx hb hts inX0 hown hK hP 1 rfl rfl 8 (by decide) (hts _ fl_X11_213) (fun _ h9 => h9) rfl dX11_raise_45 ?_
        refine lv_iload_n hx hb dX11_raise_48 rfl (lv_at hl 1 rfl) ?_
        refine lv_iconst (v := 2) hx hb dX11_raise_49 (by decide) ?_
        refine lv_iload_n hx hb dX11_raise_50 rfl (lv_at hl 2 rfl) ?_
        obtain ⟨u51, hu51, hf⟩ := bd hf
        refine callVV (wn := (wd_X11_raise E a_o a_o_city a_o_ahead a_o_marks a_o_tape a_o_cityReader a_o_weeksReader a_o_trays a_o_planner a_o_ruler a_o_life a_o_latestLife a_o_city_streets a_o_city_names a_o_city_extras a_o_city_happenings a_o_city_watchers a_o_city_weeks a_o_city_happenings_cells o_marked o_wasLived o_wasParsed o_faultKind o_faultPlace o_latestStatus o_fractionTop o_fractionBottom o_city_wage o_city_delay o_city_odds o_city_clock o_city_hasWeeks o_city_happenings_many u51)) (n1 := 4) (ct_X7_set l E a_o_city_happenings a_o_city_happenings_cells 40 5 o_city_happenings_many o_city_happenings_cells v1 (2 : Int32) v2 u51 hu51) [2, 3] cal_X7_set cav_X7_set lk_X11_289 cx hP hD hS hl dX11_raise_51 rfl rfl rfl rfl (Nat.le_of_ble_eq_true rfl) ⟨Nat.le_of_ble_eq_true rfl, Nat.le_of_ble_eq_true rfl⟩ rfl (by decide +kernel) rfl [none, none, some 0, some 1] rfl (by decide +kernel) rfl (fun H locs hP hD hS => ?_)
        refine lv_aload_n hx hb dX11_raise_54 rfl (lv_at hl 0 rfl) ?_
        obtain ⟨u55, hu55, hf⟩ := bd hf
        refine callVI (wn := (wd_X11_raise E a_o a_o_city a_o_ahead a_o_marks a_o_tape a_o_cityReader a_o_weeksReader a_o_trays a_o_planner a_o_ruler a_o_life a_o_latestLife a_o_city_streets a_o_city_names a_o_city_extras a_o_city_happenings a_o_city_watchers a_o_city_weeks a_o_city_happenings_cells o_marked o_wasLived o_wasParsed o_faultKind o_faultPlace u55.2 o_fractionTop o_fractionBottom o_city_wage o_city_delay o_city_odds o_city_clock o_city_hasWeeks o_city_happenings_many u51)) (n1 := 4) (ct_X11_accepted l E a_o a_o_city a_o_ahead a_o_marks a_o_tape a_o_cityReader a_o_weeksReader a_o_trays a_o_planner a_o_ruler a_o_life a_o_latestLife o_marked o_wasLived o_wasParsed o_faultKind o_faultPlace o_latestStatus o_fractionTop o_fractionBottom u55 hu55) [0] cal_X11_accepted cav_X11_accepted lk_X11_107 cx hP hD hS hl dX11_raise_55 rfl rfl rfl rfl (Nat.le_of_ble_eq_true rfl) ⟨Nat.le_of_ble_eq_true rfl, Nat.le_of_ble_eq_true rfl⟩ rfl (by decide +kernel) rfl [some 0, none, none, none] rfl (by decide +kernel) rfl (fun H locs hP hD hS => ?_)
        obtain ⟨hz, hf⟩ := ck hf
        obtain rfl := Option.some.inj hf
        subst hq
        exact retZ cx hz hP hD hS dX11_raise_58
      · have hf := it_t hc hf
        refine lv_aload_n hx hb dX11_raise_34 rfl (lv_at hl 0 rfl) ?_
        refine lv_bipush (v := 7) hx hb dX11_raise_35 (by decide) ?_
        obtain ⟨u37, hu37, hf⟩ := bd hf
        refine callVI (wn := (wd_X11_raise E a_o a_o_city a_o_ahead a_o_marks a_o_tape a_o_cityReader a_o_weeksReader a_o_trays a_o_planner a_o_ruler a_o_life a_o_latestLife a_o_city_streets a_o_city_names a_o_city_extras a_o_city_happenings a_o_city_watchers a_o_city_weeks a_o_city_happenings_cells o_marked o_wasLived o_wasParsed o_faultKind o_faultPlace u37.2 o_fractionTop o_fractionBottom o_city_wage o_city_delay o_city_odds o_city_clock o_city_hasWeeks o_city_happenings_many o_city_happenings_cells)) (n1 := 4) (ct_X11_refused l E a_o a_o_city a_o_ahead a_o_marks a_o_tape a_o_cityReader a_o_weeksReader a_o_trays a_o_planner a_o_ruler a_o_life a_o_latestLife o_marked o_wasLived o_wasParsed o_faultKind o_faultPlace o_latestStatus o_fractionTop o_fractionBottom (7 : Int32) u37 hu37) [0] cal_X11_refused cav_X11_refused lk_X11_100 cx hP hD hS hl dX11_raise_37 rfl rfl rfl rfl (Nat.le_of_ble_eq_true rfl) ⟨Nat.le_of_ble_eq_true rfl, Nat.le_of_ble_eq_true rfl⟩ rfl (by decide +kernel) rfl [some 0, none, none, none] rfl (by decide +kernel) rfl (fun H locs hP hD hS => ?_)
        obtain ⟨hz, hf⟩ := ck hf
        obtain rfl := Option.some.inj hf
        subst hq
        exact retZ cx hz hP hD hS dX11_raise_40
    · have hf := it_t hc hf
      exact hj17 _ _ _ _ _ hf hP hD hS (lv_sub hl [0] rfl)
def X11_plan_j28 (F : Nat) (o_latestStatus : Int32) (o_city_streets_corners : Int32) (o_city_happenings_many : Int32) (o_city_happenings_cells : Nat → Int32) : Option (Int32 × Int32 × Int32 × (Nat → Int32)) :=
  (X11_none o_latestStatus (1 : Int32)).bind fun u30 =>
  some (u30.1, u30.2, o_city_happenings_many, o_city_happenings_cells)
def X11_plan (F : Nat) (o_latestStatus : Int32) (o_city_streets_corners : Int32) (o_city_happenings_many : Int32) (o_city_happenings_cells : Nat → Int32) (v1 : Int32) (v2 : Int32) (v3 : Int32) : Option (Int32 × Int32 × Int32 × (Nat → Int32)) :=
  (X11_isCorner o_city_streets_corners v1).bind fun u2 =>
  if u2 = 0 then
  X11_plan_j28 F o_latestStatus o_city_streets_corners o_city_happenings_many o_city_happenings_cells
  else
  (X11_within v2 (0 : Int32) (999 : Int32)).bind fun u13 =>
  if u13 = 0 then
  X11_plan_j28 F o_latestStatus o_city_streets_corners o_city_happenings_many o_city_happenings_cells
  else
  (X11_within v3 (1 : Int32) (4 : Int32)).bind fun u22 =>
  if u22 = 0 then
  X11_plan_j28 F o_latestStatus o_city_streets_corners o_city_happenings_many o_city_happenings_cells
  else
  (X7_isFull 40 5 o_city_happenings_many).bind fun u41 =>
  if u41 = 0 then
  (X0_addHappening F o_city_happenings_many o_city_happenings_cells v1 v2 v3).bind fun u61 =>
  (X11_answer o_latestStatus u61.1).bind fun u64 =>
  some (u64.1, u64.2, u61.2.1, u61.2.2)
  else
  (X11_none o_latestStatus (4 : Int32)).bind fun u49 =>
  some (u49.1, u49.2, o_city_happenings_many, o_city_happenings_cells)
abbrev wd_X11_plan (E : vE) (a_o a_o_city a_o_ahead a_o_marks a_o_tape a_o_cityReader a_o_weeksReader a_o_trays a_o_planner a_o_ruler a_o_life a_o_latestLife a_o_city_streets a_o_city_names a_o_city_extras a_o_city_happenings a_o_city_watchers a_o_city_weeks a_o_city_streets_roads a_o_city_streets_takes a_o_city_streets_hours a_o_city_happenings_cells : Nat) (o_marked : Int32) (o_wasLived : Int32) (o_wasParsed : Int32) (o_faultKind : Int32) (o_faultPlace : Int32) (o_latestStatus : Int32) (o_fractionTop : Int64) (o_fractionBottom : Int64) (o_city_wage : Int32) (o_city_delay : Int32) (o_city_odds : Int32) (o_city_clock : Int32) (o_city_hasWeeks : Int32) (o_city_streets_corners : Int32) (o_city_happenings_many : Int32) (o_city_happenings_cells : Nat → Int32) : va_W := [(a_o, .inr (11, [.ref a_o_city, .ref a_o_ahead, .ref a_o_marks, .int o_marked, .ref a_o_tape, .ref a_o_cityReader, .ref a_o_weeksReader, .ref a_o_trays, .ref a_o_planner, .ref a_o_ruler, .ref a_o_life, .ref a_o_latestLife, .int o_wasLived, .int o_wasParsed, .int o_faultKind, .int o_faultPlace, .int o_latestStatus, .long o_fractionTop, .long o_fractionBottom])), (a_o_city, .inr (0, [.int o_city_wage, .int o_city_delay, .int o_city_odds, .int o_city_clock, .int o_city_hasWeeks, .ref a_o_city_streets, .ref a_o_city_names, .ref a_o_city_extras, .ref a_o_city_happenings, .ref a_o_city_watchers, .ref a_o_city_weeks])), (a_o_city_streets, .inr (6, [.int o_city_streets_corners, .ref a_o_city_streets_roads, .ref a_o_city_streets_takes, .ref a_o_city_streets_hours])), (a_o_city_happenings, .inr (7, [.int 5, .ref a_o_city_happenings_cells, .int o_city_happenings_many])), (a_o_city_happenings_cells, .inl (E.2.1, 40, .inl o_city_happenings_cells))]
set_option maxHeartbeats 4000000 in
set_option maxRecDepth 100000 in
theorem ct_X11_plan (l : Launch) (E : vE) (F : Nat) (a_o a_o_city a_o_ahead a_o_marks a_o_tape a_o_cityReader a_o_weeksReader a_o_trays a_o_planner a_o_ruler a_o_life a_o_latestLife a_o_city_streets a_o_city_names a_o_city_extras a_o_city_happenings a_o_city_watchers a_o_city_weeks a_o_city_streets_roads a_o_city_streets_takes a_o_city_streets_hours a_o_city_happenings_cells : Nat) (o_marked : Int32) (o_wasLived : Int32) (o_wasParsed : Int32) (o_faultKind : Int32) (o_faultPlace : Int32) (o_latestStatus : Int32) (o_fractionTop : Int64) (o_fractionBottom : Int64) (o_city_wage : Int32) (o_city_delay : Int32) (o_city_odds : Int32) (o_city_clock : Int32) (o_city_hasWeeks : Int32) (o_city_streets_corners : Int32) (o_city_happenings_many : Int32) (o_city_happenings_cells : Nat → Int32) (v1 : Int32) (v2 : Int32) (v3 : Int32) (u : Int32 × Int32 × Int32 × (Nat → Int32)) (hf : X11_plan F o_latestStatus o_city_streets_corners o_city_happenings_many o_city_happenings_cells v1 v2 v3 = some u) :
    CtI l yX11_plan cX11_plan 4 (some .int) 3 E [.ref a_o, .int v1, .int v2, .int v3] (wd_X11_plan E a_o a_o_city a_o_ahead a_o_marks a_o_tape a_o_cityReader a_o_weeksReader a_o_trays a_o_planner a_o_ruler a_o_life a_o_latestLife a_o_city_streets a_o_city_names a_o_city_extras a_o_city_happenings a_o_city_watchers a_o_city_weeks a_o_city_streets_roads a_o_city_streets_takes a_o_city_streets_hours a_o_city_happenings_cells o_marked o_wasLived o_wasParsed o_faultKind o_faultPlace o_latestStatus o_fractionTop o_fractionBottom o_city_wage o_city_delay o_city_odds o_city_clock o_city_hasWeeks o_city_streets_corners o_city_happenings_many o_city_happenings_cells) (wd_X11_plan E a_o a_o_city a_o_ahead a_o_marks a_o_tape a_o_cityReader a_o_weeksReader a_o_trays a_o_planner a_o_ruler a_o_life a_o_latestLife a_o_city_streets a_o_city_names a_o_city_extras a_o_city_happenings a_o_city_watchers a_o_city_weeks a_o_city_streets_roads a_o_city_streets_takes a_o_city_streets_hours a_o_city_happenings_cells o_marked o_wasLived o_wasParsed o_faultKind o_faultPlace u.2.1 o_fractionTop o_fractionBottom o_city_wage o_city_delay o_city_odds o_city_clock o_city_hasWeeks o_city_streets_corners u.2.2.1 u.2.2.2) u.1 := by
  refine ctI (by decide) (Nat.le_of_ble_eq_true rfl) ?_
  intro p e s m below meth cd A ls aa QQ hq cx hP hD hS hl
  obtain ⟨⟨hx, hb, hml, hown, hts⟩, hr, hlocks, hK, hA, hX⟩ := id cx
  have hl : lv_has ls 4 [(0, .ref a_o), (1, .int v1), (2, .int v2), (3, .int v3)] := hl
  have hj28 : ∀ (o_latestStatus_j28 : Int32) (o_city_happenings_many_j28 : Int32) (o_city_happenings_cells_j28 : Nat → Int32) (H : Heap) (locs : List Loc) (ls : Array Slot), X11_plan_j28 F o_latestStatus_j28 o_city_streets_corners o_city_happenings_many_j28 o_city_happenings_cells_j28 = some u → va_P E.1 vwCl (wd_X11_plan E a_o a_o_city a_o_ahead a_o_marks a_o_tape a_o_cityReader a_o_weeksReader a_o_trays a_o_planner a_o_ruler a_o_life a_o_latestLife a_o_city_streets a_o_city_names a_o_city_extras a_o_city_happenings a_o_city_watchers a_o_city_weeks a_o_city_streets_roads a_o_city_streets_takes a_o_city_streets_hours a_o_city_happenings_cells o_marked o_wasLived o_wasParsed o_faultKind o_faultPlace o_latestStatus_j28 o_fractionTop o_fractionBottom o_city_wage o_city_delay o_city_odds o_city_clock o_city_hasWeeks o_city_streets_corners o_city_happenings_many_j28 o_city_happenings_cells_j28) H → va_D A (wd_X11_plan E a_o a_o_city a_o_ahead a_o_marks a_o_tape a_o_cityReader a_o_weeksReader a_o_trays a_o_planner a_o_ruler a_o_life a_o_latestLife a_o_city_streets a_o_city_names a_o_city_extras a_o_city_happenings a_o_city_watchers a_o_city_weeks a_o_city_streets_roads a_o_city_streets_takes a_o_city_streets_hours a_o_city_happenings_cells o_marked o_wasLived o_wasParsed o_faultKind o_faultPlace o_latestStatus_j28 o_fractionTop o_fractionBottom o_city_wage o_city_delay o_city_odds o_city_clock o_city_hasWeeks o_city_streets_corners o_city_happenings_many_j28 o_city_happenings_cells_j28) → va_S A s.heap H locs → lv_has ls 4 [(0, .ref a_o)] → W p l e (rmd 3) s m aa below meth cd H locs 0 0 QQ (F0 m 28 ls []) := by
    intro o_latestStatus_j28 o_city_happenings_many_j28 o_city_happenings_cells_j28 H locs ls hf hP hD hS hl
    unfold X11_plan_j28 at hf
    refine lv_aload_n hx hb dX11_plan_28 rfl (lv_at hl 0 rfl) ?_
    refine lv_iconst (v := 1) hx hb dX11_plan_29 (by decide) ?_
    obtain ⟨u30, hu30, hf⟩ := bd hf
    refine callVI (wn := (wd_X11_plan E a_o a_o_city a_o_ahead a_o_marks a_o_tape a_o_cityReader a_o_weeksReader a_o_trays a_o_planner a_o_ruler a_o_life a_o_latestLife a_o_city_streets a_o_city_names a_o_city_extras a_o_city_happenings a_o_city_watchers a_o_city_weeks a_o_city_streets_roads a_o_city_streets_takes a_o_city_streets_hours a_o_city_happenings_cells o_marked o_wasLived o_wasParsed o_faultKind o_faultPlace u30.2 o_fractionTop o_fractionBottom o_city_wage o_city_delay o_city_odds o_city_clock o_city_hasWeeks o_city_streets_corners o_city_happenings_many_j28 o_city_happenings_cells_j28)) (n1 := 5) (ct_X11_none l E a_o a_o_city a_o_ahead a_o_marks a_o_tape a_o_cityReader a_o_weeksReader a_o_trays a_o_planner a_o_ruler a_o_life a_o_latestLife o_marked o_wasLived o_wasParsed o_faultKind o_faultPlace o_latestStatus_j28 o_fractionTop o_fractionBottom (1 : Int32) u30 hu30) [0] cal_X11_none cav_X11_none lk_X11_119 cx hP hD hS hl dX11_plan_30 rfl rfl rfl rfl (Nat.le_of_ble_eq_true rfl) ⟨Nat.le_of_ble_eq_true rfl, Nat.le_of_ble_eq_true rfl⟩ rfl (by decide +kernel) rfl [some 0, none, none, none, none] rfl (by decide +kernel) rfl (fun H locs hP hD hS => ?_)
    obtain rfl := Option.some.inj hf
    subst hq
    exact retI cx hP hD hS dX11_plan_33
  unfold X11_plan at hf
  refine lv_aload_n hx hb dX11_plan_0 rfl (lv_at hl 0 rfl) ?_
  refine lv_iload_n hx hb dX11_plan_1 rfl (lv_at hl 1 rfl) ?_
  obtain ⟨u2, hu2, hf⟩ := bd hf
  refine keepVI (ct_X11_isCorner l E a_o a_o_city a_o_ahead a_o_marks a_o_tape a_o_cityReader a_o_weeksReader a_o_trays a_o_planner a_o_ruler a_o_life a_o_latestLife a_o_city_streets a_o_city_names a_o_city_extras a_o_city_happenings a_o_city_watchers a_o_city_weeks a_o_city_streets_roads a_o_city_streets_takes a_o_city_streets_hours o_marked o_wasLived o_wasParsed o_faultKind o_faultPlace o_latestStatus o_fractionTop o_fractionBottom o_city_wage o_city_delay o_city_odds o_city_clock o_city_hasWeeks o_city_streets_corners v1 u2 hu2) [0, 1, 2] cal_X11_isCorner cav_X11_isCorner lk_X11_263 cx hP hD hS hl dX11_plan_2 rfl rfl rfl rfl (Nat.le_of_ble_eq_true rfl) ⟨Nat.le_of_ble_eq_true rfl, Nat.le_of_ble_eq_true rfl⟩ rfl (by decide) (fun H locs hP hS => ?_)
  refine lv_if_eq (tgt := 28) hx hb dX11_plan_5 (by decide) (fun hc => ?_) (fun hc => ?_)
  · have hf := it_t hc hf
    exact hj28 _ _ _ _ _ _ hf hP hD hS (lv_sub hl [0] rfl)
  · have hf := it_f hc hf
    refine lv_iload_n hx hb dX11_plan_8 rfl (lv_at hl 2 rfl) ?_
    refine lv_iconst (v := 0) hx hb dX11_plan_9 (by decide) ?_
    refine lv_sipush (v := 999) hx hb dX11_plan_10 (by decide) ?_
    obtain ⟨u13, hu13, hf⟩ := bd hf
    refine keepSI (ct_X11_within l E v2 (0 : Int32) (999 : Int32) u13 hu13) [] cal_X11_within sta_X11_within lk_X11_96 cx hP hD hS hl dX11_plan_13 rfl rfl (Nat.le_of_ble_eq_true rfl) ⟨Nat.le_of_ble_eq_true rfl, Nat.le_of_ble_eq_true rfl⟩ rfl (by decide) (fun H locs hP hS => ?_)
    refine lv_if_eq (tgt := 28) hx hb dX11_plan_16 (by decide) (fun hc => ?_) (fun hc => ?_)
    · have hf := it_t hc hf
      exact hj28 _ _ _ _ _ _ hf hP hD hS (lv_sub hl [0] rfl)
    · have hf := it_f hc hf
      refine lv_iload_n hx hb dX11_plan_19 rfl (lv_at hl 3 rfl) ?_
      refine lv_iconst (v := 1) hx hb dX11_plan_20 (by decide) ?_
      refine lv_iconst (v := 4) hx hb dX11_plan_21 (by decide) ?_
      obtain ⟨u22, hu22, hf⟩ := bd hf
      refine keepSI (ct_X11_within l E v3 (1 : Int32) (4 : Int32) u22 hu22) [] cal_X11_within sta_X11_within lk_X11_96 cx hP hD hS hl dX11_plan_22 rfl rfl (Nat.le_of_ble_eq_true rfl) ⟨Nat.le_of_ble_eq_true rfl, Nat.le_of_ble_eq_true rfl⟩ rfl (by decide) (fun H locs hP hS => ?_)
      refine lv_if_ne (tgt := 34) hx hb dX11_plan_25 (by decide) (fun hc => ?_) (fun hc => ?_)
      · have hf := it_f hc hf
        refine lv_aload_n hx hb dX11_plan_34 rfl (lv_at hl 0 rfl) ?_
        refine va_get (D := E.1) (ci := 11) (v := .ref a_o_city) (C := RX11) (T := TX11) (N := 19) hx hb hts inX11 hown hK hP 0 rfl rfl 0 (by decide) (hts _ fl_X11_10) (fun _ h9 => h9) rfl dX11_plan_35 ?_
        refine va_get (D := E.1) (ci := 0) (v := .ref a_o_city_happenings) (C := RX0) (T := TX0) (N := 11) hx hb hts inX0 hown hK hP 1 rfl rfl 8 (by decide) (hts _ fl_X11_213) (fun _ h9 => h9) rfl dX11_plan_38 ?_
        obtain ⟨u41, hu41, hf⟩ := bd hf
        refine keepVI (ct_X7_isFull l E a_o_city_happenings a_o_city_happenings_cells 40 5 o_city_happenings_many o_city_happenings_cells u41 hu41) [3, 4] cal_X7_isFull cav_X7_isFull lk_X11_291 cx hP hD hS hl dX11_plan_41 rfl rfl rfl rfl (Nat.le_of_ble_eq_true rfl) ⟨Nat.le_of_ble_eq_true rfl, Nat.le_of_ble_eq_true rfl⟩ rfl (by decide) (fun H locs hP hS => ?_)
        refine lv_if_eq (tgt := 53) hx hb dX11_plan_44 (by decide) (fun hc => ?_) (fun hc => ?_)
        · have hf := it_t hc hf
          refine lv_aload_n hx hb dX11_plan_53 rfl (lv_at hl 0 rfl) ?_
          refine lv_aload_n hx hb dX11_plan_54 rfl (lv_at hl 0 rfl) ?_
          refine va_get (D := E.1) (ci := 11) (v := .ref a_o_city) (C := RX11) (T := TX11) (N := 19) hx hb hts inX11 hown hK hP 0 rfl rfl 0 (by decide) (hts _ fl_X11_10) (fun _ h9 => h9) rfl dX11_plan_55 ?_
          refine lv_iload_n hx hb dX11_plan_58 rfl (lv_at hl 1 rfl) ?_
          refine lv_iload_n hx hb dX11_plan_59 rfl (lv_at hl 2 rfl) ?_
          refine lv_iload_n hx hb dX11_plan_60 rfl (lv_at hl 3 rfl) ?_
          obtain ⟨u61, hu61, hf⟩ := bd hf
          refine callVI (wn := (wd_X11_plan E a_o a_o_city a_o_ahead a_o_marks a_o_tape a_o_cityReader a_o_weeksReader a_o_trays a_o_planner a_o_ruler a_o_life a_o_latestLife a_o_city_streets a_o_city_names a_o_city_extras a_o_city_happenings a_o_city_watchers a_o_city_weeks a_o_city_streets_roads a_o_city_streets_takes a_o_city_streets_hours a_o_city_happenings_cells o_marked o_wasLived o_wasParsed o_faultKind o_faultPlace o_latestStatus o_fractionTop o_fractionBottom o_city_wage o_city_delay o_city_odds o_city_clock o_city_hasWeeks o_city_streets_corners u61.2.1 u61.2.2)) (n1 := 5) (ct_X0_addHappening l E F a_o_city a_o_city_streets a_o_city_names a_o_city_extras a_o_city_happenings a_o_city_watchers a_o_city_weeks a_o_city_happenings_cells o_city_wage o_city_delay o_city_odds o_city_clock o_city_hasWeeks o_city_happenings_many o_city_happenings_cells v1 v2 v3 u61 hu61) [1, 3, 4] cal_X0_addHappening cav_X0_addHappening lk_X11_294 cx hP hD hS hl dX11_plan_61 rfl rfl rfl rfl (Nat.le_of_ble_eq_true rfl) ⟨Nat.le_of_ble_eq_true rfl, Nat.le_of_ble_eq_true rfl⟩ rfl (by decide +kernel) rfl [none, some 0, none, some 1, some 2] rfl (by decide +kernel) rfl (fun H locs hP hD hS => ?_)
          obtain ⟨u64, hu64, hf⟩ := bd hf
          refine callVI (wn := (wd_X11_plan E a_o a_o_city a_o_ahead a_o_marks a_o_tape a_o_cityReader a_o_weeksReader a_o_trays a_o_planner a_o_ruler a_o_life a_o_latestLife a_o_city_streets a_o_city_names a_o_city_extras a_o_city_happenings a_o_city_watchers a_o_city_weeks a_o_city_streets_roads a_o_city_streets_takes a_o_city_streets_hours a_o_city_happenings_cells o_marked o_wasLived o_wasParsed o_faultKind o_faultPlace u64.2 o_fractionTop o_fractionBottom o_city_wage o_city_delay o_city_odds o_city_clock o_city_hasWeeks o_city_streets_corners u61.2.1 u61.2.2)) (n1 := 5) (ct_X11_answer l E a_o a_o_city a_o_ahead a_o_marks a_o_tape a_o_cityReader a_o_weeksReader a_o_trays a_o_planner a_o_ruler a_o_life a_o_latestLife o_marked o_wasLived o_wasParsed o_faultKind o_faultPlace o_latestStatus o_fractionTop o_fractionBottom u61.1 u64 hu64) [0] cal_X11_answer cav_X11_answer lk_X11_172 cx hP hD hS hl dX11_plan_64 rfl rfl rfl rfl (Nat.le_of_ble_eq_true rfl) ⟨Nat.le_of_ble_eq_true rfl, Nat.le_of_ble_eq_true rfl⟩ rfl (by decide +kernel) rfl [some 0, none, none, none, none] rfl (by decide +kernel) rfl (fun H locs hP hD hS => ?_)
          obtain rfl := Option.some.inj hf
          subst hq
          exact retI cx hP hD hS dX11_plan_67
        · have hf := it_f hc hf
          refine lv_aload_n hx hb dX11_plan_47 rfl (lv_at hl 0 rfl) ?_
          refine lv_iconst (v := 4) hx hb dX11_plan_48 (by decide) ?_
          obtain ⟨u49, hu49, hf⟩ := bd hf
          refine callVI (wn := (wd_X11_plan E a_o a_o_city a_o_ahead a_o_marks a_o_tape a_o_cityReader a_o_weeksReader a_o_trays a_o_planner a_o_ruler a_o_life a_o_latestLife a_o_city_streets a_o_city_names a_o_city_extras a_o_city_happenings a_o_city_watchers a_o_city_weeks a_o_city_streets_roads a_o_city_streets_takes a_o_city_streets_hours a_o_city_happenings_cells o_marked o_wasLived o_wasParsed o_faultKind o_faultPlace u49.2 o_fractionTop o_fractionBottom o_city_wage o_city_delay o_city_odds o_city_clock o_city_hasWeeks o_city_streets_corners o_city_happenings_many o_city_happenings_cells)) (n1 := 5) (ct_X11_none l E a_o a_o_city a_o_ahead a_o_marks a_o_tape a_o_cityReader a_o_weeksReader a_o_trays a_o_planner a_o_ruler a_o_life a_o_latestLife o_marked o_wasLived o_wasParsed o_faultKind o_faultPlace o_latestStatus o_fractionTop o_fractionBottom (4 : Int32) u49 hu49) [0] cal_X11_none cav_X11_none lk_X11_119 cx hP hD hS hl dX11_plan_49 rfl rfl rfl rfl (Nat.le_of_ble_eq_true rfl) ⟨Nat.le_of_ble_eq_true rfl, Nat.le_of_ble_eq_true rfl⟩ rfl (by decide +kernel) rfl [some 0, none, none, none, none] rfl (by decide +kernel) rfl (fun H locs hP hD hS => ?_)
          obtain rfl := Option.some.inj hf
          subst hq
          exact retI cx hP hD hS dX11_plan_52
      · have hf := it_t hc hf
        exact hj28 _ _ _ _ _ _ hf hP hD hS (lv_sub hl [0] rfl)
def X11_bear (F : Nat) (o_latestStatus : Int32) (o_city_streets_corners : Int32) (o_city_extras_many : Int32) (o_city_extras_cells : Nat → Int32) (v1 : Int32) : Option (Int32 × Int32 × Int32 × (Nat → Int32)) :=
  (X11_isCorner o_city_streets_corners v1).bind fun u2 =>
  if u2 = 0 then
  (X11_none o_latestStatus (1 : Int32)).bind fun u10 =>
  some (u10.1, u10.2, o_city_extras_many, o_city_extras_cells)
  else
  (X7_isFull 35 5 o_city_extras_many).bind fun u21 =>
  if u21 = 0 then
  (X0_addExtra F o_city_extras_many o_city_extras_cells v1).bind fun u39 =>
  (X11_answer o_latestStatus u39.1).bind fun u42 =>
  some (u42.1, u42.2, u39.2.1, u39.2.2)
  else
  (X11_none o_latestStatus (4 : Int32)).bind fun u29 =>
  some (u29.1, u29.2, o_city_extras_many, o_city_extras_cells)
abbrev wd_X11_bear (E : vE) (a_o a_o_city a_o_ahead a_o_marks a_o_tape a_o_cityReader a_o_weeksReader a_o_trays a_o_planner a_o_ruler a_o_life a_o_latestLife a_o_city_streets a_o_city_names a_o_city_extras a_o_city_happenings a_o_city_watchers a_o_city_weeks a_o_city_streets_roads a_o_city_streets_takes a_o_city_streets_hours a_o_city_extras_cells : Nat) (o_marked : Int32) (o_wasLived : Int32) (o_wasParsed : Int32) (o_faultKind : Int32) (o_faultPlace : Int32) (o_latestStatus : Int32) (o_fractionTop : Int64) (o_fractionBottom : Int64) (o_city_wage : Int32) (o_city_delay : Int32) (o_city_odds : Int32) (o_city_clock : Int32) (o_city_hasWeeks : Int32) (o_city_streets_corners : Int32) (o_city_extras_many : Int32) (o_city_extras_cells : Nat → Int32) : va_W := [(a_o, .inr (11, [.ref a_o_city, .ref a_o_ahead, .ref a_o_marks, .int o_marked, .ref a_o_tape, .ref a_o_cityReader, .ref a_o_weeksReader, .ref a_o_trays, .ref a_o_planner, .ref a_o_ruler, .ref a_o_life, .ref a_o_latestLife, .int o_wasLived, .int o_wasParsed, .int o_faultKind, .int o_faultPlace, .int o_latestStatus, .long o_fractionTop, .long o_fractionBottom])), (a_o_city, .inr (0, [.int o_city_wage, .int o_city_delay, .int o_city_odds, .int o_city_clock, .int o_city_hasWeeks, .ref a_o_city_streets, .ref a_o_city_names, .ref a_o_city_extras, .ref a_o_city_happenings, .ref a_o_city_watchers, .ref a_o_city_weeks])), (a_o_city_streets, .inr (6, [.int o_city_streets_corners, .ref a_o_city_streets_roads, .ref a_o_city_streets_takes, .ref a_o_city_streets_hours])), (a_o_city_extras, .inr (7, [.int 5, .ref a_o_city_extras_cells, .int o_city_extras_many])), (a_o_city_extras_cells, .inl (E.2.1, 35, .inl o_city_extras_cells))]
set_option maxHeartbeats 4000000 in
set_option maxRecDepth 100000 in
theorem ct_X11_bear (l : Launch) (E : vE) (F : Nat) (a_o a_o_city a_o_ahead a_o_marks a_o_tape a_o_cityReader a_o_weeksReader a_o_trays a_o_planner a_o_ruler a_o_life a_o_latestLife a_o_city_streets a_o_city_names a_o_city_extras a_o_city_happenings a_o_city_watchers a_o_city_weeks a_o_city_streets_roads a_o_city_streets_takes a_o_city_streets_hours a_o_city_extras_cells : Nat) (o_marked : Int32) (o_wasLived : Int32) (o_wasParsed : Int32) (o_faultKind : Int32) (o_faultPlace : Int32) (o_latestStatus : Int32) (o_fractionTop : Int64) (o_fractionBottom : Int64) (o_city_wage : Int32) (o_city_delay : Int32) (o_city_odds : Int32) (o_city_clock : Int32) (o_city_hasWeeks : Int32) (o_city_streets_corners : Int32) (o_city_extras_many : Int32) (o_city_extras_cells : Nat → Int32) (v1 : Int32) (u : Int32 × Int32 × Int32 × (Nat → Int32)) (hf : X11_bear F o_latestStatus o_city_streets_corners o_city_extras_many o_city_extras_cells v1 = some u) :
    CtI l yX11_bear cX11_bear 2 (some .int) 3 E [.ref a_o, .int v1] (wd_X11_bear E a_o a_o_city a_o_ahead a_o_marks a_o_tape a_o_cityReader a_o_weeksReader a_o_trays a_o_planner a_o_ruler a_o_life a_o_latestLife a_o_city_streets a_o_city_names a_o_city_extras a_o_city_happenings a_o_city_watchers a_o_city_weeks a_o_city_streets_roads a_o_city_streets_takes a_o_city_streets_hours a_o_city_extras_cells o_marked o_wasLived o_wasParsed o_faultKind o_faultPlace o_latestStatus o_fractionTop o_fractionBottom o_city_wage o_city_delay o_city_odds o_city_clock o_city_hasWeeks o_city_streets_corners o_city_extras_many o_city_extras_cells) (wd_X11_bear E a_o a_o_city a_o_ahead a_o_marks a_o_tape a_o_cityReader a_o_weeksReader a_o_trays a_o_planner a_o_ruler a_o_life a_o_latestLife a_o_city_streets a_o_city_names a_o_city_extras a_o_city_happenings a_o_city_watchers a_o_city_weeks a_o_city_streets_roads a_o_city_streets_takes a_o_city_streets_hours a_o_city_extras_cells o_marked o_wasLived o_wasParsed o_faultKind o_faultPlace u.2.1 o_fractionTop o_fractionBottom o_city_wage o_city_delay o_city_odds o_city_clock o_city_hasWeeks o_city_streets_corners u.2.2.1 u.2.2.2) u.1 := by
  refine ctI (by decide) (Nat.le_of_ble_eq_true rfl) ?_
  intro p e s m below meth cd A ls aa QQ hq cx hP hD hS hl
  obtain ⟨⟨hx, hb, hml, hown, hts⟩, hr, hlocks, hK, hA, hX⟩ := id cx
  have hl : lv_has ls 2 [(0, .ref a_o), (1, .int v1)] := hl
  unfold X11_bear at hf
  refine lv_aload_n hx hb dX11_bear_0 rfl (lv_at hl 0 rfl) ?_
  refine lv_iload_n hx hb dX11_bear_1 rfl (lv_at hl 1 rfl) ?_
  obtain ⟨u2, hu2, hf⟩ := bd hf
  refine keepVI (ct_X11_isCorner l E a_o a_o_city a_o_ahead a_o_marks a_o_tape a_o_cityReader a_o_weeksReader a_o_trays a_o_planner a_o_ruler a_o_life a_o_latestLife a_o_city_streets a_o_city_names a_o_city_extras a_o_city_happenings a_o_city_watchers a_o_city_weeks a_o_city_streets_roads a_o_city_streets_takes a_o_city_streets_hours o_marked o_wasLived o_wasParsed o_faultKind o_faultPlace o_latestStatus o_fractionTop o_fractionBottom o_city_wage o_city_delay o_city_odds o_city_clock o_city_hasWeeks o_city_streets_corners v1 u2 hu2) [0, 1, 2] cal_X11_isCorner cav_X11_isCorner lk_X11_263 cx hP hD hS hl dX11_bear_2 rfl rfl rfl rfl (Nat.le_of_ble_eq_true rfl) ⟨Nat.le_of_ble_eq_true rfl, Nat.le_of_ble_eq_true rfl⟩ rfl (by decide) (fun H locs hP hS => ?_)
  refine lv_if_ne (tgt := 14) hx hb dX11_bear_5 (by decide) (fun hc => ?_) (fun hc => ?_)
  · have hf := it_f hc hf
    refine lv_aload_n hx hb dX11_bear_14 rfl (lv_at hl 0 rfl) ?_
    refine va_get (D := E.1) (ci := 11) (v := .ref a_o_city) (C := RX11) (T := TX11) (N := 19) hx hb hts inX11 hown hK hP 0 rfl rfl 0 (by decide) (hts _ fl_X11_10) (fun _ h9 => h9) rfl dX11_bear_15 ?_
    refine va_get (D := E.1) (ci := 0) (v := .ref a_o_city_extras) (C := RX0) (T := TX0) (N := 11) hx hb hts inX0 hown hK hP 1 rfl rfl 7 (by decide) (hts _ fl_X11_210) (fun _ h9 => h9) rfl dX11_bear_18 ?_
    obtain ⟨u21, hu21, hf⟩ := bd hf
    refine keepVI (ct_X7_isFull l E a_o_city_extras a_o_city_extras_cells 35 5 o_city_extras_many o_city_extras_cells u21 hu21) [3, 4] cal_X7_isFull cav_X7_isFull lk_X11_291 cx hP hD hS hl dX11_bear_21 rfl rfl rfl rfl (Nat.le_of_ble_eq_true rfl) ⟨Nat.le_of_ble_eq_true rfl, Nat.le_of_ble_eq_true rfl⟩ rfl (by decide) (fun H locs hP hS => ?_)
    refine lv_if_eq (tgt := 33) hx hb dX11_bear_24 (by decide) (fun hc => ?_) (fun hc => ?_)
    · have hf := it_t hc hf
      refine lv_aload_n hx hb dX11_bear_33 rfl (lv_at hl 0 rfl) ?_
      refine lv_aload_n hx hb dX11_bear_34 rfl (lv_at hl 0 rfl) ?_
      refine va_get (D := E.1) (ci := 11) (v := .ref a_o_city) (C := RX11) (T := TX11) (N := 19) hx hb hts inX11 hown hK hP 0 rfl rfl 0 (by decide) (hts _ fl_X11_10) (fun _ h9 => h9) rfl dX11_bear_35 ?_
      refine lv_iload_n hx hb dX11_bear_38 rfl (lv_at hl 1 rfl) ?_
      obtain ⟨u39, hu39, hf⟩ := bd hf
      refine callVI (wn := (wd_X11_bear E a_o a_o_city a_o_ahead a_o_marks a_o_tape a_o_cityReader a_o_weeksReader a_o_trays a_o_planner a_o_ruler a_o_life a_o_latestLife a_o_city_streets a_o_city_names a_o_city_extras a_o_city_happenings a_o_city_watchers a_o_city_weeks a_o_city_streets_roads a_o_city_streets_takes a_o_city_streets_hours a_o_city_extras_cells o_marked o_wasLived o_wasParsed o_faultKind o_faultPlace o_latestStatus o_fractionTop o_fractionBottom o_city_wage o_city_delay o_city_odds o_city_clock o_city_hasWeeks o_city_streets_corners u39.2.1 u39.2.2)) (n1 := 5) (ct_X0_addExtra l E F a_o_city a_o_city_streets a_o_city_names a_o_city_extras a_o_city_happenings a_o_city_watchers a_o_city_weeks a_o_city_extras_cells o_city_wage o_city_delay o_city_odds o_city_clock o_city_hasWeeks o_city_extras_many o_city_extras_cells v1 u39 hu39) [1, 3, 4] cal_X0_addExtra cav_X0_addExtra lk_X11_298 cx hP hD hS hl dX11_bear_39 rfl rfl rfl rfl (Nat.le_of_ble_eq_true rfl) ⟨Nat.le_of_ble_eq_true rfl, Nat.le_of_ble_eq_true rfl⟩ rfl (by decide +kernel) rfl [none, some 0, none, some 1, some 2] rfl (by decide +kernel) rfl (fun H locs hP hD hS => ?_)
      obtain ⟨u42, hu42, hf⟩ := bd hf
      refine callVI (wn := (wd_X11_bear E a_o a_o_city a_o_ahead a_o_marks a_o_tape a_o_cityReader a_o_weeksReader a_o_trays a_o_planner a_o_ruler a_o_life a_o_latestLife a_o_city_streets a_o_city_names a_o_city_extras a_o_city_happenings a_o_city_watchers a_o_city_weeks a_o_city_streets_roads a_o_city_streets_takes a_o_city_streets_hours a_o_city_extras_cells o_marked o_wasLived o_wasParsed o_faultKind o_faultPlace u42.2 o_fractionTop o_fractionBottom o_city_wage o_city_delay o_city_odds o_city_clock o_city_hasWeeks o_city_streets_corners u39.2.1 u39.2.2)) (n1 := 5) (ct_X11_answer l E a_o a_o_city a_o_ahead a_o_marks a_o_tape a_o_cityReader a_o_weeksReader a_o_trays a_o_planner a_o_ruler a_o_life a_o_latestLife o_marked o_wasLived o_wasParsed o_faultKind o_faultPlace o_latestStatus o_fractionTop o_fractionBottom u39.1 u42 hu42) [0] cal_X11_answer cav_X11_answer lk_X11_172 cx hP hD hS hl dX11_bear_42 rfl rfl rfl rfl (Nat.le_of_ble_eq_true rfl) ⟨Nat.le_of_ble_eq_true rfl, Nat.le_of_ble_eq_true rfl⟩ rfl (by decide +kernel) rfl [some 0, none, none, none, none] rfl (by decide +kernel) rfl (fun H locs hP hD hS => ?_)
      obtain rfl := Option.some.inj hf
      subst hq
      exact retI cx hP hD hS dX11_bear_45
    · have hf := it_f hc hf
      refine lv_aload_n hx hb dX11_bear_27 rfl (lv_at hl 0 rfl) ?_
      refine lv_iconst (v := 4) hx hb dX11_bear_28 (by decide) ?_
      obtain ⟨u29, hu29, hf⟩ := bd hf
      refine callVI (wn := (wd_X11_bear E a_o a_o_city a_o_ahead a_o_marks a_o_tape a_o_cityReader a_o_weeksReader a_o_trays a_o_planner a_o_ruler a_o_life a_o_latestLife a_o_city_streets a_o_city_names a_o_city_extras a_o_city_happenings a_o_city_watchers a_o_city_weeks a_o_city_streets_roads a_o_city_streets_takes a_o_city_streets_hours a_o_city_extras_cells o_marked o_wasLived o_wasParsed o_faultKind o_faultPlace u29.2 o_fractionTop o_fractionBottom o_city_wage o_city_delay o_city_odds o_city_clock o_city_hasWeeks o_city_streets_corners o_city_extras_many o_city_extras_cells)) (n1 := 5) (ct_X11_none l E a_o a_o_city a_o_ahead a_o_marks a_o_tape a_o_cityReader a_o_weeksReader a_o_trays a_o_planner a_o_ruler a_o_life a_o_latestLife o_marked o_wasLived o_wasParsed o_faultKind o_faultPlace o_latestStatus o_fractionTop o_fractionBottom (4 : Int32) u29 hu29) [0] cal_X11_none cav_X11_none lk_X11_119 cx hP hD hS hl dX11_bear_29 rfl rfl rfl rfl (Nat.le_of_ble_eq_true rfl) ⟨Nat.le_of_ble_eq_true rfl, Nat.le_of_ble_eq_true rfl⟩ rfl (by decide +kernel) rfl [some 0, none, none, none, none] rfl (by decide +kernel) rfl (fun H locs hP hD hS => ?_)
      obtain rfl := Option.some.inj hf
      subst hq
      exact retI cx hP hD hS dX11_bear_32
  · have hf := it_t hc hf
    refine lv_aload_n hx hb dX11_bear_8 rfl (lv_at hl 0 rfl) ?_
    refine lv_iconst (v := 1) hx hb dX11_bear_9 (by decide) ?_
    obtain ⟨u10, hu10, hf⟩ := bd hf
    refine callVI (wn := (wd_X11_bear E a_o a_o_city a_o_ahead a_o_marks a_o_tape a_o_cityReader a_o_weeksReader a_o_trays a_o_planner a_o_ruler a_o_life a_o_latestLife a_o_city_streets a_o_city_names a_o_city_extras a_o_city_happenings a_o_city_watchers a_o_city_weeks a_o_city_streets_roads a_o_city_streets_takes a_o_city_streets_hours a_o_city_extras_cells o_marked o_wasLived o_wasParsed o_faultKind o_faultPlace u10.2 o_fractionTop o_fractionBottom o_city_wage o_city_delay o_city_odds o_city_clock o_city_hasWeeks o_city_streets_corners o_city_extras_many o_city_extras_cells)) (n1 := 5) (ct_X11_none l E a_o a_o_city a_o_ahead a_o_marks a_o_tape a_o_cityReader a_o_weeksReader a_o_trays a_o_planner a_o_ruler a_o_life a_o_latestLife o_marked o_wasLived o_wasParsed o_faultKind o_faultPlace o_latestStatus o_fractionTop o_fractionBottom (1 : Int32) u10 hu10) [0] cal_X11_none cav_X11_none lk_X11_119 cx hP hD hS hl dX11_bear_10 rfl rfl rfl rfl (Nat.le_of_ble_eq_true rfl) ⟨Nat.le_of_ble_eq_true rfl, Nat.le_of_ble_eq_true rfl⟩ rfl (by decide +kernel) rfl [some 0, none, none, none, none] rfl (by decide +kernel) rfl (fun H locs hP hD hS => ?_)
    obtain rfl := Option.some.inj hf
    subst hq
    exact retI cx hP hD hS dX11_bear_13
def X11_post_j16 (o_latestStatus : Int32) (o_city_streets_corners : Int32) (o_city_watchers_many : Int32) (o_city_watchers_cells : Nat → Int32) : Option (Int32 × Int32 × (Nat → Int32)) :=
  (X11_refused o_latestStatus (1 : Int32)).bind fun u18 =>
  if isZ u18.1 then some (u18.1, u18.2, o_city_watchers_cells) else none
def X11_post (o_latestStatus : Int32) (o_city_streets_corners : Int32) (o_city_watchers_many : Int32) (o_city_watchers_cells : Nat → Int32) (v1 : Int32) (v2 : Int32) : Option (Int32 × Int32 × (Nat → Int32)) :=
  (X11_isWatcher o_city_watchers_many v1).bind fun u2 =>
  if u2 = 0 then
  X11_post_j16 o_latestStatus o_city_streets_corners o_city_watchers_many o_city_watchers_cells
  else
  (X11_isCorner o_city_streets_corners v2).bind fun u10 =>
  if u10 = 0 then
  X11_post_j16 o_latestStatus o_city_streets_corners o_city_watchers_many o_city_watchers_cells
  else
  (X7_get 12 3 o_city_watchers_many o_city_watchers_cells v1 (0 : Int32)).bind fun u31 =>
  if u31 = v2 then
  (X11_refused o_latestStatus (7 : Int32)).bind fun u41 =>
  if isZ u41.1 then some (u41.1, u41.2, o_city_watchers_cells) else none
  else
  (X7_set 12 3 o_city_watchers_many o_city_watchers_cells v1 (0 : Int32) v2).bind fun u55 =>
  (X11_accepted o_latestStatus).bind fun u59 =>
  if isZ u59.1 then some (u59.1, u59.2, u55) else none
abbrev wd_X11_post (E : vE) (a_o a_o_city a_o_ahead a_o_marks a_o_tape a_o_cityReader a_o_weeksReader a_o_trays a_o_planner a_o_ruler a_o_life a_o_latestLife a_o_city_streets a_o_city_names a_o_city_extras a_o_city_happenings a_o_city_watchers a_o_city_weeks a_o_city_streets_roads a_o_city_streets_takes a_o_city_streets_hours a_o_city_watchers_cells : Nat) (o_marked : Int32) (o_wasLived : Int32) (o_wasParsed : Int32) (o_faultKind : Int32) (o_faultPlace : Int32) (o_latestStatus : Int32) (o_fractionTop : Int64) (o_fractionBottom : Int64) (o_city_wage : Int32) (o_city_delay : Int32) (o_city_odds : Int32) (o_city_clock : Int32) (o_city_hasWeeks : Int32) (o_city_streets_corners : Int32) (o_city_watchers_many : Int32) (o_city_watchers_cells : Nat → Int32) : va_W := [(a_o, .inr (11, [.ref a_o_city, .ref a_o_ahead, .ref a_o_marks, .int o_marked, .ref a_o_tape, .ref a_o_cityReader, .ref a_o_weeksReader, .ref a_o_trays, .ref a_o_planner, .ref a_o_ruler, .ref a_o_life, .ref a_o_latestLife, .int o_wasLived, .int o_wasParsed, .int o_faultKind, .int o_faultPlace, .int o_latestStatus, .long o_fractionTop, .long o_fractionBottom])), (a_o_city, .inr (0, [.int o_city_wage, .int o_city_delay, .int o_city_odds, .int o_city_clock, .int o_city_hasWeeks, .ref a_o_city_streets, .ref a_o_city_names, .ref a_o_city_extras, .ref a_o_city_happenings, .ref a_o_city_watchers, .ref a_o_city_weeks])), (a_o_city_streets, .inr (6, [.int o_city_streets_corners, .ref a_o_city_streets_roads, .ref a_o_city_streets_takes, .ref a_o_city_streets_hours])), (a_o_city_watchers, .inr (7, [.int 3, .ref a_o_city_watchers_cells, .int o_city_watchers_many])), (a_o_city_watchers_cells, .inl (E.2.1, 12, .inl o_city_watchers_cells))]
set_option maxHeartbeats 4000000 in
set_option maxRecDepth 100000 in
theorem ct_X11_post (l : Launch) (E : vE) (a_o a_o_city a_o_ahead a_o_marks a_o_tape a_o_cityReader a_o_weeksReader a_o_trays a_o_planner a_o_ruler a_o_life a_o_latestLife a_o_city_streets a_o_city_names a_o_city_extras a_o_city_happenings a_o_city_watchers a_o_city_weeks a_o_city_streets_roads a_o_city_streets_takes a_o_city_streets_hours a_o_city_watchers_cells : Nat) (o_marked : Int32) (o_wasLived : Int32) (o_wasParsed : Int32) (o_faultKind : Int32) (o_faultPlace : Int32) (o_latestStatus : Int32) (o_fractionTop : Int64) (o_fractionBottom : Int64) (o_city_wage : Int32) (o_city_delay : Int32) (o_city_odds : Int32) (o_city_clock : Int32) (o_city_hasWeeks : Int32) (o_city_streets_corners : Int32) (o_city_watchers_many : Int32) (o_city_watchers_cells : Nat → Int32) (v1 : Int32) (v2 : Int32) (u : Int32 × Int32 × (Nat → Int32)) (hf : X11_post o_latestStatus o_city_streets_corners o_city_watchers_many o_city_watchers_cells v1 v2 = some u) :
    CtI l yX11_post cX11_post 3 (some .boolean) 2 E [.ref a_o, .int v1, .int v2] (wd_X11_post E a_o a_o_city a_o_ahead a_o_marks a_o_tape a_o_cityReader a_o_weeksReader a_o_trays a_o_planner a_o_ruler a_o_life a_o_latestLife a_o_city_streets a_o_city_names a_o_city_extras a_o_city_happenings a_o_city_watchers a_o_city_weeks a_o_city_streets_roads a_o_city_streets_takes a_o_city_streets_hours a_o_city_watchers_cells o_marked o_wasLived o_wasParsed o_faultKind o_faultPlace o_latestStatus o_fractionTop o_fractionBottom o_city_wage o_city_delay o_city_odds o_city_clock o_city_hasWeeks o_city_streets_corners o_city_watchers_many o_city_watchers_cells) (wd_X11_post E a_o a_o_city a_o_ahead a_o_marks a_o_tape a_o_cityReader a_o_weeksReader a_o_trays a_o_planner a_o_ruler a_o_life a_o_latestLife a_o_city_streets a_o_city_names a_o_city_extras a_o_city_happenings a_o_city_watchers a_o_city_weeks a_o_city_streets_roads a_o_city_streets_takes a_o_city_streets_hours a_o_city_watchers_cells o_marked o_wasLived o_wasParsed o_faultKind o_faultPlace u.2.1 o_fractionTop o_fractionBottom o_city_wage o_city_delay o_city_odds o_city_clock o_city_hasWeeks o_city_streets_corners o_city_watchers_many u.2.2) u.1 := by
  refine ctI (by decide) (Nat.le_of_ble_eq_true rfl) ?_
  intro p e s m below meth cd A ls aa QQ hq cx hP hD hS hl
  obtain ⟨⟨hx, hb, hml, hown, hts⟩, hr, hlocks, hK, hA, hX⟩ := id cx
  have hl : lv_has ls 3 [(0, .ref a_o), (1, .int v1), (2, .int v2)] := hl
  have hj16 : ∀ (o_latestStatus_j16 : Int32) (o_city_watchers_cells_j16 : Nat → Int32) (H : Heap) (locs : List Loc) (ls : Array Slot), X11_post_j16 o_latestStatus_j16 o_city_streets_corners o_city_watchers_many o_city_watchers_cells_j16 = some u → va_P E.1 vwCl (wd_X11_post E a_o a_o_city a_o_ahead a_o_marks a_o_tape a_o_cityReader a_o_weeksReader a_o_trays a_o_planner a_o_ruler a_o_life a_o_latestLife a_o_city_streets a_o_city_names a_o_city_extras a_o_city_happenings a_o_city_watchers a_o_city_weeks a_o_city_streets_roads a_o_city_streets_takes a_o_city_streets_hours a_o_city_watchers_cells o_marked o_wasLived o_wasParsed o_faultKind o_faultPlace o_latestStatus_j16 o_fractionTop o_fractionBottom o_city_wage o_city_delay o_city_odds o_city_clock o_city_hasWeeks o_city_streets_corners o_city_watchers_many o_city_watchers_cells_j16) H → va_D A (wd_X11_post E a_o a_o_city a_o_ahead a_o_marks a_o_tape a_o_cityReader a_o_weeksReader a_o_trays a_o_planner a_o_ruler a_o_life a_o_latestLife a_o_city_streets a_o_city_names a_o_city_extras a_o_city_happenings a_o_city_watchers a_o_city_weeks a_o_city_streets_roads a_o_city_streets_takes a_o_city_streets_hours a_o_city_watchers_cells o_marked o_wasLived o_wasParsed o_faultKind o_faultPlace o_latestStatus_j16 o_fractionTop o_fractionBottom o_city_wage o_city_delay o_city_odds o_city_clock o_city_hasWeeks o_city_streets_corners o_city_watchers_many o_city_watchers_cells_j16) → va_S A s.heap H locs → lv_has ls 3 [(0, .ref a_o)] → W p l e (rmd 2) s m aa below meth cd H locs 0 0 QQ (F0 m 16 ls []) := by
    intro o_latestStatus_j16 o_city_watchers_cells_j16 H locs ls hf hP hD hS hl
    unfold X11_post_j16 at hf
    refine lv_aload_n hx hb dX11_post_16 rfl (lv_at hl 0 rfl) ?_
    refine lv_iconst (v := 1) hx hb dX11_post_17 (by decide) ?_
    obtain ⟨u18, hu18, hf⟩ := bd hf
    refine callVI (wn := (wd_X11_post E a_o a_o_city a_o_ahead a_o_marks a_o_tape a_o_cityReader a_o_weeksReader a_o_trays a_o_planner a_o_ruler a_o_life a_o_latestLife a_o_city_streets a_o_city_names a_o_city_extras a_o_city_happenings a_o_city_watchers a_o_city_weeks a_o_city_streets_roads a_o_city_streets_takes a_o_city_streets_hours a_o_city_watchers_cells o_marked o_wasLived o_wasParsed o_faultKind o_faultPlace u18.2 o_fractionTop o_fractionBottom o_city_wage o_city_delay o_city_odds o_city_clock o_city_hasWeeks o_city_streets_corners o_city_watchers_many o_city_watchers_cells_j16)) (n1 := 5) (ct_X11_refused l E a_o a_o_city a_o_ahead a_o_marks a_o_tape a_o_cityReader a_o_weeksReader a_o_trays a_o_planner a_o_ruler a_o_life a_o_latestLife o_marked o_wasLived o_wasParsed o_faultKind o_faultPlace o_latestStatus_j16 o_fractionTop o_fractionBottom (1 : Int32) u18 hu18) [0] cal_X11_refused cav_X11_refused lk_X11_100 cx hP hD hS hl dX11_post_18 rfl rfl rfl rfl (Nat.le_of_ble_eq_true rfl) ⟨Nat.le_of_ble_eq_true rfl, Nat.le_of_ble_eq_true rfl⟩ rfl (by decide +kernel) rfl [some 0, none, none, none, none] rfl (by decide +kernel) rfl (fun H locs hP hD hS => ?_)
    obtain ⟨hz, hf⟩ := ck hf
    obtain rfl := Option.some.inj hf
    subst hq
    exact retZ cx hz hP hD hS dX11_post_21
  unfold X11_post at hf
  refine lv_aload_n hx hb dX11_post_0 rfl (lv_at hl 0 rfl) ?_
  refine lv_iload_n hx hb dX11_post_1 rfl (lv_at hl 1 rfl) ?_
  obtain ⟨u2, hu2, hf⟩ := bd hf
  refine keepVI (ct_X11_isWatcher l E a_o a_o_city a_o_ahead a_o_marks a_o_tape a_o_cityReader a_o_weeksReader a_o_trays a_o_planner a_o_ruler a_o_life a_o_latestLife a_o_city_streets a_o_city_names a_o_city_extras a_o_city_happenings a_o_city_watchers a_o_city_weeks a_o_city_watchers_cells o_marked o_wasLived o_wasParsed o_faultKind o_faultPlace o_latestStatus o_fractionTop o_fractionBottom o_city_wage o_city_delay o_city_odds o_city_clock o_city_hasWeeks o_city_watchers_many v1 u2 hu2) [0, 1, 3] cal_X11_isWatcher cav_X11_isWatcher lk_X11_260 cx hP hD hS hl dX11_post_2 rfl rfl rfl rfl (Nat.le_of_ble_eq_true rfl) ⟨Nat.le_of_ble_eq_true rfl, Nat.le_of_ble_eq_true rfl⟩ rfl (by decide) (fun H locs hP hS => ?_)
  refine lv_if_eq (tgt := 16) hx hb dX11_post_5 (by decide) (fun hc => ?_) (fun hc => ?_)
  · have hf := it_t hc hf
    exact hj16 _ _ _ _ _ hf hP hD hS (lv_sub hl [0] rfl)
  · have hf := it_f hc hf
    refine lv_aload_n hx hb dX11_post_8 rfl (lv_at hl 0 rfl) ?_
    refine lv_iload_n hx hb dX11_post_9 rfl (lv_at hl 2 rfl) ?_
    obtain ⟨u10, hu10, hf⟩ := bd hf
    refine keepVI (ct_X11_isCorner l E a_o a_o_city a_o_ahead a_o_marks a_o_tape a_o_cityReader a_o_weeksReader a_o_trays a_o_planner a_o_ruler a_o_life a_o_latestLife a_o_city_streets a_o_city_names a_o_city_extras a_o_city_happenings a_o_city_watchers a_o_city_weeks a_o_city_streets_roads a_o_city_streets_takes a_o_city_streets_hours o_marked o_wasLived o_wasParsed o_faultKind o_faultPlace o_latestStatus o_fractionTop o_fractionBottom o_city_wage o_city_delay o_city_odds o_city_clock o_city_hasWeeks o_city_streets_corners v2 u10 hu10) [0, 1, 2] cal_X11_isCorner cav_X11_isCorner lk_X11_263 cx hP hD hS hl dX11_post_10 rfl rfl rfl rfl (Nat.le_of_ble_eq_true rfl) ⟨Nat.le_of_ble_eq_true rfl, Nat.le_of_ble_eq_true rfl⟩ rfl (by decide) (fun H locs hP hS => ?_)
    refine lv_if_ne (tgt := 22) hx hb dX11_post_13 (by decide) (fun hc => ?_) (fun hc => ?_)
    · have hf := it_f hc hf
      refine lv_aload_n hx hb dX11_post_22 rfl (lv_at hl 0 rfl) ?_
      refine va_get (D := E.1) (ci := 11) (v := .ref a_o_city) (C := RX11) (T := TX11) (N := 19) hx hb hts inX11 hown hK hP 0 rfl rfl 0 (by decide) (hts _ fl_X11_10) (fun _ h9 => h9) rfl dX11_post_23 ?_
      refine va_get (D := E.1) (ci := 0) (v := .ref a_o_city_watchers) (C := RX0) (T := TX0) (N := 11) hx hb hts inX0 hown hK hP 1 rfl rfl 9 (by decide) (hts _ fl_X11_216) (fun _ h9 => h9) rfl dX11_post_26 ?_
      refine lv_iload_n hx hb dX11_post_29 rfl (lv_at hl 1 rfl) ?_
      refine lv_iconst (v := 0) hx hb dX11_post_30 (by decide) ?_
      obtain ⟨u31, hu31, hf⟩ := bd hf
      refine keepVI (ct_X7_get l E a_o_city_watchers a_o_city_watchers_cells 12 3 o_city_watchers_many o_city_watchers_cells v1 (0 : Int32) u31 hu31) [3, 4] cal_X7_get cav_X7_get lk_X11_247 cx hP hD hS hl dX11_post_31 rfl rfl rfl rfl (Nat.le_of_ble_eq_true rfl) ⟨Nat.le_of_ble_eq_true rfl, Nat.le_of_ble_eq_true rfl⟩ rfl (by decide) (fun H locs hP hS => ?_)
      refine lv_iload_n hx hb dX11_post_34 rfl (lv_at hl 2 rfl) ?_
      refine lv_icmp_ne (tgt := 45) hx hb dX11_post_35 (by decide) (fun hc => ?_) (fun hc => ?_)
      · have hf := it_f hc hf
        refine lv_aload_n hx hb dX11_post_45 rfl (lv_at hl 0 rfl) ?_
        refine va_get (D := E.1) (ci := 11) (v := .ref a_o_city) (C := RX11) (T := TX11) (N := 19) hx hb hts inX11 hown hK hP 0 rfl rfl 0 (by decide) (hts _ fl_X11_10) (fun _ h9 => h9) rfl dX11_post_46 ?_
        refine va_get (D := E.1) (ci := 0) (v := .ref a_o_city_watchers) (C := RX0) (T := TX0) (N := 11) hx hb hts inX0 hown hK hP 1 rfl rfl 9 (by decide) (hts _ fl_X11_216) (fun _ h9 => h9) rfl dX11_post_49 ?_
        refine lv_iload_n hx hb dX11_post_52 rfl (lv_at hl 1 rfl) ?_
        refine lv_iconst (v := 0) hx hb dX11_post_53 (by decide) ?_
        refine lv_iload_n hx hb dX11_post_54 rfl (lv_at hl 2 rfl) ?_
        obtain ⟨u55, hu55, hf⟩ := bd hf
        refine callVV (wn := (wd_X11_post E a_o a_o_city a_o_ahead a_o_marks a_o_tape a_o_cityReader a_o_weeksReader a_o_trays a_o_planner a_o_ruler a_o_life a_o_latestLife a_o_city_streets a_o_city_names a_o_city_extras a_o_city_happenings a_o_city_watchers a_o_city_weeks a_o_city_streets_roads a_o_city_streets_takes a_o_city_streets_hours a_o_city_watchers_cells o_marked o_wasLived o_wasParsed o_faultKind o_faultPlace o_latestStatus o_fractionTop o_fractionBottom o_city_wage o_city_delay o_city_odds o_city_clock o_city_hasWeeks o_city_streets_corners o_city_watchers_many u55)) (n1 := 5) (ct_X7_set l E a_o_city_watchers a_o_city_watchers_cells 12 3 o_city_watchers_many o_city_watchers_cells v1 (0 : Int32) v2 u55 hu55) [3, 4] cal_X7_set cav_X7_set lk_X11_289 cx hP hD hS hl dX11_post_55 rfl rfl rfl rfl (Nat.le_of_ble_eq_true rfl) ⟨Nat.le_of_ble_eq_true rfl, Nat.le_of_ble_eq_true rfl⟩ rfl (by decide +kernel) rfl [none, none, none, some 0, some 1] rfl (by decide +kernel) rfl (fun H locs hP hD hS => ?_)
        refine lv_aload_n hx hb dX11_post_58 rfl (lv_at hl 0 rfl) ?_
        obtain ⟨u59, hu59, hf⟩ := bd hf
        refine callVI (wn := (wd_X11_post E a_o a_o_city a_o_ahead a_o_marks a_o_tape a_o_cityReader a_o_weeksReader a_o_trays a_o_planner a_o_ruler a_o_life a_o_latestLife a_o_city_streets a_o_city_names a_o_city_extras a_o_city_happenings a_o_city_watchers a_o_city_weeks a_o_city_streets_roads a_o_city_streets_takes a_o_city_streets_hours a_o_city_watchers_cells o_marked o_wasLived o_wasParsed o_faultKind o_faultPlace u59.2 o_fractionTop o_fractionBottom o_city_wage o_city_delay o_city_odds o_city_clock o_city_hasWeeks o_city_streets_corners o_city_watchers_many u55)) (n1 := 5) (ct_X11_accepted l E a_o a_o_city a_o_ahead a_o_marks a_o_tape a_o_cityReader a_o_weeksReader a_o_trays a_o_planner a_o_ruler a_o_life a_o_latestLife o_marked o_wasLived o_wasParsed o_faultKind o_faultPlace o_latestStatus o_fractionTop o_fractionBottom u59 hu59) [0] cal_X11_accepted cav_X11_accepted lk_X11_107 cx hP hD hS hl dX11_post_59 rfl rfl rfl rfl (Nat.le_of_ble_eq_true rfl) ⟨Nat.le_of_ble_eq_true rfl, Nat.le_of_ble_eq_true rfl⟩ rfl (by decide +kernel) rfl [some 0, none, none, none, none] rfl (by decide +kernel) rfl (fun H locs hP hD hS => ?_)
        obtain ⟨hz, hf⟩ := ck hf
        obtain rfl := Option.some.inj hf
        subst hq
        exact retZ cx hz hP hD hS dX11_post_62
      · have hf := it_t hc hf
        refine lv_aload_n hx hb dX11_post_38 rfl (lv_at hl 0 rfl) ?_
        refine lv_bipush (v := 7) hx hb dX11_post_39 (by decide) ?_
        obtain ⟨u41, hu41, hf⟩ := bd hf
        refine callVI (wn := (wd_X11_post E a_o a_o_city a_o_ahead a_o_marks a_o_tape a_o_cityReader a_o_weeksReader a_o_trays a_o_planner a_o_ruler a_o_life a_o_latestLife a_o_city_streets a_o_city_names a_o_city_extras a_o_city_happenings a_o_city_watchers a_o_city_weeks a_o_city_streets_roads a_o_city_streets_takes a_o_city_streets_hours a_o_city_watchers_cells o_marked o_wasLived o_wasParsed o_faultKind o_faultPlace u41.2 o_fractionTop o_fractionBottom o_city_wage o_city_delay o_city_odds o_city_clock o_city_hasWeeks o_city_streets_corners o_city_watchers_many o_city_watchers_cells)) (n1 := 5) (ct_X11_refused l E a_o a_o_city a_o_ahead a_o_marks a_o_tape a_o_cityReader a_o_weeksReader a_o_trays a_o_planner a_o_ruler a_o_life a_o_latestLife o_marked o_wasLived o_wasParsed o_faultKind o_faultPlace o_latestStatus o_fractionTop o_fractionBottom (7 : Int32) u41 hu41) [0] cal_X11_refused cav_X11_refused lk_X11_100 cx hP hD hS hl dX11_post_41 rfl rfl rfl rfl (Nat.le_of_ble_eq_true rfl) ⟨Nat.le_of_ble_eq_true rfl, Nat.le_of_ble_eq_true rfl⟩ rfl (by decide +kernel) rfl [some 0, none, none, none, none] rfl (by decide +kernel) rfl (fun H locs hP hD hS => ?_)
        obtain ⟨hz, hf⟩ := ck hf
        obtain rfl := Option.some.inj hf
        subst hq
        exact retZ cx hz hP hD hS dX11_post_44
    · have hf := it_t hc hf
      exact hj16 _ _ _ _ _ hf hP hD hS (lv_sub hl [0] rfl)
def X11_scare_j18 (o_latestStatus : Int32) (o_city_watchers_many : Int32) (o_city_watchers_cells : Nat → Int32) : Option (Int32 × Int32 × (Nat → Int32)) :=
  (X11_refused o_latestStatus (1 : Int32)).bind fun u20 =>
  if isZ u20.1 then some (u20.1, u20.2, o_city_watchers_cells) else none
def X11_scare (o_latestStatus : Int32) (o_city_watchers_many : Int32) (o_city_watchers_cells : Nat → Int32) (v1 : Int32) (v2 : Int32) : Option (Int32 × Int32 × (Nat → Int32)) :=
  (X11_isWatcher o_city_watchers_many v1).bind fun u2 =>
  if u2 = 0 then
  X11_scare_j18 o_latestStatus o_city_watchers_many o_city_watchers_cells
  else
  (X11_within v2 (1 : Int32) (7 : Int32)).bind fun u12 =>
  if u12 = 0 then
  X11_scare_j18 o_latestStatus o_city_watchers_many o_city_watchers_cells
  else
  (X7_set 12 3 o_city_watchers_many o_city_watchers_cells v1 (1 : Int32) v2).bind fun u34 =>
  (X11_accepted o_latestStatus).bind fun u38 =>
  if isZ u38.1 then some (u38.1, u38.2, u34) else none
abbrev wd_X11_scare (E : vE) (a_o a_o_city a_o_ahead a_o_marks a_o_tape a_o_cityReader a_o_weeksReader a_o_trays a_o_planner a_o_ruler a_o_life a_o_latestLife a_o_city_streets a_o_city_names a_o_city_extras a_o_city_happenings a_o_city_watchers a_o_city_weeks a_o_city_watchers_cells : Nat) (o_marked : Int32) (o_wasLived : Int32) (o_wasParsed : Int32) (o_faultKind : Int32) (o_faultPlace : Int32) (o_latestStatus : Int32) (o_fractionTop : Int64) (o_fractionBottom : Int64) (o_city_wage : Int32) (o_city_delay : Int32) (o_city_odds : Int32) (o_city_clock : Int32) (o_city_hasWeeks : Int32) (o_city_watchers_many : Int32) (o_city_watchers_cells : Nat → Int32) : va_W := [(a_o, .inr (11, [.ref a_o_city, .ref a_o_ahead, .ref a_o_marks, .int o_marked, .ref a_o_tape, .ref a_o_cityReader, .ref a_o_weeksReader, .ref a_o_trays, .ref a_o_planner, .ref a_o_ruler, .ref a_o_life, .ref a_o_latestLife, .int o_wasLived, .int o_wasParsed, .int o_faultKind, .int o_faultPlace, .int o_latestStatus, .long o_fractionTop, .long o_fractionBottom])), (a_o_city, .inr (0, [.int o_city_wage, .int o_city_delay, .int o_city_odds, .int o_city_clock, .int o_city_hasWeeks, .ref a_o_city_streets, .ref a_o_city_names, .ref a_o_city_extras, .ref a_o_city_happenings, .ref a_o_city_watchers, .ref a_o_city_weeks])), (a_o_city_watchers, .inr (7, [.int 3, .ref a_o_city_watchers_cells, .int o_city_watchers_many])), (a_o_city_watchers_cells, .inl (E.2.1, 12, .inl o_city_watchers_cells))]
set_option maxHeartbeats 4000000 in
set_option maxRecDepth 100000 in
theorem ct_X11_scare (l : Launch) (E : vE) (a_o a_o_city a_o_ahead a_o_marks a_o_tape a_o_cityReader a_o_weeksReader a_o_trays a_o_planner a_o_ruler a_o_life a_o_latestLife a_o_city_streets a_o_city_names a_o_city_extras a_o_city_happenings a_o_city_watchers a_o_city_weeks a_o_city_watchers_cells : Nat) (o_marked : Int32) (o_wasLived : Int32) (o_wasParsed : Int32) (o_faultKind : Int32) (o_faultPlace : Int32) (o_latestStatus : Int32) (o_fractionTop : Int64) (o_fractionBottom : Int64) (o_city_wage : Int32) (o_city_delay : Int32) (o_city_odds : Int32) (o_city_clock : Int32) (o_city_hasWeeks : Int32) (o_city_watchers_many : Int32) (o_city_watchers_cells : Nat → Int32) (v1 : Int32) (v2 : Int32) (u : Int32 × Int32 × (Nat → Int32)) (hf : X11_scare o_latestStatus o_city_watchers_many o_city_watchers_cells v1 v2 = some u) :
    CtI l yX11_scare cX11_scare 3 (some .boolean) 2 E [.ref a_o, .int v1, .int v2] (wd_X11_scare E a_o a_o_city a_o_ahead a_o_marks a_o_tape a_o_cityReader a_o_weeksReader a_o_trays a_o_planner a_o_ruler a_o_life a_o_latestLife a_o_city_streets a_o_city_names a_o_city_extras a_o_city_happenings a_o_city_watchers a_o_city_weeks a_o_city_watchers_cells o_marked o_wasLived o_wasParsed o_faultKind o_faultPlace o_latestStatus o_fractionTop o_fractionBottom o_city_wage o_city_delay o_city_odds o_city_clock o_city_hasWeeks o_city_watchers_many o_city_watchers_cells) (wd_X11_scare E a_o a_o_city a_o_ahead a_o_marks a_o_tape a_o_cityReader a_o_weeksReader a_o_trays a_o_planner a_o_ruler a_o_life a_o_latestLife a_o_city_streets a_o_city_names a_o_city_extras a_o_city_happenings a_o_city_watchers a_o_city_weeks a_o_city_watchers_cells o_marked o_wasLived o_wasParsed o_faultKind o_faultPlace u.2.1 o_fractionTop o_fractionBottom o_city_wage o_city_delay o_city_odds o_city_clock o_city_hasWeeks o_city_watchers_many u.2.2) u.1 := by
  refine ctI (by decide) (Nat.le_of_ble_eq_true rfl) ?_
  intro p e s m below meth cd A ls aa QQ hq cx hP hD hS hl
  obtain ⟨⟨hx, hb, hml, hown, hts⟩, hr, hlocks, hK, hA, hX⟩ := id cx
  have hl : lv_has ls 3 [(0, .ref a_o), (1, .int v1), (2, .int v2)] := hl
  have hj18 : ∀ (o_latestStatus_j18 : Int32) (o_city_watchers_cells_j18 : Nat → Int32) (H : Heap) (locs : List Loc) (ls : Array Slot), X11_scare_j18 o_latestStatus_j18 o_city_watchers_many o_city_watchers_cells_j18 = some u → va_P E.1 vwCl (wd_X11_scare E a_o a_o_city a_o_ahead a_o_marks a_o_tape a_o_cityReader a_o_weeksReader a_o_trays a_o_planner a_o_ruler a_o_life a_o_latestLife a_o_city_streets a_o_city_names a_o_city_extras a_o_city_happenings a_o_city_watchers a_o_city_weeks a_o_city_watchers_cells o_marked o_wasLived o_wasParsed o_faultKind o_faultPlace o_latestStatus_j18 o_fractionTop o_fractionBottom o_city_wage o_city_delay o_city_odds o_city_clock o_city_hasWeeks o_city_watchers_many o_city_watchers_cells_j18) H → va_D A (wd_X11_scare E a_o a_o_city a_o_ahead a_o_marks a_o_tape a_o_cityReader a_o_weeksReader a_o_trays a_o_planner a_o_ruler a_o_life a_o_latestLife a_o_city_streets a_o_city_names a_o_city_extras a_o_city_happenings a_o_city_watchers a_o_city_weeks a_o_city_watchers_cells o_marked o_wasLived o_wasParsed o_faultKind o_faultPlace o_latestStatus_j18 o_fractionTop o_fractionBottom o_city_wage o_city_delay o_city_odds o_city_clock o_city_hasWeeks o_city_watchers_many o_city_watchers_cells_j18) → va_S A s.heap H locs → lv_has ls 3 [(0, .ref a_o)] → W p l e (rmd 2) s m aa below meth cd H locs 0 0 QQ (F0 m 18 ls []) := by
    intro o_latestStatus_j18 o_city_watchers_cells_j18 H locs ls hf hP hD hS hl
    unfold X11_scare_j18 at hf
    refine lv_aload_n hx hb dX11_scare_18 rfl (lv_at hl 0 rfl) ?_
    refine lv_iconst (v := 1) hx hb dX11_scare_19 (by decide) ?_
    obtain ⟨u20, hu20, hf⟩ := bd hf
    refine callVI (wn := (wd_X11_scare E a_o a_o_city a_o_ahead a_o_marks a_o_tape a_o_cityReader a_o_weeksReader a_o_trays a_o_planner a_o_ruler a_o_life a_o_latestLife a_o_city_streets a_o_city_names a_o_city_extras a_o_city_happenings a_o_city_watchers a_o_city_weeks a_o_city_watchers_cells o_marked o_wasLived o_wasParsed o_faultKind o_faultPlace u20.2 o_fractionTop o_fractionBottom o_city_wage o_city_delay o_city_odds o_city_clock o_city_hasWeeks o_city_watchers_many o_city_watchers_cells_j18)) (n1 := 4) (ct_X11_refused l E a_o a_o_city a_o_ahead a_o_marks a_o_tape a_o_cityReader a_o_weeksReader a_o_trays a_o_planner a_o_ruler a_o_life a_o_latestLife o_marked o_wasLived o_wasParsed o_faultKind o_faultPlace o_latestStatus_j18 o_fractionTop o_fractionBottom (1 : Int32) u20 hu20) [0] cal_X11_refused cav_X11_refused lk_X11_100 cx hP hD hS hl dX11_scare_20 rfl rfl rfl rfl (Nat.le_of_ble_eq_true rfl) ⟨Nat.le_of_ble_eq_true rfl, Nat.le_of_ble_eq_true rfl⟩ rfl (by decide +kernel) rfl [some 0, none, none, none] rfl (by decide +kernel) rfl (fun H locs hP hD hS => ?_)
    obtain ⟨hz, hf⟩ := ck hf
    obtain rfl := Option.some.inj hf
    subst hq
    exact retZ cx hz hP hD hS dX11_scare_23
  unfold X11_scare at hf
  refine lv_aload_n hx hb dX11_scare_0 rfl (lv_at hl 0 rfl) ?_
  refine lv_iload_n hx hb dX11_scare_1 rfl (lv_at hl 1 rfl) ?_
  obtain ⟨u2, hu2, hf⟩ := bd hf
  refine keepVI (ct_X11_isWatcher l E a_o a_o_city a_o_ahead a_o_marks a_o_tape a_o_cityReader a_o_weeksReader a_o_trays a_o_planner a_o_ruler a_o_life a_o_latestLife a_o_city_streets a_o_city_names a_o_city_extras a_o_city_happenings a_o_city_watchers a_o_city_weeks a_o_city_watchers_cells o_marked o_wasLived o_wasParsed o_faultKind o_faultPlace o_latestStatus o_fractionTop o_fractionBottom o_city_wage o_city_delay o_city_odds o_city_clock o_city_hasWeeks o_city_watchers_many v1 u2 hu2) [0, 1, 2] cal_X11_isWatcher cav_X11_isWatcher lk_X11_260 cx hP hD hS hl dX11_scare_2 rfl rfl rfl rfl (Nat.le_of_ble_eq_true rfl) ⟨Nat.le_of_ble_eq_true rfl, Nat.le_of_ble_eq_true rfl⟩ rfl (by decide) (fun H locs hP hS => ?_)
  refine lv_if_eq (tgt := 18) hx hb dX11_scare_5 (by decide) (fun hc => ?_) (fun hc => ?_)
  · have hf := it_t hc hf
    exact hj18 _ _ _ _ _ hf hP hD hS (lv_sub hl [0] rfl)
  · have hf := it_f hc hf
    refine lv_iload_n hx hb dX11_scare_8 rfl (lv_at hl 2 rfl) ?_
    refine lv_iconst (v := 1) hx hb dX11_scare_9 (by decide) ?_
    refine lv_bipush (v := 7) hx hb dX11_scare_10 (by decide) ?_
    obtain ⟨u12, hu12, hf⟩ := bd hf
    refine keepSI (ct_X11_within l E v2 (1 : Int32) (7 : Int32) u12 hu12) [] cal_X11_within sta_X11_within lk_X11_96 cx hP hD hS hl dX11_scare_12 rfl rfl (Nat.le_of_ble_eq_true rfl) ⟨Nat.le_of_ble_eq_true rfl, Nat.le_of_ble_eq_true rfl⟩ rfl (by decide) (fun H locs hP hS => ?_)
    refine lv_if_ne (tgt := 24) hx hb dX11_scare_15 (by decide) (fun hc => ?_) (fun hc => ?_)
    · have hf := it_f hc hf
      refine lv_aload_n hx hb dX11_scare_24 rfl (lv_at hl 0 rfl) ?_
      refine va_get (D := E.1) (ci := 11) (v := .ref a_o_city) (C := RX11) (T := TX11) (N := 19) hx hb hts inX11 hown hK hP 0 rfl rfl 0 (by decide) (hts _ fl_X11_10) (fun _ h9 => h9) rfl dX11_scare_25 ?_
      refine va_get (D := E.1) (ci := 0) (v := .ref a_o_city_watchers) (C := RX0) (T := TX0) (N := 11) hx hb hts inX0 hown hK hP 1 rfl rfl 9 (by decide) (hts _ fl_X11_216) (fun _ h9 => h9) rfl dX11_scare_28 ?_
      refine lv_iload_n hx hb dX11_scare_31 rfl (lv_at hl 1 rfl) ?_
      refine lv_iconst (v := 1) hx hb dX11_scare_32 (by decide) ?_
      refine lv_iload_n hx hb dX11_scare_33 rfl (lv_at hl 2 rfl) ?_
      obtain ⟨u34, hu34, hf⟩ := bd hf
      refine callVV (wn := (wd_X11_scare E a_o a_o_city a_o_ahead a_o_marks a_o_tape a_o_cityReader a_o_weeksReader a_o_trays a_o_planner a_o_ruler a_o_life a_o_latestLife a_o_city_streets a_o_city_names a_o_city_extras a_o_city_happenings a_o_city_watchers a_o_city_weeks a_o_city_watchers_cells o_marked o_wasLived o_wasParsed o_faultKind o_faultPlace o_latestStatus o_fractionTop o_fractionBottom o_city_wage o_city_delay o_city_odds o_city_clock o_city_hasWeeks o_city_watchers_many u34)) (n1 := 4) (ct_X7_set l E a_o_city_watchers a_o_city_watchers_cells 12 3 o_city_watchers_many o_city_watchers_cells v1 (1 : Int32) v2 u34 hu34) [2, 3] cal_X7_set cav_X7_set lk_X11_289 cx hP hD hS hl dX11_scare_34 rfl rfl rfl rfl (Nat.le_of_ble_eq_true rfl) ⟨Nat.le_of_ble_eq_true rfl, Nat.le_of_ble_eq_true rfl⟩ rfl (by decide +kernel) rfl [none, none, some 0, some 1] rfl (by decide +kernel) rfl (fun H locs hP hD hS => ?_)
      refine lv_aload_n hx hb dX11_scare_37 rfl (lv_at hl 0 rfl) ?_
      obtain ⟨u38, hu38, hf⟩ := bd hf
      refine callVI (wn := (wd_X11_scare E a_o a_o_city a_o_ahead a_o_marks a_o_tape a_o_cityReader a_o_weeksReader a_o_trays a_o_planner a_o_ruler a_o_life a_o_latestLife a_o_city_streets a_o_city_names a_o_city_extras a_o_city_happenings a_o_city_watchers a_o_city_weeks a_o_city_watchers_cells o_marked o_wasLived o_wasParsed o_faultKind o_faultPlace u38.2 o_fractionTop o_fractionBottom o_city_wage o_city_delay o_city_odds o_city_clock o_city_hasWeeks o_city_watchers_many u34)) (n1 := 4) (ct_X11_accepted l E a_o a_o_city a_o_ahead a_o_marks a_o_tape a_o_cityReader a_o_weeksReader a_o_trays a_o_planner a_o_ruler a_o_life a_o_latestLife o_marked o_wasLived o_wasParsed o_faultKind o_faultPlace o_latestStatus o_fractionTop o_fractionBottom u38 hu38) [0] cal_X11_accepted cav_X11_accepted lk_X11_107 cx hP hD hS hl dX11_scare_38 rfl rfl rfl rfl (Nat.le_of_ble_eq_true rfl) ⟨Nat.le_of_ble_eq_true rfl, Nat.le_of_ble_eq_true rfl⟩ rfl (by decide +kernel) rfl [some 0, none, none, none] rfl (by decide +kernel) rfl (fun H locs hP hD hS => ?_)
      obtain ⟨hz, hf⟩ := ck hf
      obtain rfl := Option.some.inj hf
      subst hq
      exact retZ cx hz hP hD hS dX11_scare_41
    · have hf := it_t hc hf
      exact hj18 _ _ _ _ _ hf hP hD hS (lv_sub hl [0] rfl)
def X11_rule_j86 (o_latestStatus : Int32) (o_city_wage : Int32) (o_city_delay : Int32) (o_city_odds : Int32) : Option (Int32 × Int32 × Int32 × Int32 × Int32) :=
  (X11_refused o_latestStatus (1 : Int32)).bind fun u88 =>
  if isZ u88.1 then some (u88.1, u88.2, o_city_wage, o_city_delay, o_city_odds) else none
def X11_rule_j57 (o_latestStatus : Int32) (o_city_wage : Int32) (o_city_delay : Int32) (o_city_odds : Int32) (v1 : Int32) (v2 : Int32) : Option (Int32 × Int32 × Int32 × Int32 × Int32) :=
  if v1 = 7 then
  (X11_within v2 (0 : Int32) (16 : Int32)).bind fun u67 =>
  if u67 = 0 then
  X11_rule_j86 o_latestStatus o_city_wage o_city_delay o_city_odds
  else
  (X11_accepted o_latestStatus).bind fun u82 =>
  if isZ u82.1 then some (u82.1, u82.2, o_city_wage, o_city_delay, v2) else none
  else
  X11_rule_j86 o_latestStatus o_city_wage o_city_delay o_city_odds
def X11_rule_j28 (o_latestStatus : Int32) (o_city_wage : Int32) (o_city_delay : Int32) (o_city_odds : Int32) (v1 : Int32) (v2 : Int32) : Option (Int32 × Int32 × Int32 × Int32 × Int32) :=
  if v1 = 6 then
  (X11_within v2 (1 : Int32) (24 : Int32)).bind fun u38 =>
  if u38 = 0 then
  X11_rule_j57 o_latestStatus o_city_wage o_city_delay o_city_odds v1 v2
  else
  (X11_accepted o_latestStatus).bind fun u53 =>
  if isZ u53.1 then some (u53.1, u53.2, o_city_wage, v2, o_city_odds) else none
  else
  X11_rule_j57 o_latestStatus o_city_wage o_city_delay o_city_odds v1 v2
def X11_rule (o_latestStatus : Int32) (o_city_wage : Int32) (o_city_delay : Int32) (o_city_odds : Int32) (v1 : Int32) (v2 : Int32) : Option (Int32 × Int32 × Int32 × Int32 × Int32) :=
  if v1 = 5 then
  (X11_within v2 (0 : Int32) (99 : Int32)).bind fun u9 =>
  if u9 = 0 then
  X11_rule_j28 o_latestStatus o_city_wage o_city_delay o_city_odds v1 v2
  else
  (X11_accepted o_latestStatus).bind fun u24 =>
  if isZ u24.1 then some (u24.1, u24.2, v2, o_city_delay, o_city_odds) else none
  else
  X11_rule_j28 o_latestStatus o_city_wage o_city_delay o_city_odds v1 v2
abbrev wd_X11_rule (E : vE) (a_o a_o_city a_o_ahead a_o_marks a_o_tape a_o_cityReader a_o_weeksReader a_o_trays a_o_planner a_o_ruler a_o_life a_o_latestLife a_o_city_streets a_o_city_names a_o_city_extras a_o_city_happenings a_o_city_watchers a_o_city_weeks : Nat) (o_marked : Int32) (o_wasLived : Int32) (o_wasParsed : Int32) (o_faultKind : Int32) (o_faultPlace : Int32) (o_latestStatus : Int32) (o_fractionTop : Int64) (o_fractionBottom : Int64) (o_city_wage : Int32) (o_city_delay : Int32) (o_city_odds : Int32) (o_city_clock : Int32) (o_city_hasWeeks : Int32) : va_W := [(a_o, .inr (11, [.ref a_o_city, .ref a_o_ahead, .ref a_o_marks, .int o_marked, .ref a_o_tape, .ref a_o_cityReader, .ref a_o_weeksReader, .ref a_o_trays, .ref a_o_planner, .ref a_o_ruler, .ref a_o_life, .ref a_o_latestLife, .int o_wasLived, .int o_wasParsed, .int o_faultKind, .int o_faultPlace, .int o_latestStatus, .long o_fractionTop, .long o_fractionBottom])), (a_o_city, .inr (0, [.int o_city_wage, .int o_city_delay, .int o_city_odds, .int o_city_clock, .int o_city_hasWeeks, .ref a_o_city_streets, .ref a_o_city_names, .ref a_o_city_extras, .ref a_o_city_happenings, .ref a_o_city_watchers, .ref a_o_city_weeks]))]
set_option maxHeartbeats 4000000 in
set_option maxRecDepth 100000 in
theorem ct_X11_rule (l : Launch) (E : vE) (a_o a_o_city a_o_ahead a_o_marks a_o_tape a_o_cityReader a_o_weeksReader a_o_trays a_o_planner a_o_ruler a_o_life a_o_latestLife a_o_city_streets a_o_city_names a_o_city_extras a_o_city_happenings a_o_city_watchers a_o_city_weeks : Nat) (o_marked : Int32) (o_wasLived : Int32) (o_wasParsed : Int32) (o_faultKind : Int32) (o_faultPlace : Int32) (o_latestStatus : Int32) (o_fractionTop : Int64) (o_fractionBottom : Int64) (o_city_wage : Int32) (o_city_delay : Int32) (o_city_odds : Int32) (o_city_clock : Int32) (o_city_hasWeeks : Int32) (v1 : Int32) (v2 : Int32) (u : Int32 × Int32 × Int32 × Int32 × Int32) (hf : X11_rule o_latestStatus o_city_wage o_city_delay o_city_odds v1 v2 = some u) :
    CtI l yX11_rule cX11_rule 3 (some .boolean) 1 E [.ref a_o, .int v1, .int v2] (wd_X11_rule E a_o a_o_city a_o_ahead a_o_marks a_o_tape a_o_cityReader a_o_weeksReader a_o_trays a_o_planner a_o_ruler a_o_life a_o_latestLife a_o_city_streets a_o_city_names a_o_city_extras a_o_city_happenings a_o_city_watchers a_o_city_weeks o_marked o_wasLived o_wasParsed o_faultKind o_faultPlace o_latestStatus o_fractionTop o_fractionBottom o_city_wage o_city_delay o_city_odds o_city_clock o_city_hasWeeks) (wd_X11_rule E a_o a_o_city a_o_ahead a_o_marks a_o_tape a_o_cityReader a_o_weeksReader a_o_trays a_o_planner a_o_ruler a_o_life a_o_latestLife a_o_city_streets a_o_city_names a_o_city_extras a_o_city_happenings a_o_city_watchers a_o_city_weeks o_marked o_wasLived o_wasParsed o_faultKind o_faultPlace u.2.1 o_fractionTop o_fractionBottom u.2.2.1 u.2.2.2.1 u.2.2.2.2 o_city_clock o_city_hasWeeks) u.1 := by
  refine ctI (by decide) (Nat.le_of_ble_eq_true rfl) ?_
  intro p e s m below meth cd A ls aa QQ hq cx hP hD hS hl
  obtain ⟨⟨hx, hb, hml, hown, hts⟩, hr, hlocks, hK, hA, hX⟩ := id cx
  have hl : lv_has ls 3 [(0, .ref a_o), (1, .int v1), (2, .int v2)] := hl
  have hj86 : ∀ (o_latestStatus_j86 : Int32) (o_city_wage_j86 : Int32) (o_city_delay_j86 : Int32) (o_city_odds_j86 : Int32) (H : Heap) (locs : List Loc) (ls : Array Slot), X11_rule_j86 o_latestStatus_j86 o_city_wage_j86 o_city_delay_j86 o_city_odds_j86 = some u → va_P E.1 vwCl (wd_X11_rule E a_o a_o_city a_o_ahead a_o_marks a_o_tape a_o_cityReader a_o_weeksReader a_o_trays a_o_planner a_o_ruler a_o_life a_o_latestLife a_o_city_streets a_o_city_names a_o_city_extras a_o_city_happenings a_o_city_watchers a_o_city_weeks o_marked o_wasLived o_wasParsed o_faultKind o_faultPlace o_latestStatus_j86 o_fractionTop o_fractionBottom o_city_wage_j86 o_city_delay_j86 o_city_odds_j86 o_city_clock o_city_hasWeeks) H → va_D A (wd_X11_rule E a_o a_o_city a_o_ahead a_o_marks a_o_tape a_o_cityReader a_o_weeksReader a_o_trays a_o_planner a_o_ruler a_o_life a_o_latestLife a_o_city_streets a_o_city_names a_o_city_extras a_o_city_happenings a_o_city_watchers a_o_city_weeks o_marked o_wasLived o_wasParsed o_faultKind o_faultPlace o_latestStatus_j86 o_fractionTop o_fractionBottom o_city_wage_j86 o_city_delay_j86 o_city_odds_j86 o_city_clock o_city_hasWeeks) → va_S A s.heap H locs → lv_has ls 3 [(0, .ref a_o)] → W p l e (rmd 1) s m aa below meth cd H locs 0 0 QQ (F0 m 86 ls []) := by
    intro o_latestStatus_j86 o_city_wage_j86 o_city_delay_j86 o_city_odds_j86 H locs ls hf hP hD hS hl
    unfold X11_rule_j86 at hf
    refine lv_aload_n hx hb dX11_rule_86 rfl (lv_at hl 0 rfl) ?_
    refine lv_iconst (v := 1) hx hb dX11_rule_87 (by decide) ?_
    obtain ⟨u88, hu88, hf⟩ := bd hf
    refine callVI (wn := (wd_X11_rule E a_o a_o_city a_o_ahead a_o_marks a_o_tape a_o_cityReader a_o_weeksReader a_o_trays a_o_planner a_o_ruler a_o_life a_o_latestLife a_o_city_streets a_o_city_names a_o_city_extras a_o_city_happenings a_o_city_watchers a_o_city_weeks o_marked o_wasLived o_wasParsed o_faultKind o_faultPlace u88.2 o_fractionTop o_fractionBottom o_city_wage_j86 o_city_delay_j86 o_city_odds_j86 o_city_clock o_city_hasWeeks)) (n1 := 2) (ct_X11_refused l E a_o a_o_city a_o_ahead a_o_marks a_o_tape a_o_cityReader a_o_weeksReader a_o_trays a_o_planner a_o_ruler a_o_life a_o_latestLife o_marked o_wasLived o_wasParsed o_faultKind o_faultPlace o_latestStatus_j86 o_fractionTop o_fractionBottom (1 : Int32) u88 hu88) [0] cal_X11_refused cav_X11_refused lk_X11_100 cx hP hD hS hl dX11_rule_88 rfl rfl rfl rfl (Nat.le_of_ble_eq_true rfl) ⟨Nat.le_of_ble_eq_true rfl, Nat.le_of_ble_eq_true rfl⟩ rfl (by decide +kernel) rfl [some 0, none] rfl (by decide +kernel) rfl (fun H locs hP hD hS => ?_)
    obtain ⟨hz, hf⟩ := ck hf
    obtain rfl := Option.some.inj hf
    subst hq
    exact retZ cx hz hP hD hS dX11_rule_91
  have hj57 : ∀ (o_latestStatus_j57 : Int32) (o_city_wage_j57 : Int32) (o_city_delay_j57 : Int32) (o_city_odds_j57 : Int32) (H : Heap) (locs : List Loc) (ls : Array Slot), X11_rule_j57 o_latestStatus_j57 o_city_wage_j57 o_city_delay_j57 o_city_odds_j57 v1 v2 = some u → va_P E.1 vwCl (wd_X11_rule E a_o a_o_city a_o_ahead a_o_marks a_o_tape a_o_cityReader a_o_weeksReader a_o_trays a_o_planner a_o_ruler a_o_life a_o_latestLife a_o_city_streets a_o_city_names a_o_city_extras a_o_city_happenings a_o_city_watchers a_o_city_weeks o_marked o_wasLived o_wasParsed o_faultKind o_faultPlace o_latestStatus_j57 o_fractionTop o_fractionBottom o_city_wage_j57 o_city_delay_j57 o_city_odds_j57 o_city_clock o_city_hasWeeks) H → va_D A (wd_X11_rule E a_o a_o_city a_o_ahead a_o_marks a_o_tape a_o_cityReader a_o_weeksReader a_o_trays a_o_planner a_o_ruler a_o_life a_o_latestLife a_o_city_streets a_o_city_names a_o_city_extras a_o_city_happenings a_o_city_watchers a_o_city_weeks o_marked o_wasLived o_wasParsed o_faultKind o_faultPlace o_latestStatus_j57 o_fractionTop o_fractionBottom o_city_wage_j57 o_city_delay_j57 o_city_odds_j57 o_city_clock o_city_hasWeeks) → va_S A s.heap H locs → lv_has ls 3 [(0, .ref a_o), (1, .int v1), (2, .int v2)] → W p l e (rmd 1) s m aa below meth cd H locs 0 0 QQ (F0 m 57 ls []) := by
    intro o_latestStatus_j57 o_city_wage_j57 o_city_delay_j57 o_city_odds_j57 H locs ls hf hP hD hS hl
    unfold X11_rule_j57 at hf
    refine lv_iload_n hx hb dX11_rule_57 rfl (lv_at hl 1 rfl) ?_
    refine lv_bipush (v := 7) hx hb dX11_rule_58 (by decide) ?_
    refine lv_icmp_ne (tgt := 86) hx hb dX11_rule_60 (by decide) (fun hc => ?_) (fun hc => ?_)
    · have hf := it_f hc hf
      exact hj86 _ _ _ _ _ _ _ hf hP hD hS (lv_sub hl [0] rfl)
    · have hf := it_t hc hf
      refine lv_iload_n hx hb dX11_rule_63 rfl (lv_at hl 2 rfl) ?_
      refine lv_iconst (v := 0) hx hb dX11_rule_64 (by decide) ?_
      refine lv_bipush (v := 16) hx hb dX11_rule_65 (by decide) ?_
      obtain ⟨u67, hu67, hf⟩ := bd hf
      refine keepSI (ct_X11_within l E v2 (0 : Int32) (16 : Int32) u67 hu67) [] cal_X11_within sta_X11_within lk_X11_96 cx hP hD hS hl dX11_rule_67 rfl rfl (Nat.le_of_ble_eq_true rfl) ⟨Nat.le_of_ble_eq_true rfl, Nat.le_of_ble_eq_true rfl⟩ rfl (by decide) (fun H locs hP hS => ?_)
      refine lv_if_eq (tgt := 86) hx hb dX11_rule_70 (by decide) (fun hc => ?_) (fun hc => ?_)
      · have hf := it_t hc hf
        exact hj86 _ _ _ _ _ _ _ hf hP hD hS (lv_sub hl [0] rfl)
      · have hf := it_f hc hf
        refine lv_aload_n hx hb dX11_rule_73 rfl (lv_at hl 0 rfl) ?_
        refine va_get (D := E.1) (ci := 11) (v := .ref a_o_city) (C := RX11) (T := TX11) (N := 19) hx hb hts inX11 hown hK hP 0 rfl rfl 0 (by decide) (hts _ fl_X11_10) (fun _ h9 => h9) rfl dX11_rule_74 ?_
        refine lv_iload_n hx hb dX11_rule_77 rfl (lv_at hl 2 rfl) ?_
        refine va_put (D := E.1) (ci := 0) (v := .int v2) (ty := .int) (C := RX0) (T := TX0) (N := 11) hx hb hts inX0 tyX0 tyX0_ok nmX0 hown hK hP hD hS 1 rfl rfl 2 (by decide) (hts _ fl_X11_225) (fun _ h9 => h9) rfl (by decide +kernel) rfl rfl (Nat.le_of_ble_eq_true rfl) dX11_rule_78 (fun H locs hP hD hS => ?_)
        have hP : va_P E.1 vwCl (wd_X11_rule E a_o a_o_city a_o_ahead a_o_marks a_o_tape a_o_cityReader a_o_weeksReader a_o_trays a_o_planner a_o_ruler a_o_life a_o_latestLife a_o_city_streets a_o_city_names a_o_city_extras a_o_city_happenings a_o_city_watchers a_o_city_weeks o_marked o_wasLived o_wasParsed o_faultKind o_faultPlace o_latestStatus_j57 o_fractionTop o_fractionBottom o_city_wage_j57 o_city_delay_j57 v2 o_city_clock o_city_hasWeeks) H := hP
        have hD : va_D A (wd_X11_rule E a_o a_o_city a_o_ahead a_o_marks a_o_tape a_o_cityReader a_o_weeksReader a_o_trays a_o_planner a_o_ruler a_o_life a_o_latestLife a_o_city_streets a_o_city_names a_o_city_extras a_o_city_happenings a_o_city_watchers a_o_city_weeks o_marked o_wasLived o_wasParsed o_faultKind o_faultPlace o_latestStatus_j57 o_fractionTop o_fractionBottom o_city_wage_j57 o_city_delay_j57 v2 o_city_clock o_city_hasWeeks) := hD
        refine lv_aload_n hx hb dX11_rule_81 rfl (lv_at hl 0 rfl) ?_
        obtain ⟨u82, hu82, hf⟩ := bd hf
        refine callVI (wn := (wd_X11_rule E a_o a_o_city a_o_ahead a_o_marks a_o_tape a_o_cityReader a_o_weeksReader a_o_trays a_o_planner a_o_ruler a_o_life a_o_latestLife a_o_city_streets a_o_city_names a_o_city_extras a_o_city_happenings a_o_city_watchers a_o_city_weeks o_marked o_wasLived o_wasParsed o_faultKind o_faultPlace u82.2 o_fractionTop o_fractionBottom o_city_wage_j57 o_city_delay_j57 v2 o_city_clock o_city_hasWeeks)) (n1 := 2) (ct_X11_accepted l E a_o a_o_city a_o_ahead a_o_marks a_o_tape a_o_cityReader a_o_weeksReader a_o_trays a_o_planner a_o_ruler a_o_life a_o_latestLife o_marked o_wasLived o_wasParsed o_faultKind o_faultPlace o_latestStatus_j57 o_fractionTop o_fractionBottom u82 hu82) [0] cal_X11_accepted cav_X11_accepted lk_X11_107 cx hP hD hS hl dX11_rule_82 rfl rfl rfl rfl (Nat.le_of_ble_eq_true rfl) ⟨Nat.le_of_ble_eq_true rfl, Nat.le_of_ble_eq_true rfl⟩ rfl (by decide +kernel) rfl [some 0, none] rfl (by decide +kernel) rfl (fun H locs hP hD hS => ?_)
        obtain ⟨hz, hf⟩ := ck hf
        obtain rfl := Option.some.inj hf
        subst hq
        exact retZ cx hz hP hD hS dX11_rule_85
  have hj28 : ∀ (o_latestStatus_j28 : Int32) (o_city_wage_j28 : Int32) (o_city_delay_j28 : Int32) (o_city_odds_j28 : Int32) (H : Heap) (locs : List Loc) (ls : Array Slot), X11_rule_j28 o_latestStatus_j28 o_city_wage_j28 o_city_delay_j28 o_city_odds_j28 v1 v2 = some u → va_P E.1 vwCl (wd_X11_rule E a_o a_o_city a_o_ahead a_o_marks a_o_tape a_o_cityReader a_o_weeksReader a_o_trays a_o_planner a_o_ruler a_o_life a_o_latestLife a_o_city_streets a_o_city_names a_o_city_extras a_o_city_happenings a_o_city_watchers a_o_city_weeks o_marked o_wasLived o_wasParsed o_faultKind o_faultPlace o_latestStatus_j28 o_fractionTop o_fractionBottom o_city_wage_j28 o_city_delay_j28 o_city_odds_j28 o_city_clock o_city_hasWeeks) H → va_D A (wd_X11_rule E a_o a_o_city a_o_ahead a_o_marks a_o_tape a_o_cityReader a_o_weeksReader a_o_trays a_o_planner a_o_ruler a_o_life a_o_latestLife a_o_city_streets a_o_city_names a_o_city_extras a_o_city_happenings a_o_city_watchers a_o_city_weeks o_marked o_wasLived o_wasParsed o_faultKind o_faultPlace o_latestStatus_j28 o_fractionTop o_fractionBottom o_city_wage_j28 o_city_delay_j28 o_city_odds_j28 o_city_clock o_city_hasWeeks) → va_S A s.heap H locs → lv_has ls 3 [(0, .ref a_o), (1, .int v1), (2, .int v2)] → W p l e (rmd 1) s m aa below meth cd H locs 0 0 QQ (F0 m 28 ls []) := by
    intro o_latestStatus_j28 o_city_wage_j28 o_city_delay_j28 o_city_odds_j28 H locs ls hf hP hD hS hl
    unfold X11_rule_j28 at hf
    refine lv_iload_n hx hb dX11_rule_28 rfl (lv_at hl 1 rfl) ?_
    refine lv_bipush (v := 6) hx hb dX11_rule_29 (by decide) ?_
    refine lv_icmp_ne (tgt := 57) hx hb dX11_rule_31 (by decide) (fun hc => ?_) (fun hc => ?_)
    · have hf := it_f hc hf
      exact hj57 _ _ _ _ _ _ _ hf hP hD hS (lv_sub hl [0, 1, 2] rfl)
    · have hf := it_t hc hf
      refine lv_iload_n hx hb dX11_rule_34 rfl (lv_at hl 2 rfl) ?_
      refine lv_iconst (v := 1) hx hb dX11_rule_35 (by decide) ?_
      refine lv_bipush (v := 24) hx hb dX11_rule_36 (by decide) ?_
      obtain ⟨u38, hu38, hf⟩ := bd hf
      refine keepSI (ct_X11_within l E v2 (1 : Int32) (24 : Int32) u38 hu38) [] cal_X11_within sta_X11_within lk_X11_96 cx hP hD hS hl dX11_rule_38 rfl rfl (Nat.le_of_ble_eq_true rfl) ⟨Nat.le_of_ble_eq_true rfl, Nat.le_of_ble_eq_true rfl⟩ rfl (by decide) (fun H locs hP hS => ?_)
      refine lv_if_eq (tgt := 57) hx hb dX11_rule_41 (by decide) (fun hc => ?_) (fun hc => ?_)
      · have hf := it_t hc hf
        exact hj57 _ _ _ _ _ _ _ hf hP hD hS (lv_sub hl [0, 1, 2] rfl)
      · have hf := it_f hc hf
        refine lv_aload_n hx hb dX11_rule_44 rfl (lv_at hl 0 rfl) ?_
        refine va_get (D := E.1) (ci := 11) (v := .ref a_o_city) (C := RX11) (T := TX11) (N := 19) hx hb hts inX11 hown hK hP 0 rfl rfl 0 (by decide) (hts _ fl_X11_10) (fun _ h9 => h9) rfl dX11_rule_45 ?_
        refine lv_iload_n hx hb dX11_rule_48 rfl (lv_at hl 2 rfl) ?_
        refine va_put (D := E.1) (ci := 0) (v := .int v2) (ty := .int) (C := RX0) (T := TX0) (N := 11) hx hb hts inX0 tyX0 tyX0_ok nmX0 hown hK hP hD hS 1 rfl rfl 1 (by decide) (hts _ fl_X11_222) (fun _ h9 => h9) rfl (by decide +kernel) rfl rfl (Nat.le_of_ble_eq_true rfl) dX11_rule_49 (fun H locs hP hD hS => ?_)
        have hP : va_P E.1 vwCl (wd_X11_rule E a_o a_o_city a_o_ahead a_o_marks a_o_tape a_o_cityReader a_o_weeksReader a_o_trays a_o_planner a_o_ruler a_o_life a_o_latestLife a_o_city_streets a_o_city_names a_o_city_extras a_o_city_happenings a_o_city_watchers a_o_city_weeks o_marked o_wasLived o_wasParsed o_faultKind o_faultPlace o_latestStatus_j28 o_fractionTop o_fractionBottom o_city_wage_j28 v2 o_city_odds_j28 o_city_clock o_city_hasWeeks) H := hP
        have hD : va_D A (wd_X11_rule E a_o a_o_city a_o_ahead a_o_marks a_o_tape a_o_cityReader a_o_weeksReader a_o_trays a_o_planner a_o_ruler a_o_life a_o_latestLife a_o_city_streets a_o_city_names a_o_city_extras a_o_city_happenings a_o_city_watchers a_o_city_weeks o_marked o_wasLived o_wasParsed o_faultKind o_faultPlace o_latestStatus_j28 o_fractionTop o_fractionBottom o_city_wage_j28 v2 o_city_odds_j28 o_city_clock o_city_hasWeeks) := hD
        refine lv_aload_n hx hb dX11_rule_52 rfl (lv_at hl 0 rfl) ?_
        obtain ⟨u53, hu53, hf⟩ := bd hf
        refine callVI (wn := (wd_X11_rule E a_o a_o_city a_o_ahead a_o_marks a_o_tape a_o_cityReader a_o_weeksReader a_o_trays a_o_planner a_o_ruler a_o_life a_o_latestLife a_o_city_streets a_o_city_names a_o_city_extras a_o_city_happenings a_o_city_watchers a_o_city_weeks o_marked o_wasLived o_wasParsed o_faultKind o_faultPlace u53.2 o_fractionTop o_fractionBottom o_city_wage_j28 v2 o_city_odds_j28 o_city_clock o_city_hasWeeks)) (n1 := 2) (ct_X11_accepted l E a_o a_o_city a_o_ahead a_o_marks a_o_tape a_o_cityReader a_o_weeksReader a_o_trays a_o_planner a_o_ruler a_o_life a_o_latestLife o_marked o_wasLived o_wasParsed o_faultKind o_faultPlace o_latestStatus_j28 o_fractionTop o_fractionBottom u53 hu53) [0] cal_X11_accepted cav_X11_accepted lk_X11_107 cx hP hD hS hl dX11_rule_53 rfl rfl rfl rfl (Nat.le_of_ble_eq_true rfl) ⟨Nat.le_of_ble_eq_true rfl, Nat.le_of_ble_eq_true rfl⟩ rfl (by decide +kernel) rfl [some 0, none] rfl (by decide +kernel) rfl (fun H locs hP hD hS => ?_)
        obtain ⟨hz, hf⟩ := ck hf
        obtain rfl := Option.some.inj hf
        subst hq
        exact retZ cx hz hP hD hS dX11_rule_56
  unfold X11_rule at hf
  refine lv_iload_n hx hb dX11_rule_0 rfl (lv_at hl 1 rfl) ?_
  refine lv_iconst (v := 5) hx hb dX11_rule_1 (by decide) ?_
  refine lv_icmp_ne (tgt := 28) hx hb dX11_rule_2 (by decide) (fun hc => ?_) (fun hc => ?_)
  · have hf := it_f hc hf
    exact hj28 _ _ _ _ _ _ _ hf hP hD hS (lv_sub hl [0, 1, 2] rfl)
  · have hf := it_t hc hf
    refine lv_iload_n hx hb dX11_rule_5 rfl (lv_at hl 2 rfl) ?_
    refine lv_iconst (v := 0) hx hb dX11_rule_6 (by decide) ?_
    refine lv_bipush (v := 99) hx hb dX11_rule_7 (by decide) ?_
    obtain ⟨u9, hu9, hf⟩ := bd hf
    refine keepSI (ct_X11_within l E v2 (0 : Int32) (99 : Int32) u9 hu9) [] cal_X11_within sta_X11_within lk_X11_96 cx hP hD hS hl dX11_rule_9 rfl rfl (Nat.le_of_ble_eq_true rfl) ⟨Nat.le_of_ble_eq_true rfl, Nat.le_of_ble_eq_true rfl⟩ rfl (by decide) (fun H locs hP hS => ?_)
    refine lv_if_eq (tgt := 28) hx hb dX11_rule_12 (by decide) (fun hc => ?_) (fun hc => ?_)
    · have hf := it_t hc hf
      exact hj28 _ _ _ _ _ _ _ hf hP hD hS (lv_sub hl [0, 1, 2] rfl)
    · have hf := it_f hc hf
      refine lv_aload_n hx hb dX11_rule_15 rfl (lv_at hl 0 rfl) ?_
      refine va_get (D := E.1) (ci := 11) (v := .ref a_o_city) (C := RX11) (T := TX11) (N := 19) hx hb hts inX11 hown hK hP 0 rfl rfl 0 (by decide) (hts _ fl_X11_10) (fun _ h9 => h9) rfl dX11_rule_16 ?_
      refine lv_iload_n hx hb dX11_rule_19 rfl (lv_at hl 2 rfl) ?_
      refine va_put (D := E.1) (ci := 0) (v := .int v2) (ty := .int) (C := RX0) (T := TX0) (N := 11) hx hb hts inX0 tyX0 tyX0_ok nmX0 hown hK hP hD hS 1 rfl rfl 0 (by decide) (hts _ fl_X11_219) (fun _ h9 => h9) rfl (by decide +kernel) rfl rfl (Nat.le_of_ble_eq_true rfl) dX11_rule_20 (fun H locs hP hD hS => ?_)
      have hP : va_P E.1 vwCl (wd_X11_rule E a_o a_o_city a_o_ahead a_o_marks a_o_tape a_o_cityReader a_o_weeksReader a_o_trays a_o_planner a_o_ruler a_o_life a_o_latestLife a_o_city_streets a_o_city_names a_o_city_extras a_o_city_happenings a_o_city_watchers a_o_city_weeks o_marked o_wasLived o_wasParsed o_faultKind o_faultPlace o_latestStatus o_fractionTop o_fractionBottom v2 o_city_delay o_city_odds o_city_clock o_city_hasWeeks) H := hP
      have hD : va_D A (wd_X11_rule E a_o a_o_city a_o_ahead a_o_marks a_o_tape a_o_cityReader a_o_weeksReader a_o_trays a_o_planner a_o_ruler a_o_life a_o_latestLife a_o_city_streets a_o_city_names a_o_city_extras a_o_city_happenings a_o_city_watchers a_o_city_weeks o_marked o_wasLived o_wasParsed o_faultKind o_faultPlace o_latestStatus o_fractionTop o_fractionBottom v2 o_city_delay o_city_odds o_city_clock o_city_hasWeeks) := hD
      refine lv_aload_n hx hb dX11_rule_23 rfl (lv_at hl 0 rfl) ?_
      obtain ⟨u24, hu24, hf⟩ := bd hf
      refine callVI (wn := (wd_X11_rule E a_o a_o_city a_o_ahead a_o_marks a_o_tape a_o_cityReader a_o_weeksReader a_o_trays a_o_planner a_o_ruler a_o_life a_o_latestLife a_o_city_streets a_o_city_names a_o_city_extras a_o_city_happenings a_o_city_watchers a_o_city_weeks o_marked o_wasLived o_wasParsed o_faultKind o_faultPlace u24.2 o_fractionTop o_fractionBottom v2 o_city_delay o_city_odds o_city_clock o_city_hasWeeks)) (n1 := 2) (ct_X11_accepted l E a_o a_o_city a_o_ahead a_o_marks a_o_tape a_o_cityReader a_o_weeksReader a_o_trays a_o_planner a_o_ruler a_o_life a_o_latestLife o_marked o_wasLived o_wasParsed o_faultKind o_faultPlace o_latestStatus o_fractionTop o_fractionBottom u24 hu24) [0] cal_X11_accepted cav_X11_accepted lk_X11_107 cx hP hD hS hl dX11_rule_24 rfl rfl rfl rfl (Nat.le_of_ble_eq_true rfl) ⟨Nat.le_of_ble_eq_true rfl, Nat.le_of_ble_eq_true rfl⟩ rfl (by decide +kernel) rfl [some 0, none] rfl (by decide +kernel) rfl (fun H locs hP hD hS => ?_)
      obtain ⟨hz, hf⟩ := ck hf
      obtain rfl := Option.some.inj hf
      subst hq
      exact retZ cx hz hP hD hS dX11_rule_27
def X11_far_j16 (o_latestStatus : Int32) (o_city_streets_corners : Int32) (o_city_streets_hours : Nat → Int32) : Option (Int32 × Int32) :=
  (X11_none o_latestStatus (1 : Int32)).bind fun u18 =>
  some (u18.1, u18.2)
def X11_far (o_latestStatus : Int32) (o_city_streets_corners : Int32) (o_city_streets_hours : Nat → Int32) (v1 : Int32) (v2 : Int32) : Option (Int32 × Int32) :=
  (X11_isCorner o_city_streets_corners v1).bind fun u2 =>
  if u2 = 0 then
  X11_far_j16 o_latestStatus o_city_streets_corners o_city_streets_hours
  else
  (X11_isCorner o_city_streets_corners v2).bind fun u10 =>
  if u10 = 0 then
  X11_far_j16 o_latestStatus o_city_streets_corners o_city_streets_hours
  else
  (X6_hoursBetween o_city_streets_hours v1 v2).bind fun u31 =>
  if u31 = (-1) then
  (X11_none o_latestStatus (6 : Int32)).bind fun u43 =>
  some (u43.1, u43.2)
  else
  (X11_answer o_latestStatus u31).bind fun u51 =>
  some (u51.1, u51.2)
abbrev wd_X11_far (E : vE) (a_o a_o_city a_o_ahead a_o_marks a_o_tape a_o_cityReader a_o_weeksReader a_o_trays a_o_planner a_o_ruler a_o_life a_o_latestLife a_o_city_streets a_o_city_names a_o_city_extras a_o_city_happenings a_o_city_watchers a_o_city_weeks a_o_city_streets_roads a_o_city_streets_takes a_o_city_streets_hours : Nat) (o_marked : Int32) (o_wasLived : Int32) (o_wasParsed : Int32) (o_faultKind : Int32) (o_faultPlace : Int32) (o_latestStatus : Int32) (o_fractionTop : Int64) (o_fractionBottom : Int64) (o_city_wage : Int32) (o_city_delay : Int32) (o_city_odds : Int32) (o_city_clock : Int32) (o_city_hasWeeks : Int32) (o_city_streets_corners : Int32) (o_city_streets_hours : Nat → Int32) : va_W := [(a_o, .inr (11, [.ref a_o_city, .ref a_o_ahead, .ref a_o_marks, .int o_marked, .ref a_o_tape, .ref a_o_cityReader, .ref a_o_weeksReader, .ref a_o_trays, .ref a_o_planner, .ref a_o_ruler, .ref a_o_life, .ref a_o_latestLife, .int o_wasLived, .int o_wasParsed, .int o_faultKind, .int o_faultPlace, .int o_latestStatus, .long o_fractionTop, .long o_fractionBottom])), (a_o_city, .inr (0, [.int o_city_wage, .int o_city_delay, .int o_city_odds, .int o_city_clock, .int o_city_hasWeeks, .ref a_o_city_streets, .ref a_o_city_names, .ref a_o_city_extras, .ref a_o_city_happenings, .ref a_o_city_watchers, .ref a_o_city_weeks])), (a_o_city_streets, .inr (6, [.int o_city_streets_corners, .ref a_o_city_streets_roads, .ref a_o_city_streets_takes, .ref a_o_city_streets_hours])), (a_o_city_streets_hours, .inl (E.2.1, 64, .inl o_city_streets_hours))]
set_option maxHeartbeats 4000000 in
set_option maxRecDepth 100000 in
theorem ct_X11_far (l : Launch) (E : vE) (a_o a_o_city a_o_ahead a_o_marks a_o_tape a_o_cityReader a_o_weeksReader a_o_trays a_o_planner a_o_ruler a_o_life a_o_latestLife a_o_city_streets a_o_city_names a_o_city_extras a_o_city_happenings a_o_city_watchers a_o_city_weeks a_o_city_streets_roads a_o_city_streets_takes a_o_city_streets_hours : Nat) (o_marked : Int32) (o_wasLived : Int32) (o_wasParsed : Int32) (o_faultKind : Int32) (o_faultPlace : Int32) (o_latestStatus : Int32) (o_fractionTop : Int64) (o_fractionBottom : Int64) (o_city_wage : Int32) (o_city_delay : Int32) (o_city_odds : Int32) (o_city_clock : Int32) (o_city_hasWeeks : Int32) (o_city_streets_corners : Int32) (o_city_streets_hours : Nat → Int32) (v1 : Int32) (v2 : Int32) (u : Int32 × Int32) (hf : X11_far o_latestStatus o_city_streets_corners o_city_streets_hours v1 v2 = some u) :
    CtI l yX11_far cX11_far 4 (some .int) 2 E [.ref a_o, .int v1, .int v2] (wd_X11_far E a_o a_o_city a_o_ahead a_o_marks a_o_tape a_o_cityReader a_o_weeksReader a_o_trays a_o_planner a_o_ruler a_o_life a_o_latestLife a_o_city_streets a_o_city_names a_o_city_extras a_o_city_happenings a_o_city_watchers a_o_city_weeks a_o_city_streets_roads a_o_city_streets_takes a_o_city_streets_hours o_marked o_wasLived o_wasParsed o_faultKind o_faultPlace o_latestStatus o_fractionTop o_fractionBottom o_city_wage o_city_delay o_city_odds o_city_clock o_city_hasWeeks o_city_streets_corners o_city_streets_hours) (wd_X11_far E a_o a_o_city a_o_ahead a_o_marks a_o_tape a_o_cityReader a_o_weeksReader a_o_trays a_o_planner a_o_ruler a_o_life a_o_latestLife a_o_city_streets a_o_city_names a_o_city_extras a_o_city_happenings a_o_city_watchers a_o_city_weeks a_o_city_streets_roads a_o_city_streets_takes a_o_city_streets_hours o_marked o_wasLived o_wasParsed o_faultKind o_faultPlace u.2 o_fractionTop o_fractionBottom o_city_wage o_city_delay o_city_odds o_city_clock o_city_hasWeeks o_city_streets_corners o_city_streets_hours) u.1 := by
  refine ctI (by decide) (Nat.le_of_ble_eq_true rfl) ?_
  intro p e s m below meth cd A ls aa QQ hq cx hP hD hS hl
  obtain ⟨⟨hx, hb, hml, hown, hts⟩, hr, hlocks, hK, hA, hX⟩ := id cx
  have hl : lv_has ls 4 [(0, .ref a_o), (1, .int v1), (2, .int v2)] := hl
  have hj16 : ∀ (o_latestStatus_j16 : Int32) (H : Heap) (locs : List Loc) (ls : Array Slot), X11_far_j16 o_latestStatus_j16 o_city_streets_corners o_city_streets_hours = some u → va_P E.1 vwCl (wd_X11_far E a_o a_o_city a_o_ahead a_o_marks a_o_tape a_o_cityReader a_o_weeksReader a_o_trays a_o_planner a_o_ruler a_o_life a_o_latestLife a_o_city_streets a_o_city_names a_o_city_extras a_o_city_happenings a_o_city_watchers a_o_city_weeks a_o_city_streets_roads a_o_city_streets_takes a_o_city_streets_hours o_marked o_wasLived o_wasParsed o_faultKind o_faultPlace o_latestStatus_j16 o_fractionTop o_fractionBottom o_city_wage o_city_delay o_city_odds o_city_clock o_city_hasWeeks o_city_streets_corners o_city_streets_hours) H → va_D A (wd_X11_far E a_o a_o_city a_o_ahead a_o_marks a_o_tape a_o_cityReader a_o_weeksReader a_o_trays a_o_planner a_o_ruler a_o_life a_o_latestLife a_o_city_streets a_o_city_names a_o_city_extras a_o_city_happenings a_o_city_watchers a_o_city_weeks a_o_city_streets_roads a_o_city_streets_takes a_o_city_streets_hours o_marked o_wasLived o_wasParsed o_faultKind o_faultPlace o_latestStatus_j16 o_fractionTop o_fractionBottom o_city_wage o_city_delay o_city_odds o_city_clock o_city_hasWeeks o_city_streets_corners o_city_streets_hours) → va_S A s.heap H locs → lv_has ls 4 [(0, .ref a_o)] → W p l e (rmd 2) s m aa below meth cd H locs 0 0 QQ (F0 m 16 ls []) := by
    intro o_latestStatus_j16 H locs ls hf hP hD hS hl
    unfold X11_far_j16 at hf
    refine lv_aload_n hx hb dX11_far_16 rfl (lv_at hl 0 rfl) ?_
    refine lv_iconst (v := 1) hx hb dX11_far_17 (by decide) ?_
    obtain ⟨u18, hu18, hf⟩ := bd hf
    refine callVI (wn := (wd_X11_far E a_o a_o_city a_o_ahead a_o_marks a_o_tape a_o_cityReader a_o_weeksReader a_o_trays a_o_planner a_o_ruler a_o_life a_o_latestLife a_o_city_streets a_o_city_names a_o_city_extras a_o_city_happenings a_o_city_watchers a_o_city_weeks a_o_city_streets_roads a_o_city_streets_takes a_o_city_streets_hours o_marked o_wasLived o_wasParsed o_faultKind o_faultPlace u18.2 o_fractionTop o_fractionBottom o_city_wage o_city_delay o_city_odds o_city_clock o_city_hasWeeks o_city_streets_corners o_city_streets_hours)) (n1 := 4) (ct_X11_none l E a_o a_o_city a_o_ahead a_o_marks a_o_tape a_o_cityReader a_o_weeksReader a_o_trays a_o_planner a_o_ruler a_o_life a_o_latestLife o_marked o_wasLived o_wasParsed o_faultKind o_faultPlace o_latestStatus_j16 o_fractionTop o_fractionBottom (1 : Int32) u18 hu18) [0] cal_X11_none cav_X11_none lk_X11_119 cx hP hD hS hl dX11_far_18 rfl rfl rfl rfl (Nat.le_of_ble_eq_true rfl) ⟨Nat.le_of_ble_eq_true rfl, Nat.le_of_ble_eq_true rfl⟩ rfl (by decide +kernel) rfl [some 0, none, none, none] rfl (by decide +kernel) rfl (fun H locs hP hD hS => ?_)
    obtain rfl := Option.some.inj hf
    subst hq
    exact retI cx hP hD hS dX11_far_21
  unfold X11_far at hf
  refine lv_aload_n hx hb dX11_far_0 rfl (lv_at hl 0 rfl) ?_
  refine lv_iload_n hx hb dX11_far_1 rfl (lv_at hl 1 rfl) ?_
  obtain ⟨u2, hu2, hf⟩ := bd hf
  refine keepVI (ct_X11_isCorner l E a_o a_o_city a_o_ahead a_o_marks a_o_tape a_o_cityReader a_o_weeksReader a_o_trays a_o_planner a_o_ruler a_o_life a_o_latestLife a_o_city_streets a_o_city_names a_o_city_extras a_o_city_happenings a_o_city_watchers a_o_city_weeks a_o_city_streets_roads a_o_city_streets_takes a_o_city_streets_hours o_marked o_wasLived o_wasParsed o_faultKind o_faultPlace o_latestStatus o_fractionTop o_fractionBottom o_city_wage o_city_delay o_city_odds o_city_clock o_city_hasWeeks o_city_streets_corners v1 u2 hu2) [0, 1, 2] cal_X11_isCorner cav_X11_isCorner lk_X11_263 cx hP hD hS hl dX11_far_2 rfl rfl rfl rfl (Nat.le_of_ble_eq_true rfl) ⟨Nat.le_of_ble_eq_true rfl, Nat.le_of_ble_eq_true rfl⟩ rfl (by decide) (fun H locs hP hS => ?_)
  refine lv_if_eq (tgt := 16) hx hb dX11_far_5 (by decide) (fun hc => ?_) (fun hc => ?_)
  · have hf := it_t hc hf
    exact hj16 _ _ _ _ hf hP hD hS (lv_sub hl [0] rfl)
  · have hf := it_f hc hf
    refine lv_aload_n hx hb dX11_far_8 rfl (lv_at hl 0 rfl) ?_
    refine lv_iload_n hx hb dX11_far_9 rfl (lv_at hl 2 rfl) ?_
    obtain ⟨u10, hu10, hf⟩ := bd hf
    refine keepVI (ct_X11_isCorner l E a_o a_o_city a_o_ahead a_o_marks a_o_tape a_o_cityReader a_o_weeksReader a_o_trays a_o_planner a_o_ruler a_o_life a_o_latestLife a_o_city_streets a_o_city_names a_o_city_extras a_o_city_happenings a_o_city_watchers a_o_city_weeks a_o_city_streets_roads a_o_city_streets_takes a_o_city_streets_hours o_marked o_wasLived o_wasParsed o_faultKind o_faultPlace o_latestStatus o_fractionTop o_fractionBottom o_city_wage o_city_delay o_city_odds o_city_clock o_city_hasWeeks o_city_streets_corners v2 u10 hu10) [0, 1, 2] cal_X11_isCorner cav_X11_isCorner lk_X11_263 cx hP hD hS hl dX11_far_10 rfl rfl rfl rfl (Nat.le_of_ble_eq_true rfl) ⟨Nat.le_of_ble_eq_true rfl, Nat.le_of_ble_eq_true rfl⟩ rfl (by decide) (fun H locs hP hS => ?_)
    refine lv_if_ne (tgt := 22) hx hb dX11_far_13 (by decide) (fun hc => ?_) (fun hc => ?_)
    · have hf := it_f hc hf
      refine lv_aload_n hx hb dX11_far_22 rfl (lv_at hl 0 rfl) ?_
      refine va_get (D := E.1) (ci := 11) (v := .ref a_o_city) (C := RX11) (T := TX11) (N := 19) hx hb hts inX11 hown hK hP 0 rfl rfl 0 (by decide) (hts _ fl_X11_10) (fun _ h9 => h9) rfl dX11_far_23 ?_
      refine va_get (D := E.1) (ci := 0) (v := .ref a_o_city_streets) (C := RX0) (T := TX0) (N := 11) hx hb hts inX0 hown hK hP 1 rfl rfl 5 (by decide) (hts _ fl_X11_163) (fun _ h9 => h9) rfl dX11_far_26 ?_
      refine lv_iload_n hx hb dX11_far_29 rfl (lv_at hl 1 rfl) ?_
      refine lv_iload_n hx hb dX11_far_30 rfl (lv_at hl 2 rfl) ?_
      obtain ⟨u31, hu31, hf⟩ := bd hf
      refine keepVI (ct_X6_hoursBetween l E a_o_city_streets a_o_city_streets_roads a_o_city_streets_takes a_o_city_streets_hours o_city_streets_corners o_city_streets_hours v1 v2 u31 hu31) [2, 3] cal_X6_hoursBetween cav_X6_hoursBetween lk_X11_301 cx hP hD hS hl dX11_far_31 rfl rfl rfl rfl (Nat.le_of_ble_eq_true rfl) ⟨Nat.le_of_ble_eq_true rfl, Nat.le_of_ble_eq_true rfl⟩ rfl (by decide) (fun H locs hP hS => ?_)
      refine lv_istore_n (lv' := [(3, .int u31), (0, .ref a_o), (1, .int v1), (2, .int v2)]) hx hb dX11_far_34 rfl hl (by decide) rfl (fun ls hl => ?_)
      refine lv_iload_n hx hb dX11_far_35 rfl (lv_at hl 0 rfl) ?_
      refine lv_iconst (v := (-1)) hx hb dX11_far_36 (by decide) ?_
      refine lv_icmp_ne (tgt := 49) hx hb dX11_far_37 (by decide) (fun hc => ?_) (fun hc => ?_)
      · have hf := it_f hc hf
        refine lv_aload_n hx hb dX11_far_49 rfl (lv_at hl 1 rfl) ?_
        refine lv_iload_n hx hb dX11_far_50 rfl (lv_at hl 0 rfl) ?_
        obtain ⟨u51, hu51, hf⟩ := bd hf
        refine callVI (wn := (wd_X11_far E a_o a_o_city a_o_ahead a_o_marks a_o_tape a_o_cityReader a_o_weeksReader a_o_trays a_o_planner a_o_ruler a_o_life a_o_latestLife a_o_city_streets a_o_city_names a_o_city_extras a_o_city_happenings a_o_city_watchers a_o_city_weeks a_o_city_streets_roads a_o_city_streets_takes a_o_city_streets_hours o_marked o_wasLived o_wasParsed o_faultKind o_faultPlace u51.2 o_fractionTop o_fractionBottom o_city_wage o_city_delay o_city_odds o_city_clock o_city_hasWeeks o_city_streets_corners o_city_streets_hours)) (n1 := 4) (ct_X11_answer l E a_o a_o_city a_o_ahead a_o_marks a_o_tape a_o_cityReader a_o_weeksReader a_o_trays a_o_planner a_o_ruler a_o_life a_o_latestLife o_marked o_wasLived o_wasParsed o_faultKind o_faultPlace o_latestStatus o_fractionTop o_fractionBottom u31 u51 hu51) [0] cal_X11_answer cav_X11_answer lk_X11_172 cx hP hD hS hl dX11_far_51 rfl rfl rfl rfl (Nat.le_of_ble_eq_true rfl) ⟨Nat.le_of_ble_eq_true rfl, Nat.le_of_ble_eq_true rfl⟩ rfl (by decide +kernel) rfl [some 0, none, none, none] rfl (by decide +kernel) rfl (fun H locs hP hD hS => ?_)
        obtain rfl := Option.some.inj hf
        subst hq
        exact retI cx hP hD hS dX11_far_54
      · have hf := it_t hc hf
        refine lv_aload_n hx hb dX11_far_40 rfl (lv_at hl 1 rfl) ?_
        refine lv_bipush (v := 6) hx hb dX11_far_41 (by decide) ?_
        obtain ⟨u43, hu43, hf⟩ := bd hf
        refine callVI (wn := (wd_X11_far E a_o a_o_city a_o_ahead a_o_marks a_o_tape a_o_cityReader a_o_weeksReader a_o_trays a_o_planner a_o_ruler a_o_life a_o_latestLife a_o_city_streets a_o_city_names a_o_city_extras a_o_city_happenings a_o_city_watchers a_o_city_weeks a_o_city_streets_roads a_o_city_streets_takes a_o_city_streets_hours o_marked o_wasLived o_wasParsed o_faultKind o_faultPlace u43.2 o_fractionTop o_fractionBottom o_city_wage o_city_delay o_city_odds o_city_clock o_city_hasWeeks o_city_streets_corners o_city_streets_hours)) (n1 := 4) (ct_X11_none l E a_o a_o_city a_o_ahead a_o_marks a_o_tape a_o_cityReader a_o_weeksReader a_o_trays a_o_planner a_o_ruler a_o_life a_o_latestLife o_marked o_wasLived o_wasParsed o_faultKind o_faultPlace o_latestStatus o_fractionTop o_fractionBottom (6 : Int32) u43 hu43) [0] cal_X11_none cav_X11_none lk_X11_119 cx hP hD hS hl dX11_far_43 rfl rfl rfl rfl (Nat.le_of_ble_eq_true rfl) ⟨Nat.le_of_ble_eq_true rfl, Nat.le_of_ble_eq_true rfl⟩ rfl (by decide +kernel) rfl [some 0, none, none, none] rfl (by decide +kernel) rfl (fun H locs hP hD hS => ?_)
        refine lv_goto (tgt := 54) hx hb dX11_far_46 (by decide) ?_
        obtain rfl := Option.some.inj hf
        subst hq
        exact retI cx hP hD hS dX11_far_54
    · have hf := it_t hc hf
      exact hj16 _ _ _ _ hf hP hD hS (lv_sub hl [0] rfl)
def X11_way_j16 (F : Nat) (o_latestStatus : Int32) (o_city_streets_corners : Int32) (o_city_streets_takes : Nat → Int32) (o_city_streets_hours : Nat → Int32) : Option (Int32 × Int32) :=
  (X11_none o_latestStatus (1 : Int32)).bind fun u18 =>
  some (u18.1, u18.2)
def X11_way (F : Nat) (o_latestStatus : Int32) (o_city_streets_corners : Int32) (o_city_streets_takes : Nat → Int32) (o_city_streets_hours : Nat → Int32) (v1 : Int32) (v2 : Int32) : Option (Int32 × Int32) :=
  (X11_isCorner o_city_streets_corners v1).bind fun u2 =>
  if u2 = 0 then
  X11_way_j16 F o_latestStatus o_city_streets_corners o_city_streets_takes o_city_streets_hours
  else
  (X11_isCorner o_city_streets_corners v2).bind fun u10 =>
  if u10 = 0 then
  X11_way_j16 F o_latestStatus o_city_streets_corners o_city_streets_takes o_city_streets_hours
  else
  if v1 = v2 then
  (X11_none o_latestStatus (7 : Int32)).bind fun u30 =>
  some (u30.1, u30.2)
  else
  (X6_firstCorner F o_city_streets_corners o_city_streets_takes o_city_streets_hours v1 v2).bind fun u43 =>
  if u43 = (-1) then
  (X11_none o_latestStatus (6 : Int32)).bind fun u55 =>
  some (u55.1, u55.2)
  else
  (X11_answer o_latestStatus u43).bind fun u63 =>
  some (u63.1, u63.2)
abbrev wd_X11_way (E : vE) (a_o a_o_city a_o_ahead a_o_marks a_o_tape a_o_cityReader a_o_weeksReader a_o_trays a_o_planner a_o_ruler a_o_life a_o_latestLife a_o_city_streets a_o_city_names a_o_city_extras a_o_city_happenings a_o_city_watchers a_o_city_weeks a_o_city_streets_roads a_o_city_streets_takes a_o_city_streets_hours : Nat) (o_marked : Int32) (o_wasLived : Int32) (o_wasParsed : Int32) (o_faultKind : Int32) (o_faultPlace : Int32) (o_latestStatus : Int32) (o_fractionTop : Int64) (o_fractionBottom : Int64) (o_city_wage : Int32) (o_city_delay : Int32) (o_city_odds : Int32) (o_city_clock : Int32) (o_city_hasWeeks : Int32) (o_city_streets_corners : Int32) (o_city_streets_takes : Nat → Int32) (o_city_streets_hours : Nat → Int32) : va_W := [(a_o, .inr (11, [.ref a_o_city, .ref a_o_ahead, .ref a_o_marks, .int o_marked, .ref a_o_tape, .ref a_o_cityReader, .ref a_o_weeksReader, .ref a_o_trays, .ref a_o_planner, .ref a_o_ruler, .ref a_o_life, .ref a_o_latestLife, .int o_wasLived, .int o_wasParsed, .int o_faultKind, .int o_faultPlace, .int o_latestStatus, .long o_fractionTop, .long o_fractionBottom])), (a_o_city, .inr (0, [.int o_city_wage, .int o_city_delay, .int o_city_odds, .int o_city_clock, .int o_city_hasWeeks, .ref a_o_city_streets, .ref a_o_city_names, .ref a_o_city_extras, .ref a_o_city_happenings, .ref a_o_city_watchers, .ref a_o_city_weeks])), (a_o_city_streets, .inr (6, [.int o_city_streets_corners, .ref a_o_city_streets_roads, .ref a_o_city_streets_takes, .ref a_o_city_streets_hours])), (a_o_city_streets_takes, .inl (E.2.1, 64, .inl o_city_streets_takes)), (a_o_city_streets_hours, .inl (E.2.1, 64, .inl o_city_streets_hours))]
set_option maxHeartbeats 4000000 in
set_option maxRecDepth 100000 in
theorem ct_X11_way (l : Launch) (E : vE) (F : Nat) (a_o a_o_city a_o_ahead a_o_marks a_o_tape a_o_cityReader a_o_weeksReader a_o_trays a_o_planner a_o_ruler a_o_life a_o_latestLife a_o_city_streets a_o_city_names a_o_city_extras a_o_city_happenings a_o_city_watchers a_o_city_weeks a_o_city_streets_roads a_o_city_streets_takes a_o_city_streets_hours : Nat) (o_marked : Int32) (o_wasLived : Int32) (o_wasParsed : Int32) (o_faultKind : Int32) (o_faultPlace : Int32) (o_latestStatus : Int32) (o_fractionTop : Int64) (o_fractionBottom : Int64) (o_city_wage : Int32) (o_city_delay : Int32) (o_city_odds : Int32) (o_city_clock : Int32) (o_city_hasWeeks : Int32) (o_city_streets_corners : Int32) (o_city_streets_takes : Nat → Int32) (o_city_streets_hours : Nat → Int32) (v1 : Int32) (v2 : Int32) (u : Int32 × Int32) (hf : X11_way F o_latestStatus o_city_streets_corners o_city_streets_takes o_city_streets_hours v1 v2 = some u) :
    CtI l yX11_way cX11_way 4 (some .int) 3 E [.ref a_o, .int v1, .int v2] (wd_X11_way E a_o a_o_city a_o_ahead a_o_marks a_o_tape a_o_cityReader a_o_weeksReader a_o_trays a_o_planner a_o_ruler a_o_life a_o_latestLife a_o_city_streets a_o_city_names a_o_city_extras a_o_city_happenings a_o_city_watchers a_o_city_weeks a_o_city_streets_roads a_o_city_streets_takes a_o_city_streets_hours o_marked o_wasLived o_wasParsed o_faultKind o_faultPlace o_latestStatus o_fractionTop o_fractionBottom o_city_wage o_city_delay o_city_odds o_city_clock o_city_hasWeeks o_city_streets_corners o_city_streets_takes o_city_streets_hours) (wd_X11_way E a_o a_o_city a_o_ahead a_o_marks a_o_tape a_o_cityReader a_o_weeksReader a_o_trays a_o_planner a_o_ruler a_o_life a_o_latestLife a_o_city_streets a_o_city_names a_o_city_extras a_o_city_happenings a_o_city_watchers a_o_city_weeks a_o_city_streets_roads a_o_city_streets_takes a_o_city_streets_hours o_marked o_wasLived o_wasParsed o_faultKind o_faultPlace u.2 o_fractionTop o_fractionBottom o_city_wage o_city_delay o_city_odds o_city_clock o_city_hasWeeks o_city_streets_corners o_city_streets_takes o_city_streets_hours) u.1 := by
  refine ctI (by decide) (Nat.le_of_ble_eq_true rfl) ?_
  intro p e s m below meth cd A ls aa QQ hq cx hP hD hS hl
  obtain ⟨⟨hx, hb, hml, hown, hts⟩, hr, hlocks, hK, hA, hX⟩ := id cx
  have hl : lv_has ls 4 [(0, .ref a_o), (1, .int v1), (2, .int v2)] := hl
  have hj16 : ∀ (o_latestStatus_j16 : Int32) (H : Heap) (locs : List Loc) (ls : Array Slot), X11_way_j16 F o_latestStatus_j16 o_city_streets_corners o_city_streets_takes o_city_streets_hours = some u → va_P E.1 vwCl (wd_X11_way E a_o a_o_city a_o_ahead a_o_marks a_o_tape a_o_cityReader a_o_weeksReader a_o_trays a_o_planner a_o_ruler a_o_life a_o_latestLife a_o_city_streets a_o_city_names a_o_city_extras a_o_city_happenings a_o_city_watchers a_o_city_weeks a_o_city_streets_roads a_o_city_streets_takes a_o_city_streets_hours o_marked o_wasLived o_wasParsed o_faultKind o_faultPlace o_latestStatus_j16 o_fractionTop o_fractionBottom o_city_wage o_city_delay o_city_odds o_city_clock o_city_hasWeeks o_city_streets_corners o_city_streets_takes o_city_streets_hours) H → va_D A (wd_X11_way E a_o a_o_city a_o_ahead a_o_marks a_o_tape a_o_cityReader a_o_weeksReader a_o_trays a_o_planner a_o_ruler a_o_life a_o_latestLife a_o_city_streets a_o_city_names a_o_city_extras a_o_city_happenings a_o_city_watchers a_o_city_weeks a_o_city_streets_roads a_o_city_streets_takes a_o_city_streets_hours o_marked o_wasLived o_wasParsed o_faultKind o_faultPlace o_latestStatus_j16 o_fractionTop o_fractionBottom o_city_wage o_city_delay o_city_odds o_city_clock o_city_hasWeeks o_city_streets_corners o_city_streets_takes o_city_streets_hours) → va_S A s.heap H locs → lv_has ls 4 [(0, .ref a_o)] → W p l e (rmd 3) s m aa below meth cd H locs 0 0 QQ (F0 m 16 ls []) := by
    intro o_latestStatus_j16 H locs ls hf hP hD hS hl
    unfold X11_way_j16 at hf
    refine lv_aload_n hx hb dX11_way_16 rfl (lv_at hl 0 rfl) ?_
    refine lv_iconst (v := 1) hx hb dX11_way_17 (by decide) ?_
    obtain ⟨u18, hu18, hf⟩ := bd hf
    refine callVI (wn := (wd_X11_way E a_o a_o_city a_o_ahead a_o_marks a_o_tape a_o_cityReader a_o_weeksReader a_o_trays a_o_planner a_o_ruler a_o_life a_o_latestLife a_o_city_streets a_o_city_names a_o_city_extras a_o_city_happenings a_o_city_watchers a_o_city_weeks a_o_city_streets_roads a_o_city_streets_takes a_o_city_streets_hours o_marked o_wasLived o_wasParsed o_faultKind o_faultPlace u18.2 o_fractionTop o_fractionBottom o_city_wage o_city_delay o_city_odds o_city_clock o_city_hasWeeks o_city_streets_corners o_city_streets_takes o_city_streets_hours)) (n1 := 5) (ct_X11_none l E a_o a_o_city a_o_ahead a_o_marks a_o_tape a_o_cityReader a_o_weeksReader a_o_trays a_o_planner a_o_ruler a_o_life a_o_latestLife o_marked o_wasLived o_wasParsed o_faultKind o_faultPlace o_latestStatus_j16 o_fractionTop o_fractionBottom (1 : Int32) u18 hu18) [0] cal_X11_none cav_X11_none lk_X11_119 cx hP hD hS hl dX11_way_18 rfl rfl rfl rfl (Nat.le_of_ble_eq_true rfl) ⟨Nat.le_of_ble_eq_true rfl, Nat.le_of_ble_eq_true rfl⟩ rfl (by decide +kernel) rfl [some 0, none, none, none, none] rfl (by decide +kernel) rfl (fun H locs hP hD hS => ?_)
    obtain rfl := Option.some.inj hf
    subst hq
    exact retI cx hP hD hS dX11_way_21
  unfold X11_way at hf
  refine lv_aload_n hx hb dX11_way_0 rfl (lv_at hl 0 rfl) ?_
  refine lv_iload_n hx hb dX11_way_1 rfl (lv_at hl 1 rfl) ?_
  obtain ⟨u2, hu2, hf⟩ := bd hf
  refine keepVI (ct_X11_isCorner l E a_o a_o_city a_o_ahead a_o_marks a_o_tape a_o_cityReader a_o_weeksReader a_o_trays a_o_planner a_o_ruler a_o_life a_o_latestLife a_o_city_streets a_o_city_names a_o_city_extras a_o_city_happenings a_o_city_watchers a_o_city_weeks a_o_city_streets_roads a_o_city_streets_takes a_o_city_streets_hours o_marked o_wasLived o_wasParsed o_faultKind o_faultPlace o_latestStatus o_fractionTop o_fractionBottom o_city_wage o_city_delay o_city_odds o_city_clock o_city_hasWeeks o_city_streets_corners v1 u2 hu2) [0, 1, 2] cal_X11_isCorner cav_X11_isCorner lk_X11_263 cx hP hD hS hl dX11_way_2 rfl rfl rfl rfl (Nat.le_of_ble_eq_true rfl) ⟨Nat.le_of_ble_eq_true rfl, Nat.le_of_ble_eq_true rfl⟩ rfl (by decide) (fun H locs hP hS => ?_)
  refine lv_if_eq (tgt := 16) hx hb dX11_way_5 (by decide) (fun hc => ?_) (fun hc => ?_)
  · have hf := it_t hc hf
    exact hj16 _ _ _ _ hf hP hD hS (lv_sub hl [0] rfl)
  · have hf := it_f hc hf
    refine lv_aload_n hx hb dX11_way_8 rfl (lv_at hl 0 rfl) ?_
    refine lv_iload_n hx hb dX11_way_9 rfl (lv_at hl 2 rfl) ?_
    obtain ⟨u10, hu10, hf⟩ := bd hf
    refine keepVI (ct_X11_isCorner l E a_o a_o_city a_o_ahead a_o_marks a_o_tape a_o_cityReader a_o_weeksReader a_o_trays a_o_planner a_o_ruler a_o_life a_o_latestLife a_o_city_streets a_o_city_names a_o_city_extras a_o_city_happenings a_o_city_watchers a_o_city_weeks a_o_city_streets_roads a_o_city_streets_takes a_o_city_streets_hours o_marked o_wasLived o_wasParsed o_faultKind o_faultPlace o_latestStatus o_fractionTop o_fractionBottom o_city_wage o_city_delay o_city_odds o_city_clock o_city_hasWeeks o_city_streets_corners v2 u10 hu10) [0, 1, 2] cal_X11_isCorner cav_X11_isCorner lk_X11_263 cx hP hD hS hl dX11_way_10 rfl rfl rfl rfl (Nat.le_of_ble_eq_true rfl) ⟨Nat.le_of_ble_eq_true rfl, Nat.le_of_ble_eq_true rfl⟩ rfl (by decide) (fun H locs hP hS => ?_)
    refine lv_if_ne (tgt := 22) hx hb dX11_way_13 (by decide) (fun hc => ?_) (fun hc => ?_)
    · have hf := it_f hc hf
      refine lv_iload_n hx hb dX11_way_22 rfl (lv_at hl 1 rfl) ?_
      refine lv_iload_n hx hb dX11_way_23 rfl (lv_at hl 2 rfl) ?_
      refine lv_icmp_ne (tgt := 34) hx hb dX11_way_24 (by decide) (fun hc => ?_) (fun hc => ?_)
      · have hf := it_f hc hf
        refine lv_aload_n hx hb dX11_way_34 rfl (lv_at hl 0 rfl) ?_
        refine va_get (D := E.1) (ci := 11) (v := .ref a_o_city) (C := RX11) (T := TX11) (N := 19) hx hb hts inX11 hown hK hP 0 rfl rfl 0 (by decide) (hts _ fl_X11_10) (fun _ h9 => h9) rfl dX11_way_35 ?_
        refine va_get (D := E.1) (ci := 0) (v := .ref a_o_city_streets) (C := RX0) (T := TX0) (N := 11) hx hb hts inX0 hown hK hP 1 rfl rfl 5 (by decide) (hts _ fl_X11_163) (fun _ h9 => h9) rfl dX11_way_38 ?_
        refine lv_iload_n hx hb dX11_way_41 rfl (lv_at hl 1 rfl) ?_
        refine lv_iload_n hx hb dX11_way_42 rfl (lv_at hl 2 rfl) ?_
        obtain ⟨u43, hu43, hf⟩ := bd hf
        refine keepVI (ct_X6_firstCorner l E F a_o_city_streets a_o_city_streets_roads a_o_city_streets_takes a_o_city_streets_hours o_city_streets_corners o_city_streets_takes o_city_streets_hours v1 v2 u43 hu43) [2, 3, 4] cal_X6_firstCorner cav_X6_firstCorner lk_X11_304 cx hP hD hS hl dX11_way_43 rfl rfl rfl rfl (Nat.le_of_ble_eq_true rfl) ⟨Nat.le_of_ble_eq_true rfl, Nat.le_of_ble_eq_true rfl⟩ rfl (by decide) (fun H locs hP hS => ?_)
        refine lv_istore_n (lv' := [(3, .int u43), (0, .ref a_o), (1, .int v1), (2, .int v2)]) hx hb dX11_way_46 rfl hl (by decide) rfl (fun ls hl => ?_)
        refine lv_iload_n hx hb dX11_way_47 rfl (lv_at hl 0 rfl) ?_
        refine lv_iconst (v := (-1)) hx hb dX11_way_48 (by decide) ?_
        refine lv_icmp_ne (tgt := 61) hx hb dX11_way_49 (by decide) (fun hc => ?_) (fun hc => ?_)
        · have hf := it_f hc hf
          refine lv_aload_n hx hb dX11_way_61 rfl (lv_at hl 1 rfl) ?_
          refine lv_iload_n hx hb dX11_way_62 rfl (lv_at hl 0 rfl) ?_
          obtain ⟨u63, hu63, hf⟩ := bd hf
          refine callVI (wn := (wd_X11_way E a_o a_o_city a_o_ahead a_o_marks a_o_tape a_o_cityReader a_o_weeksReader a_o_trays a_o_planner a_o_ruler a_o_life a_o_latestLife a_o_city_streets a_o_city_names a_o_city_extras a_o_city_happenings a_o_city_watchers a_o_city_weeks a_o_city_streets_roads a_o_city_streets_takes a_o_city_streets_hours o_marked o_wasLived o_wasParsed o_faultKind o_faultPlace u63.2 o_fractionTop o_fractionBottom o_city_wage o_city_delay o_city_odds o_city_clock o_city_hasWeeks o_city_streets_corners o_city_streets_takes o_city_streets_hours)) (n1 := 5) (ct_X11_answer l E a_o a_o_city a_o_ahead a_o_marks a_o_tape a_o_cityReader a_o_weeksReader a_o_trays a_o_planner a_o_ruler a_o_life a_o_latestLife o_marked o_wasLived o_wasParsed o_faultKind o_faultPlace o_latestStatus o_fractionTop o_fractionBottom u43 u63 hu63) [0] cal_X11_answer cav_X11_answer lk_X11_172 cx hP hD hS hl dX11_way_63 rfl rfl rfl rfl (Nat.le_of_ble_eq_true rfl) ⟨Nat.le_of_ble_eq_true rfl, Nat.le_of_ble_eq_true rfl⟩ rfl (by decide +kernel) rfl [some 0, none, none, none, none] rfl (by decide +kernel) rfl (fun H locs hP hD hS => ?_)
          obtain rfl := Option.some.inj hf
          subst hq
          exact retI cx hP hD hS dX11_way_66
        · have hf := it_t hc hf
          refine lv_aload_n hx hb dX11_way_52 rfl (lv_at hl 1 rfl) ?_
          refine lv_bipush (v := 6) hx hb dX11_way_53 (by decide) ?_
          obtain ⟨u55, hu55, hf⟩ := bd hf
          refine callVI (wn := (wd_X11_way E a_o a_o_city a_o_ahead a_o_marks a_o_tape a_o_cityReader a_o_weeksReader a_o_trays a_o_planner a_o_ruler a_o_life a_o_latestLife a_o_city_streets a_o_city_names a_o_city_extras a_o_city_happenings a_o_city_watchers a_o_city_weeks a_o_city_streets_roads a_o_city_streets_takes a_o_city_streets_hours o_marked o_wasLived o_wasParsed o_faultKind o_faultPlace u55.2 o_fractionTop o_fractionBottom o_city_wage o_city_delay o_city_odds o_city_clock o_city_hasWeeks o_city_streets_corners o_city_streets_takes o_city_streets_hours)) (n1 := 5) (ct_X11_none l E a_o a_o_city a_o_ahead a_o_marks a_o_tape a_o_cityReader a_o_weeksReader a_o_trays a_o_planner a_o_ruler a_o_life a_o_latestLife o_marked o_wasLived o_wasParsed o_faultKind o_faultPlace o_latestStatus o_fractionTop o_fractionBottom (6 : Int32) u55 hu55) [0] cal_X11_none cav_X11_none lk_X11_119 cx hP hD hS hl dX11_way_55 rfl rfl rfl rfl (Nat.le_of_ble_eq_true rfl) ⟨Nat.le_of_ble_eq_true rfl, Nat.le_of_ble_eq_true rfl⟩ rfl (by decide +kernel) rfl [some 0, none, none, none, none] rfl (by decide +kernel) rfl (fun H locs hP hD hS => ?_)
          refine lv_goto (tgt := 66) hx hb dX11_way_58 (by decide) ?_
          obtain rfl := Option.some.inj hf
          subst hq
          exact retI cx hP hD hS dX11_way_66
      · have hf := it_t hc hf
        refine lv_aload_n hx hb dX11_way_27 rfl (lv_at hl 0 rfl) ?_
        refine lv_bipush (v := 7) hx hb dX11_way_28 (by decide) ?_
        obtain ⟨u30, hu30, hf⟩ := bd hf
        refine callVI (wn := (wd_X11_way E a_o a_o_city a_o_ahead a_o_marks a_o_tape a_o_cityReader a_o_weeksReader a_o_trays a_o_planner a_o_ruler a_o_life a_o_latestLife a_o_city_streets a_o_city_names a_o_city_extras a_o_city_happenings a_o_city_watchers a_o_city_weeks a_o_city_streets_roads a_o_city_streets_takes a_o_city_streets_hours o_marked o_wasLived o_wasParsed o_faultKind o_faultPlace u30.2 o_fractionTop o_fractionBottom o_city_wage o_city_delay o_city_odds o_city_clock o_city_hasWeeks o_city_streets_corners o_city_streets_takes o_city_streets_hours)) (n1 := 5) (ct_X11_none l E a_o a_o_city a_o_ahead a_o_marks a_o_tape a_o_cityReader a_o_weeksReader a_o_trays a_o_planner a_o_ruler a_o_life a_o_latestLife o_marked o_wasLived o_wasParsed o_faultKind o_faultPlace o_latestStatus o_fractionTop o_fractionBottom (7 : Int32) u30 hu30) [0] cal_X11_none cav_X11_none lk_X11_119 cx hP hD hS hl dX11_way_30 rfl rfl rfl rfl (Nat.le_of_ble_eq_true rfl) ⟨Nat.le_of_ble_eq_true rfl, Nat.le_of_ble_eq_true rfl⟩ rfl (by decide +kernel) rfl [some 0, none, none, none, none] rfl (by decide +kernel) rfl (fun H locs hP hD hS => ?_)
        obtain rfl := Option.some.inj hf
        subst hq
        exact retI cx hP hD hS dX11_way_33
    · have hf := it_t hc hf
      exact hj16 _ _ _ _ hf hP hD hS (lv_sub hl [0] rfl)
