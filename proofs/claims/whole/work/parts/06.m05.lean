def X12_weeks_j131 (F : Nat) (o_status : Int32) (o_taped : Int32) (o_size : Int32) (o_token : Int32) (o_from : Int32) (o_end : Int32) (o_value : Int32) (o_faultKind : Int32) (o_faultPlace : Int32) (o_faults : Int32) (o_seen : Int32) (o_depth : Int32) (o_counted : Int32) (o_at : Nat → Int32) (o_names : Nat → Int64) (o_tape : Nat → Int32) (o_text : Nat → Int32) (o_opened : Nat → Int32) : Option (vS) :=
  (X12_taken o_status o_faultKind o_faults o_counted).bind fun u136 =>
  some (mkS [u136.1, u136.2.1, o_taped, o_size, o_token, o_from, o_end, o_value, u136.2.2, o_faultPlace, o_faults, o_seen, o_depth, o_counted] [] [o_at, o_text, o_opened] [])
def X12_weeks_b102 (F : Nat) (o_status : Int32) (o_taped : Int32) (o_size : Int32) (o_token : Int32) (o_from : Int32) (o_end : Int32) (o_value : Int32) (o_faultKind : Int32) (o_faultPlace : Int32) (o_faults : Int32) (o_seen : Int32) (o_depth : Int32) (o_counted : Int32) (o_names : Nat → Int64) (o_tape : Nat → Int32) (o_text : Nat → Int32) (o_opened : Nat → Int32) (st102 : Int32 × (Nat → Int32)) : Option ((Int32 × (Nat → Int32)) ⊕ (((Nat → Int32)))) :=
  if (487 : Int32) ≤ st102.1 then
  some (.inr st102.2)
  else
  if ix (1980 + st102.1) 3097 then
  if ix st102.1 3097 then
  some (.inl ((st102.1 + 1), (jput st102.2 st102.1 (jat st102.2 (1980 + st102.1)))))
  else none
  else none
def X12_weeks_j77 (F : Nat) (o_status : Int32) (o_taped : Int32) (o_size : Int32) (o_token : Int32) (o_from : Int32) (o_end : Int32) (o_value : Int32) (o_faultKind : Int32) (o_faultPlace : Int32) (o_faults : Int32) (o_seen : Int32) (o_depth : Int32) (o_counted : Int32) (o_at : Nat → Int32) (o_names : Nat → Int64) (o_tape : Nat → Int32) (o_text : Nat → Int32) (o_opened : Nat → Int32) : Option (vS) :=
  if o_faults = 0 then
  if ix 1989 3097 then
  if ix 9 3097 then
  (iter (X12_weeks_b102 F o_status o_taped o_size o_token o_from o_end o_value o_faultKind o_faultPlace o_faults o_seen o_depth o_counted o_names o_tape o_text o_opened) F (127, (jput o_at 9 (jat o_at 1989)))).bind (fun (e102 : (Nat → Int32)) =>
    X12_weeks_j131 F o_status o_taped o_size o_token o_from o_end o_value o_faultKind o_faultPlace o_faults o_seen o_depth o_counted e102 o_names o_tape o_text o_opened)
  else none
  else none
  else
  X12_weeks_j131 F o_status o_taped o_size o_token o_from o_end o_value o_faultKind o_faultPlace o_faults o_seen o_depth o_counted o_at o_names o_tape o_text o_opened
def X12_weeks_j57 (F : Nat) (o_status : Int32) (o_taped : Int32) (o_size : Int32) (o_token : Int32) (o_from : Int32) (o_end : Int32) (o_value : Int32) (o_faultKind : Int32) (o_faultPlace : Int32) (o_faults : Int32) (o_seen : Int32) (o_depth : Int32) (o_counted : Int32) (o_at : Nat → Int32) (o_names : Nat → Int64) (o_tape : Nat → Int32) (o_text : Nat → Int32) (o_opened : Nat → Int32) : Option (vS) :=
  if o_faults = 0 then
  if o_depth ≤ 0 then
  X12_weeks_j77 F o_status o_taped o_size o_token o_from o_end o_value o_faultKind o_faultPlace o_faults o_seen o_depth o_counted o_at o_names o_tape o_text o_opened
  else
  (X12_fails o_token o_from o_faultPlace o_faults (2 : Int32)).bind fun u73 =>
  X12_weeks_j77 F o_status o_taped o_size o_token o_from o_end o_value o_faultKind u73.2.1 u73.2.2 o_seen o_depth o_counted o_at o_names o_tape o_text o_opened
  else
  X12_weeks_j77 F o_status o_taped o_size o_token o_from o_end o_value o_faultKind o_faultPlace o_faults o_seen o_depth o_counted o_at o_names o_tape o_text o_opened
def X12_weeks_b38 (F : Nat) (o_status : Int32) (o_taped : Int32) (o_size : Int32) (o_faultKind : Int32) (o_seen : Int32) (o_names : Nat → Int64) (o_tape : Nat → Int32) (o_text : Nat → Int32) (st38 : vS) : Option ((vS) ⊕ ((Int32 × Int32 × Int32 × Int32 × Int32 × Int32 × Int32 × Int32 × (Nat → Int32) × (Nat → Int32)))) :=
  if (st38.1 0) = 0 then
  some (.inr ((st38.1 1), (st38.1 2), (st38.1 3), (st38.1 4), (st38.1 5), (st38.1 6), (st38.1 7), (st38.1 8), (st38.2.2.1 0), (st38.2.2.1 1)))
  else
  if (st38.1 1) = 0 then
  some (.inr ((st38.1 1), (st38.1 2), (st38.1 3), (st38.1 4), (st38.1 5), (st38.1 6), (st38.1 7), (st38.1 8), (st38.2.2.1 0), (st38.2.2.1 1)))
  else
  (X12_weekStep F o_size (st38.1 1) (st38.1 2) (st38.1 3) (st38.1 4) (st38.1 5) (st38.1 6) (st38.1 7) (st38.1 8) (st38.2.2.1 0) o_names o_text (st38.2.2.1 1)).bind fun u50 =>
  some (.inl (mkS [(u50.1 0), (u50.1 1), (u50.1 2), (u50.1 3), (u50.1 4), (u50.1 5), (u50.1 6), (u50.1 7), (u50.1 8)] [] [(u50.2.2.1 0), (u50.2.2.1 1)] []))
def X12_weeks (F : Nat) (o_status : Int32) (o_taped : Int32) (o_size : Int32) (o_token : Int32) (o_from : Int32) (o_end : Int32) (o_value : Int32) (o_faultKind : Int32) (o_faultPlace : Int32) (o_faults : Int32) (o_seen : Int32) (o_depth : Int32) (o_counted : Int32) (o_at : Nat → Int32) (o_names : Nat → Int64) (o_tape : Nat → Int32) (o_text : Nat → Int32) (o_opened : Nat → Int32) (v1 : Int32) : Option (vS) :=
  (X12_begins F o_taped o_size o_token o_from o_end o_value o_faultPlace o_faults o_seen o_tape o_text v1 (300 : Int32)).bind fun u5 =>
  if (u5.1 0) = 0 then
  (X12_refuse o_status (1 : Int32)).bind fun u13 =>
  some (mkS [u13.1, u13.2, (u5.1 1), (u5.1 2), (u5.1 3), (u5.1 4), (u5.1 5), (u5.1 6), o_faultKind, (u5.1 7), (u5.1 8), (u5.1 9), o_depth, o_counted] [] [o_at, (u5.2.2.1 0), o_opened] [])
  else
  if ix 1989 3097 then
  (iter (X12_weeks_b38 F o_status (u5.1 1) (u5.1 2) o_faultKind (u5.1 9) o_names o_tape (u5.2.2.1 0)) F (mkS [1, (u5.1 3), (u5.1 4), (u5.1 5), (u5.1 6), (u5.1 7), (u5.1 8), 0, 0] [] [(jput o_at 1989 0), o_opened] [])).bind (fun (e38 : Int32 × Int32 × Int32 × Int32 × Int32 × Int32 × Int32 × Int32 × (Nat → Int32) × (Nat → Int32)) =>
    X12_weeks_j57 F o_status (u5.1 1) (u5.1 2) e38.1 e38.2.1 e38.2.2.1 e38.2.2.2.1 o_faultKind e38.2.2.2.2.1 e38.2.2.2.2.2.1 (u5.1 9) e38.2.2.2.2.2.2.1 e38.2.2.2.2.2.2.2.1 e38.2.2.2.2.2.2.2.2.1 o_names o_tape (u5.2.2.1 0) e38.2.2.2.2.2.2.2.2.2)
  else none
abbrev wd_X12_weeks (E : vE) (a_o a_o_at a_o_names a_o_sort a_o_trayMany a_o_trays a_o_tape a_o_text a_o_opened a_o_farBy a_o_attendsBy a_o_coveredBy a_o_cameBy a_o_cameThen a_o_fallsBy a_o_loops a_o_ran a_o_told1 : Nat) (o_status : Int32) (o_top : Int64) (o_bottom : Int64) (o_taped : Int32) (o_size : Int32) (o_token : Int32) (o_from : Int32) (o_end : Int32) (o_value : Int32) (o_faultKind : Int32) (o_faultPlace : Int32) (o_faults : Int32) (o_seen : Int32) (o_toldParts : Int32) (o_depth : Int32) (o_counted : Int32) (o_becameThen : Int32) (o_firstCorner : Int32) (o_drawn : Int32) (o_ranSteps : Int32) (o_isTold : Int32) (o_marks : Int32) (o_at : Nat → Int32) (o_names : Nat → Int64) (o_tape : Nat → Int32) (o_text : Nat → Int32) (o_opened : Nat → Int32) : va_W := [(a_o, .inr (12, [.ref a_o_at, .ref a_o_names, .int o_status, .long o_top, .long o_bottom, .ref a_o_sort, .ref a_o_trayMany, .ref a_o_trays, .ref a_o_tape, .ref a_o_text, .int o_taped, .int o_size, .int o_token, .int o_from, .int o_end, .int o_value, .int o_faultKind, .int o_faultPlace, .int o_faults, .int o_seen, .int o_toldParts, .ref a_o_opened, .int o_depth, .int o_counted, .ref a_o_farBy, .int o_becameThen, .ref a_o_attendsBy, .ref a_o_coveredBy, .ref a_o_cameBy, .ref a_o_cameThen, .int o_firstCorner, .ref a_o_fallsBy, .int o_drawn, .int o_ranSteps, .ref a_o_loops, .ref a_o_ran, .ref a_o_told1, .int o_isTold, .int o_marks])), (a_o_at, .inl (E.2.1, 3097, .inl o_at)), (a_o_names, .inl (E.2.2.1, 162, .inr (.inl o_names))), (a_o_tape, .inl (E.2.2.2.1, 900, .inl o_tape)), (a_o_text, .inl (E.2.2.2.1, 900, .inl o_text)), (a_o_opened, .inl (E.2.1, 3, .inl o_opened))]
set_option maxHeartbeats 4000000 in
set_option maxRecDepth 100000 in
theorem ct_X12_weeks (l : Launch) (E : vE) (F : Nat) (a_o a_o_at a_o_names a_o_sort a_o_trayMany a_o_trays a_o_tape a_o_text a_o_opened a_o_farBy a_o_attendsBy a_o_coveredBy a_o_cameBy a_o_cameThen a_o_fallsBy a_o_loops a_o_ran a_o_told1 : Nat) (o_status : Int32) (o_top : Int64) (o_bottom : Int64) (o_taped : Int32) (o_size : Int32) (o_token : Int32) (o_from : Int32) (o_end : Int32) (o_value : Int32) (o_faultKind : Int32) (o_faultPlace : Int32) (o_faults : Int32) (o_seen : Int32) (o_toldParts : Int32) (o_depth : Int32) (o_counted : Int32) (o_becameThen : Int32) (o_firstCorner : Int32) (o_drawn : Int32) (o_ranSteps : Int32) (o_isTold : Int32) (o_marks : Int32) (o_at : Nat → Int32) (o_names : Nat → Int64) (o_tape : Nat → Int32) (o_text : Nat → Int32) (o_opened : Nat → Int32) (v1 : Int32) (u : vS) (hf : X12_weeks F o_status o_taped o_size o_token o_from o_end o_value o_faultKind o_faultPlace o_faults o_seen o_depth o_counted o_at o_names o_tape o_text o_opened v1 = some u) :
    CtI l yX12_weeks cX12_weeks 4 (some .int) 11 E [.ref a_o, .int v1] (wd_X12_weeks E a_o a_o_at a_o_names a_o_sort a_o_trayMany a_o_trays a_o_tape a_o_text a_o_opened a_o_farBy a_o_attendsBy a_o_coveredBy a_o_cameBy a_o_cameThen a_o_fallsBy a_o_loops a_o_ran a_o_told1 o_status o_top o_bottom o_taped o_size o_token o_from o_end o_value o_faultKind o_faultPlace o_faults o_seen o_toldParts o_depth o_counted o_becameThen o_firstCorner o_drawn o_ranSteps o_isTold o_marks o_at o_names o_tape o_text o_opened) (wd_X12_weeks E a_o a_o_at a_o_names a_o_sort a_o_trayMany a_o_trays a_o_tape a_o_text a_o_opened a_o_farBy a_o_attendsBy a_o_coveredBy a_o_cameBy a_o_cameThen a_o_fallsBy a_o_loops a_o_ran a_o_told1 (u.1 1) o_top o_bottom (u.1 2) (u.1 3) (u.1 4) (u.1 5) (u.1 6) (u.1 7) (u.1 8) (u.1 9) (u.1 10) (u.1 11) o_toldParts (u.1 12) (u.1 13) o_becameThen o_firstCorner o_drawn o_ranSteps o_isTold o_marks (u.2.2.1 0) o_names o_tape (u.2.2.1 1) (u.2.2.1 2)) (u.1 0) := by
  refine ctI (by decide) (Nat.le_of_ble_eq_true rfl) ?_
  intro p e s m below meth cd A ls aa QQ hq cx hP hD hS hl
  obtain ⟨⟨hx, hb, hml, hown, hts⟩, hr, hlocks, hK, hA, hX⟩ := id cx
  have hl : lv_has ls 4 [(0, .ref a_o), (1, .int v1)] := hl
  have hj131 : ∀ (o_status_j131 : Int32) (o_taped_j131 : Int32) (o_size_j131 : Int32) (o_token_j131 : Int32) (o_from_j131 : Int32) (o_end_j131 : Int32) (o_value_j131 : Int32) (o_faultKind_j131 : Int32) (o_faultPlace_j131 : Int32) (o_faults_j131 : Int32) (o_seen_j131 : Int32) (o_depth_j131 : Int32) (o_counted_j131 : Int32) (o_at_j131 : Nat → Int32) (o_text_j131 : Nat → Int32) (o_opened_j131 : Nat → Int32) (H : Heap) (locs : List Loc) (ls : Array Slot), X12_weeks_j131 F o_status_j131 o_taped_j131 o_size_j131 o_token_j131 o_from_j131 o_end_j131 o_value_j131 o_faultKind_j131 o_faultPlace_j131 o_faults_j131 o_seen_j131 o_depth_j131 o_counted_j131 o_at_j131 o_names o_tape o_text_j131 o_opened_j131 = some u → va_P E.1 vwCl (wd_X12_weeks E a_o a_o_at a_o_names a_o_sort a_o_trayMany a_o_trays a_o_tape a_o_text a_o_opened a_o_farBy a_o_attendsBy a_o_coveredBy a_o_cameBy a_o_cameThen a_o_fallsBy a_o_loops a_o_ran a_o_told1 o_status_j131 o_top o_bottom o_taped_j131 o_size_j131 o_token_j131 o_from_j131 o_end_j131 o_value_j131 o_faultKind_j131 o_faultPlace_j131 o_faults_j131 o_seen_j131 o_toldParts o_depth_j131 o_counted_j131 o_becameThen o_firstCorner o_drawn o_ranSteps o_isTold o_marks o_at_j131 o_names o_tape o_text_j131 o_opened_j131) H → va_D A (wd_X12_weeks E a_o a_o_at a_o_names a_o_sort a_o_trayMany a_o_trays a_o_tape a_o_text a_o_opened a_o_farBy a_o_attendsBy a_o_coveredBy a_o_cameBy a_o_cameThen a_o_fallsBy a_o_loops a_o_ran a_o_told1 o_status_j131 o_top o_bottom o_taped_j131 o_size_j131 o_token_j131 o_from_j131 o_end_j131 o_value_j131 o_faultKind_j131 o_faultPlace_j131 o_faults_j131 o_seen_j131 o_toldParts o_depth_j131 o_counted_j131 o_becameThen o_firstCorner o_drawn o_ranSteps o_isTold o_marks o_at_j131 o_names o_tape o_text_j131 o_opened_j131) → va_S A s.heap H locs → lv_has ls 4 [(0, .ref a_o)] → W p l e (rmd 11) s m aa below meth cd H locs 0 0 QQ (F0 m 131 ls []) := by
    intro o_status_j131 o_taped_j131 o_size_j131 o_token_j131 o_from_j131 o_end_j131 o_value_j131 o_faultKind_j131 o_faultPlace_j131 o_faults_j131 o_seen_j131 o_depth_j131 o_counted_j131 o_at_j131 o_text_j131 o_opened_j131 H locs ls hf hP hD hS hl
    unfold X12_weeks_j131 at hf
    refine lv_aload_n hx hb dX12_weeks_131 rfl (lv_at hl 0 rfl) ?_
    refine lv_aload_n hx hb dX12_weeks_132 rfl (lv_at hl 0 rfl) ?_
    refine va_get (D := E.1) (ci := 12) (v := .int o_counted_j131) (C := RX12) (T := TX12) (N := 39) hx hb hts inX12 hown hK hP 0 rfl rfl 23 (by decide) (hts _ fl_X12_266) (fun _ h9 => h9) rfl dX12_weeks_133 ?_
    obtain ⟨u136, hu136, hf⟩ := bd hf
    refine callVI (wn := (wd_X12_weeks E a_o a_o_at a_o_names a_o_sort a_o_trayMany a_o_trays a_o_tape a_o_text a_o_opened a_o_farBy a_o_attendsBy a_o_coveredBy a_o_cameBy a_o_cameThen a_o_fallsBy a_o_loops a_o_ran a_o_told1 u136.2.1 o_top o_bottom o_taped_j131 o_size_j131 o_token_j131 o_from_j131 o_end_j131 o_value_j131 u136.2.2 o_faultPlace_j131 o_faults_j131 o_seen_j131 o_toldParts o_depth_j131 o_counted_j131 o_becameThen o_firstCorner o_drawn o_ranSteps o_isTold o_marks o_at_j131 o_names o_tape o_text_j131 o_opened_j131)) (n1 := 6) (ct_X12_taken l E a_o a_o_at a_o_names a_o_sort a_o_trayMany a_o_trays a_o_tape a_o_text a_o_opened a_o_farBy a_o_attendsBy a_o_coveredBy a_o_cameBy a_o_cameThen a_o_fallsBy a_o_loops a_o_ran a_o_told1 o_status_j131 o_top o_bottom o_taped_j131 o_size_j131 o_token_j131 o_from_j131 o_end_j131 o_value_j131 o_faultKind_j131 o_faultPlace_j131 o_faults_j131 o_seen_j131 o_toldParts o_depth_j131 o_counted_j131 o_becameThen o_firstCorner o_drawn o_ranSteps o_isTold o_marks o_counted_j131 u136 hu136) [0] cal_X12_taken cav_X12_taken lk_X12_251 cx hP hD hS hl dX12_weeks_136 rfl rfl rfl rfl (Nat.le_of_ble_eq_true rfl) ⟨Nat.le_of_ble_eq_true rfl, Nat.le_of_ble_eq_true rfl⟩ rfl (by decide +kernel) rfl [some 0, none, none, none, none, none] rfl (by decide +kernel) rfl (fun H locs hP hD hS => ?_)
    obtain rfl := Option.some.inj hf
    subst hq
    exact retI cx hP hD hS dX12_weeks_139
  have hj77 : ∀ (o_status_j77 : Int32) (o_taped_j77 : Int32) (o_size_j77 : Int32) (o_token_j77 : Int32) (o_from_j77 : Int32) (o_end_j77 : Int32) (o_value_j77 : Int32) (o_faultKind_j77 : Int32) (o_faultPlace_j77 : Int32) (o_faults_j77 : Int32) (o_seen_j77 : Int32) (o_depth_j77 : Int32) (o_counted_j77 : Int32) (o_at_j77 : Nat → Int32) (o_text_j77 : Nat → Int32) (o_opened_j77 : Nat → Int32) (H : Heap) (locs : List Loc) (ls : Array Slot), X12_weeks_j77 F o_status_j77 o_taped_j77 o_size_j77 o_token_j77 o_from_j77 o_end_j77 o_value_j77 o_faultKind_j77 o_faultPlace_j77 o_faults_j77 o_seen_j77 o_depth_j77 o_counted_j77 o_at_j77 o_names o_tape o_text_j77 o_opened_j77 = some u → va_P E.1 vwCl (wd_X12_weeks E a_o a_o_at a_o_names a_o_sort a_o_trayMany a_o_trays a_o_tape a_o_text a_o_opened a_o_farBy a_o_attendsBy a_o_coveredBy a_o_cameBy a_o_cameThen a_o_fallsBy a_o_loops a_o_ran a_o_told1 o_status_j77 o_top o_bottom o_taped_j77 o_size_j77 o_token_j77 o_from_j77 o_end_j77 o_value_j77 o_faultKind_j77 o_faultPlace_j77 o_faults_j77 o_seen_j77 o_toldParts o_depth_j77 o_counted_j77 o_becameThen o_firstCorner o_drawn o_ranSteps o_isTold o_marks o_at_j77 o_names o_tape o_text_j77 o_opened_j77) H → va_D A (wd_X12_weeks E a_o a_o_at a_o_names a_o_sort a_o_trayMany a_o_trays a_o_tape a_o_text a_o_opened a_o_farBy a_o_attendsBy a_o_coveredBy a_o_cameBy a_o_cameThen a_o_fallsBy a_o_loops a_o_ran a_o_told1 o_status_j77 o_top o_bottom o_taped_j77 o_size_j77 o_token_j77 o_from_j77 o_end_j77 o_value_j77 o_faultKind_j77 o_faultPlace_j77 o_faults_j77 o_seen_j77 o_toldParts o_depth_j77 o_counted_j77 o_becameThen o_firstCorner o_drawn o_ranSteps o_isTold o_marks o_at_j77 o_names o_tape o_text_j77 o_opened_j77) → va_S A s.heap H locs → lv_has ls 4 [(0, .ref a_o)] → W p l e (rmd 11) s m aa below meth cd H locs 0 0 QQ (F0 m 77 ls []) := by
    intro o_status_j77 o_taped_j77 o_size_j77 o_token_j77 o_from_j77 o_end_j77 o_value_j77 o_faultKind_j77 o_faultPlace_j77 o_faults_j77 o_seen_j77 o_depth_j77 o_counted_j77 o_at_j77 o_text_j77 o_opened_j77 H locs ls hf hP hD hS hl
    unfold X12_weeks_j77 at hf
    refine lv_aload_n hx hb dX12_weeks_77 rfl (lv_at hl 0 rfl) ?_
    refine va_get (D := E.1) (ci := 12) (v := .int o_faults_j77) (C := RX12) (T := TX12) (N := 39) hx hb hts inX12 hown hK hP 0 rfl rfl 18 (by decide) (hts _ fl_X12_155) (fun _ h9 => h9) rfl dX12_weeks_78 ?_
    refine lv_if_ne (tgt := 131) hx hb dX12_weeks_81 (by decide) (fun hc => ?_) (fun hc => ?_)
    · have hf := it_f hc hf
      exact hj131 _ _ _ _ _ _ _ _ _ _ _ _ _ _ _ _ _ _ _ hf hP hD hS (lv_sub hl [0] rfl)
    · have hf := it_t hc hf
      refine lv_aload_n hx hb dX12_weeks_84 rfl (lv_at hl 0 rfl) ?_
      refine va_get (D := E.1) (ci := 12) (v := .ref a_o_at) (C := RX12) (T := TX12) (N := 39) hx hb hts inX12 hown hK hP 0 rfl rfl 0 (by decide) (hts _ fl_X12_7) (fun _ h9 => h9) rfl dX12_weeks_85 ?_
      refine lv_bipush (v := 9) hx hb dX12_weeks_88 (by decide) ?_
      refine lv_aload_n hx hb dX12_weeks_90 rfl (lv_at hl 0 rfl) ?_
      refine va_get (D := E.1) (ci := 12) (v := .ref a_o_at) (C := RX12) (T := TX12) (N := 39) hx hb hts inX12 hown hK hP 0 rfl rfl 0 (by decide) (hts _ fl_X12_7) (fun _ h9 => h9) rfl dX12_weeks_91 ?_
      refine lv_sipush (v := 1989) hx hb dX12_weeks_94 (by decide) ?_
      obtain ⟨hi, hf⟩ := ck hf
      refine r_iald 1 cx hP rfl hi dX12_weeks_97 ?_
      obtain ⟨hi, hf⟩ := ck hf
      refine r_iast 1 cx hP hD hS rfl hi dX12_weeks_98 (fun H locs hP hD hS => ?_)
      have hP : va_P E.1 vwCl (wd_X12_weeks E a_o a_o_at a_o_names a_o_sort a_o_trayMany a_o_trays a_o_tape a_o_text a_o_opened a_o_farBy a_o_attendsBy a_o_coveredBy a_o_cameBy a_o_cameThen a_o_fallsBy a_o_loops a_o_ran a_o_told1 o_status_j77 o_top o_bottom o_taped_j77 o_size_j77 o_token_j77 o_from_j77 o_end_j77 o_value_j77 o_faultKind_j77 o_faultPlace_j77 o_faults_j77 o_seen_j77 o_toldParts o_depth_j77 o_counted_j77 o_becameThen o_firstCorner o_drawn o_ranSteps o_isTold o_marks (jput o_at_j77 9 (jat o_at_j77 1989)) o_names o_tape o_text_j77 o_opened_j77) H := hP
      have hD : va_D A (wd_X12_weeks E a_o a_o_at a_o_names a_o_sort a_o_trayMany a_o_trays a_o_tape a_o_text a_o_opened a_o_farBy a_o_attendsBy a_o_coveredBy a_o_cameBy a_o_cameThen a_o_fallsBy a_o_loops a_o_ran a_o_told1 o_status_j77 o_top o_bottom o_taped_j77 o_size_j77 o_token_j77 o_from_j77 o_end_j77 o_value_j77 o_faultKind_j77 o_faultPlace_j77 o_faults_j77 o_seen_j77 o_toldParts o_depth_j77 o_counted_j77 o_becameThen o_firstCorner o_drawn o_ranSteps o_isTold o_marks (jput o_at_j77 9 (jat o_at_j77 1989)) o_names o_tape o_text_j77 o_opened_j77) := hD
      refine lv_bipush (v := 127) hx hb dX12_weeks_99 (by decide) ?_
      refine lv_istore_n (lv' := [(3, .int 127), (0, .ref a_o)]) hx hb dX12_weeks_101 rfl hl (by decide) rfl (fun ls hl => ?_)
      obtain ⟨e102, hit102, hf⟩ := bd hf
      refine iter_W (b := X12_weeks_b102 F o_status_j77 o_taped_j77 o_size_j77 o_token_j77 o_from_j77 o_end_j77 o_value_j77 o_faultKind_j77 o_faultPlace_j77 o_faults_j77 o_seen_j77 o_depth_j77 o_counted_j77 o_names o_tape o_text_j77 o_opened_j77) (P := fun st102 => ∀ (H : Heap) (locs : List Loc) (ls : Array Slot), va_P E.1 vwCl (wd_X12_weeks E a_o a_o_at a_o_names a_o_sort a_o_trayMany a_o_trays a_o_tape a_o_text a_o_opened a_o_farBy a_o_attendsBy a_o_coveredBy a_o_cameBy a_o_cameThen a_o_fallsBy a_o_loops a_o_ran a_o_told1 o_status_j77 o_top o_bottom o_taped_j77 o_size_j77 o_token_j77 o_from_j77 o_end_j77 o_value_j77 o_faultKind_j77 o_faultPlace_j77 o_faults_j77 o_seen_j77 o_toldParts o_depth_j77 o_counted_j77 o_becameThen o_firstCorner o_drawn o_ranSteps o_isTold o_marks st102.2 o_names o_tape o_text_j77 o_opened_j77) H → va_D A (wd_X12_weeks E a_o a_o_at a_o_names a_o_sort a_o_trayMany a_o_trays a_o_tape a_o_text a_o_opened a_o_farBy a_o_attendsBy a_o_coveredBy a_o_cameBy a_o_cameThen a_o_fallsBy a_o_loops a_o_ran a_o_told1 o_status_j77 o_top o_bottom o_taped_j77 o_size_j77 o_token_j77 o_from_j77 o_end_j77 o_value_j77 o_faultKind_j77 o_faultPlace_j77 o_faults_j77 o_seen_j77 o_toldParts o_depth_j77 o_counted_j77 o_becameThen o_firstCorner o_drawn o_ranSteps o_isTold o_marks st102.2 o_names o_tape o_text_j77 o_opened_j77) → va_S A s.heap H locs → lv_has ls 4 [(0, .ref a_o), (3, .int st102.1)] → W p l e (rmd 11) s m aa below meth cd H locs 0 0 QQ (F0 m 102 ls [])) (G := (fun (e102 : (Nat → Int32)) => ∀ (H : Heap) (locs : List Loc) (ls : Array Slot), va_P E.1 vwCl (wd_X12_weeks E a_o a_o_at a_o_names a_o_sort a_o_trayMany a_o_trays a_o_tape a_o_text a_o_opened a_o_farBy a_o_attendsBy a_o_coveredBy a_o_cameBy a_o_cameThen a_o_fallsBy a_o_loops a_o_ran a_o_told1 o_status_j77 o_top o_bottom o_taped_j77 o_size_j77 o_token_j77 o_from_j77 o_end_j77 o_value_j77 o_faultKind_j77 o_faultPlace_j77 o_faults_j77 o_seen_j77 o_toldParts o_depth_j77 o_counted_j77 o_becameThen o_firstCorner o_drawn o_ranSteps o_isTold o_marks e102 o_names o_tape o_text_j77 o_opened_j77) H → va_D A (wd_X12_weeks E a_o a_o_at a_o_names a_o_sort a_o_trayMany a_o_trays a_o_tape a_o_text a_o_opened a_o_farBy a_o_attendsBy a_o_coveredBy a_o_cameBy a_o_cameThen a_o_fallsBy a_o_loops a_o_ran a_o_told1 o_status_j77 o_top o_bottom o_taped_j77 o_size_j77 o_token_j77 o_from_j77 o_end_j77 o_value_j77 o_faultKind_j77 o_faultPlace_j77 o_faults_j77 o_seen_j77 o_toldParts o_depth_j77 o_counted_j77 o_becameThen o_firstCorner o_drawn o_ranSteps o_isTold o_marks e102 o_names o_tape o_text_j77 o_opened_j77) → va_S A s.heap H locs → lv_has ls 4 [(0, .ref a_o)] → W p l e (rmd 11) s m aa below meth cd H locs 0 0 QQ (F0 m 131 ls []))) ?_ F (127, (jput o_at_j77 9 (jat o_at_j77 1989))) e102 hit102 ?_ _ _ _ hP hD hS (lv_sub hl [1, 0] rfl)
      · intro st102 r102 hf hk102 he102 H locs ls hP hD hS hl
        unfold X12_weeks_b102 at hf
        refine lv_iload_n hx hb dX12_weeks_102 rfl (lv_at hl 1 rfl) ?_
        refine lv_sipush (v := 487) hx hb dX12_weeks_103 (by decide) ?_
        refine lv_icmp_ge (tgt := 131) hx hb dX12_weeks_106 (by decide) (fun hc => ?_) (fun hc => ?_)
        · have hf := it_t hc hf
          exact he102 _ (Option.some.inj hf).symm _ _ _ hP hD hS (lv_sub hl [0] rfl)
        · have hf := it_f hc hf
          refine lv_aload_n hx hb dX12_weeks_109 rfl (lv_at hl 0 rfl) ?_
          refine va_get (D := E.1) (ci := 12) (v := .ref a_o_at) (C := RX12) (T := TX12) (N := 39) hx hb hts inX12 hown hK hP 0 rfl rfl 0 (by decide) (hts _ fl_X12_7) (fun _ h9 => h9) rfl dX12_weeks_110 ?_
          refine lv_iload_n hx hb dX12_weeks_113 rfl (lv_at hl 1 rfl) ?_
          refine lv_aload_n hx hb dX12_weeks_114 rfl (lv_at hl 0 rfl) ?_
          refine va_get (D := E.1) (ci := 12) (v := .ref a_o_at) (C := RX12) (T := TX12) (N := 39) hx hb hts inX12 hown hK hP 0 rfl rfl 0 (by decide) (hts _ fl_X12_7) (fun _ h9 => h9) rfl dX12_weeks_115 ?_
          refine lv_sipush (v := 1980) hx hb dX12_weeks_118 (by decide) ?_
          refine lv_iload_n hx hb dX12_weeks_121 rfl (lv_at hl 1 rfl) ?_
          refine lv_iadd hx hb dX12_weeks_122 ?_
          obtain ⟨hi, hf⟩ := ck hf
          refine r_iald 1 cx hP rfl hi dX12_weeks_123 ?_
          obtain ⟨hi, hf⟩ := ck hf
          refine r_iast 1 cx hP hD hS rfl hi dX12_weeks_124 (fun H locs hP hD hS => ?_)
          have hP : va_P E.1 vwCl (wd_X12_weeks E a_o a_o_at a_o_names a_o_sort a_o_trayMany a_o_trays a_o_tape a_o_text a_o_opened a_o_farBy a_o_attendsBy a_o_coveredBy a_o_cameBy a_o_cameThen a_o_fallsBy a_o_loops a_o_ran a_o_told1 o_status_j77 o_top o_bottom o_taped_j77 o_size_j77 o_token_j77 o_from_j77 o_end_j77 o_value_j77 o_faultKind_j77 o_faultPlace_j77 o_faults_j77 o_seen_j77 o_toldParts o_depth_j77 o_counted_j77 o_becameThen o_firstCorner o_drawn o_ranSteps o_isTold o_marks (jput st102.2 st102.1 (jat st102.2 (1980 + st102.1))) o_names o_tape o_text_j77 o_opened_j77) H := hP
          have hD : va_D A (wd_X12_weeks E a_o a_o_at a_o_names a_o_sort a_o_trayMany a_o_trays a_o_tape a_o_text a_o_opened a_o_farBy a_o_attendsBy a_o_coveredBy a_o_cameBy a_o_cameThen a_o_fallsBy a_o_loops a_o_ran a_o_told1 o_status_j77 o_top o_bottom o_taped_j77 o_size_j77 o_token_j77 o_from_j77 o_end_j77 o_value_j77 o_faultKind_j77 o_faultPlace_j77 o_faults_j77 o_seen_j77 o_toldParts o_depth_j77 o_counted_j77 o_becameThen o_firstCorner o_drawn o_ranSteps o_isTold o_marks (jput st102.2 st102.1 (jat st102.2 (1980 + st102.1))) o_names o_tape o_text_j77 o_opened_j77) := hD
          refine lv_iinc (v := (st102.1 + 1)) (lv' := [(3, .int (st102.1 + 1)), (0, .ref a_o)]) hx hb dX12_weeks_125 hl (k := 1) rfl rfl (by decide) rfl (fun ls hl => ?_)
          refine lv_goto (tgt := 102) hx hb dX12_weeks_128 (by decide) ?_
          exact hk102 _ (Option.some.inj hf).symm _ _ _ hP hD hS (lv_sub hl [1, 0] rfl)
      · refine fun H locs ls hP hD hS hl => ?_
        exact hj131 _ _ _ _ _ _ _ _ _ _ _ _ _ _ _ _ _ _ _ hf hP hD hS (lv_sub hl [0] rfl)
  have hj57 : ∀ (o_status_j57 : Int32) (o_taped_j57 : Int32) (o_size_j57 : Int32) (o_token_j57 : Int32) (o_from_j57 : Int32) (o_end_j57 : Int32) (o_value_j57 : Int32) (o_faultKind_j57 : Int32) (o_faultPlace_j57 : Int32) (o_faults_j57 : Int32) (o_seen_j57 : Int32) (o_depth_j57 : Int32) (o_counted_j57 : Int32) (o_at_j57 : Nat → Int32) (o_text_j57 : Nat → Int32) (o_opened_j57 : Nat → Int32) (H : Heap) (locs : List Loc) (ls : Array Slot), X12_weeks_j57 F o_status_j57 o_taped_j57 o_size_j57 o_token_j57 o_from_j57 o_end_j57 o_value_j57 o_faultKind_j57 o_faultPlace_j57 o_faults_j57 o_seen_j57 o_depth_j57 o_counted_j57 o_at_j57 o_names o_tape o_text_j57 o_opened_j57 = some u → va_P E.1 vwCl (wd_X12_weeks E a_o a_o_at a_o_names a_o_sort a_o_trayMany a_o_trays a_o_tape a_o_text a_o_opened a_o_farBy a_o_attendsBy a_o_coveredBy a_o_cameBy a_o_cameThen a_o_fallsBy a_o_loops a_o_ran a_o_told1 o_status_j57 o_top o_bottom o_taped_j57 o_size_j57 o_token_j57 o_from_j57 o_end_j57 o_value_j57 o_faultKind_j57 o_faultPlace_j57 o_faults_j57 o_seen_j57 o_toldParts o_depth_j57 o_counted_j57 o_becameThen o_firstCorner o_drawn o_ranSteps o_isTold o_marks o_at_j57 o_names o_tape o_text_j57 o_opened_j57) H → va_D A (wd_X12_weeks E a_o a_o_at a_o_names a_o_sort a_o_trayMany a_o_trays a_o_tape a_o_text a_o_opened a_o_farBy a_o_attendsBy a_o_coveredBy a_o_cameBy a_o_cameThen a_o_fallsBy a_o_loops a_o_ran a_o_told1 o_status_j57 o_top o_bottom o_taped_j57 o_size_j57 o_token_j57 o_from_j57 o_end_j57 o_value_j57 o_faultKind_j57 o_faultPlace_j57 o_faults_j57 o_seen_j57 o_toldParts o_depth_j57 o_counted_j57 o_becameThen o_firstCorner o_drawn o_ranSteps o_isTold o_marks o_at_j57 o_names o_tape o_text_j57 o_opened_j57) → va_S A s.heap H locs → lv_has ls 4 [(0, .ref a_o)] → W p l e (rmd 11) s m aa below meth cd H locs 0 0 QQ (F0 m 57 ls []) := by
    intro o_status_j57 o_taped_j57 o_size_j57 o_token_j57 o_from_j57 o_end_j57 o_value_j57 o_faultKind_j57 o_faultPlace_j57 o_faults_j57 o_seen_j57 o_depth_j57 o_counted_j57 o_at_j57 o_text_j57 o_opened_j57 H locs ls hf hP hD hS hl
    unfold X12_weeks_j57 at hf
    refine lv_aload_n hx hb dX12_weeks_57 rfl (lv_at hl 0 rfl) ?_
    refine va_get (D := E.1) (ci := 12) (v := .int o_faults_j57) (C := RX12) (T := TX12) (N := 39) hx hb hts inX12 hown hK hP 0 rfl rfl 18 (by decide) (hts _ fl_X12_155) (fun _ h9 => h9) rfl dX12_weeks_58 ?_
    refine lv_if_ne (tgt := 77) hx hb dX12_weeks_61 (by decide) (fun hc => ?_) (fun hc => ?_)
    · have hf := it_f hc hf
      exact hj77 _ _ _ _ _ _ _ _ _ _ _ _ _ _ _ _ _ _ _ hf hP hD hS (lv_sub hl [0] rfl)
    · have hf := it_t hc hf
      refine lv_aload_n hx hb dX12_weeks_64 rfl (lv_at hl 0 rfl) ?_
      refine va_get (D := E.1) (ci := 12) (v := .int o_depth_j57) (C := RX12) (T := TX12) (N := 39) hx hb hts inX12 hown hK hP 0 rfl rfl 22 (by decide) (hts _ fl_X12_263) (fun _ h9 => h9) rfl dX12_weeks_65 ?_
      refine lv_if_le (tgt := 77) hx hb dX12_weeks_68 (by decide) (fun hc => ?_) (fun hc => ?_)
      · have hf := it_t hc hf
        exact hj77 _ _ _ _ _ _ _ _ _ _ _ _ _ _ _ _ _ _ _ hf hP hD hS (lv_sub hl [0] rfl)
      · have hf := it_f hc hf
        refine lv_aload_n hx hb dX12_weeks_71 rfl (lv_at hl 0 rfl) ?_
        refine lv_iconst (v := 2) hx hb dX12_weeks_72 (by decide) ?_
        obtain ⟨u73, hu73, hf⟩ := bd hf
        refine callVI (wn := (wd_X12_weeks E a_o a_o_at a_o_names a_o_sort a_o_trayMany a_o_trays a_o_tape a_o_text a_o_opened a_o_farBy a_o_attendsBy a_o_coveredBy a_o_cameBy a_o_cameThen a_o_fallsBy a_o_loops a_o_ran a_o_told1 o_status_j57 o_top o_bottom o_taped_j57 o_size_j57 o_token_j57 o_from_j57 o_end_j57 o_value_j57 o_faultKind_j57 u73.2.1 u73.2.2 o_seen_j57 o_toldParts o_depth_j57 o_counted_j57 o_becameThen o_firstCorner o_drawn o_ranSteps o_isTold o_marks o_at_j57 o_names o_tape o_text_j57 o_opened_j57)) (n1 := 6) (ct_X12_fails l E a_o a_o_at a_o_names a_o_sort a_o_trayMany a_o_trays a_o_tape a_o_text a_o_opened a_o_farBy a_o_attendsBy a_o_coveredBy a_o_cameBy a_o_cameThen a_o_fallsBy a_o_loops a_o_ran a_o_told1 o_status_j57 o_top o_bottom o_taped_j57 o_size_j57 o_token_j57 o_from_j57 o_end_j57 o_value_j57 o_faultKind_j57 o_faultPlace_j57 o_faults_j57 o_seen_j57 o_toldParts o_depth_j57 o_counted_j57 o_becameThen o_firstCorner o_drawn o_ranSteps o_isTold o_marks (2 : Int32) u73 hu73) [0] cal_X12_fails cav_X12_fails lk_X12_167 cx hP hD hS hl dX12_weeks_73 rfl rfl rfl rfl (Nat.le_of_ble_eq_true rfl) ⟨Nat.le_of_ble_eq_true rfl, Nat.le_of_ble_eq_true rfl⟩ rfl (by decide +kernel) rfl [some 0, none, none, none, none, none] rfl (by decide +kernel) rfl (fun H locs hP hD hS => ?_)
        refine lv_pop hx hb dX12_weeks_76 rfl ?_
        exact hj77 _ _ _ _ _ _ _ _ _ _ _ _ _ _ _ _ _ _ _ hf hP hD hS (lv_sub hl [0] rfl)
  unfold X12_weeks at hf
  refine lv_aload_n hx hb dX12_weeks_0 rfl (lv_at hl 0 rfl) ?_
  refine lv_iload_n hx hb dX12_weeks_1 rfl (lv_at hl 1 rfl) ?_
  refine lv_sipush (v := 300) hx hb dX12_weeks_2 (by decide) ?_
  obtain ⟨u5, hu5, hf⟩ := bd hf
  refine callVI (wn := (wd_X12_weeks E a_o a_o_at a_o_names a_o_sort a_o_trayMany a_o_trays a_o_tape a_o_text a_o_opened a_o_farBy a_o_attendsBy a_o_coveredBy a_o_cameBy a_o_cameThen a_o_fallsBy a_o_loops a_o_ran a_o_told1 o_status o_top o_bottom (u5.1 1) (u5.1 2) (u5.1 3) (u5.1 4) (u5.1 5) (u5.1 6) o_faultKind (u5.1 7) (u5.1 8) (u5.1 9) o_toldParts o_depth o_counted o_becameThen o_firstCorner o_drawn o_ranSteps o_isTold o_marks o_at o_names o_tape (u5.2.2.1 0) o_opened)) (n1 := 6) (ct_X12_begins l E F a_o a_o_at a_o_names a_o_sort a_o_trayMany a_o_trays a_o_tape a_o_text a_o_opened a_o_farBy a_o_attendsBy a_o_coveredBy a_o_cameBy a_o_cameThen a_o_fallsBy a_o_loops a_o_ran a_o_told1 o_status o_top o_bottom o_taped o_size o_token o_from o_end o_value o_faultKind o_faultPlace o_faults o_seen o_toldParts o_depth o_counted o_becameThen o_firstCorner o_drawn o_ranSteps o_isTold o_marks o_tape o_text v1 (300 : Int32) u5 hu5) [0, 3, 4] cal_X12_begins cav_X12_begins lk_X12_244 cx hP hD hS hl dX12_weeks_5 rfl rfl rfl rfl (Nat.le_of_ble_eq_true rfl) ⟨Nat.le_of_ble_eq_true rfl, Nat.le_of_ble_eq_true rfl⟩ rfl (by decide +kernel) rfl [some 0, none, none, some 1, some 2, none] rfl (by decide +kernel) rfl (fun H locs hP hD hS => ?_)
  refine lv_if_ne (tgt := 17) hx hb dX12_weeks_8 (by decide) (fun hc => ?_) (fun hc => ?_)
  · have hf := it_f hc hf
    refine lv_aload_n hx hb dX12_weeks_17 rfl (lv_at hl 0 rfl) ?_
    refine va_get (D := E.1) (ci := 12) (v := .ref a_o_at) (C := RX12) (T := TX12) (N := 39) hx hb hts inX12 hown hK hP 0 rfl rfl 0 (by decide) (hts _ fl_X12_7) (fun _ h9 => h9) rfl dX12_weeks_18 ?_
    refine lv_sipush (v := 1989) hx hb dX12_weeks_21 (by decide) ?_
    refine lv_iconst (v := 0) hx hb dX12_weeks_24 (by decide) ?_
    obtain ⟨hi, hf⟩ := ck hf
    refine r_iast 1 cx hP hD hS rfl hi dX12_weeks_25 (fun H locs hP hD hS => ?_)
    have hP : va_P E.1 vwCl (wd_X12_weeks E a_o a_o_at a_o_names a_o_sort a_o_trayMany a_o_trays a_o_tape a_o_text a_o_opened a_o_farBy a_o_attendsBy a_o_coveredBy a_o_cameBy a_o_cameThen a_o_fallsBy a_o_loops a_o_ran a_o_told1 o_status o_top o_bottom (u5.1 1) (u5.1 2) (u5.1 3) (u5.1 4) (u5.1 5) (u5.1 6) o_faultKind (u5.1 7) (u5.1 8) (u5.1 9) o_toldParts o_depth o_counted o_becameThen o_firstCorner o_drawn o_ranSteps o_isTold o_marks (jput o_at 1989 0) o_names o_tape (u5.2.2.1 0) o_opened) H := hP
    have hD : va_D A (wd_X12_weeks E a_o a_o_at a_o_names a_o_sort a_o_trayMany a_o_trays a_o_tape a_o_text a_o_opened a_o_farBy a_o_attendsBy a_o_coveredBy a_o_cameBy a_o_cameThen a_o_fallsBy a_o_loops a_o_ran a_o_told1 o_status o_top o_bottom (u5.1 1) (u5.1 2) (u5.1 3) (u5.1 4) (u5.1 5) (u5.1 6) o_faultKind (u5.1 7) (u5.1 8) (u5.1 9) o_toldParts o_depth o_counted o_becameThen o_firstCorner o_drawn o_ranSteps o_isTold o_marks (jput o_at 1989 0) o_names o_tape (u5.2.2.1 0) o_opened) := hD
    refine lv_aload_n hx hb dX12_weeks_26 rfl (lv_at hl 0 rfl) ?_
    refine lv_iconst (v := 0) hx hb dX12_weeks_27 (by decide) ?_
    refine va_put (D := E.1) (ci := 12) (v := .int 0) (ty := .int) (C := RX12) (T := TX12) (N := 39) hx hb hts inX12 tyX12 tyX12_ok nmX12 hown hK hP hD hS 0 rfl rfl 22 (by decide) (hts _ fl_X12_263) (fun _ h9 => h9) rfl (by decide +kernel) rfl rfl (Nat.le_of_ble_eq_true rfl) dX12_weeks_28 (fun H locs hP hD hS => ?_)
    have hP : va_P E.1 vwCl (wd_X12_weeks E a_o a_o_at a_o_names a_o_sort a_o_trayMany a_o_trays a_o_tape a_o_text a_o_opened a_o_farBy a_o_attendsBy a_o_coveredBy a_o_cameBy a_o_cameThen a_o_fallsBy a_o_loops a_o_ran a_o_told1 o_status o_top o_bottom (u5.1 1) (u5.1 2) (u5.1 3) (u5.1 4) (u5.1 5) (u5.1 6) o_faultKind (u5.1 7) (u5.1 8) (u5.1 9) o_toldParts 0 o_counted o_becameThen o_firstCorner o_drawn o_ranSteps o_isTold o_marks (jput o_at 1989 0) o_names o_tape (u5.2.2.1 0) o_opened) H := hP
    have hD : va_D A (wd_X12_weeks E a_o a_o_at a_o_names a_o_sort a_o_trayMany a_o_trays a_o_tape a_o_text a_o_opened a_o_farBy a_o_attendsBy a_o_coveredBy a_o_cameBy a_o_cameThen a_o_fallsBy a_o_loops a_o_ran a_o_told1 o_status o_top o_bottom (u5.1 1) (u5.1 2) (u5.1 3) (u5.1 4) (u5.1 5) (u5.1 6) o_faultKind (u5.1 7) (u5.1 8) (u5.1 9) o_toldParts 0 o_counted o_becameThen o_firstCorner o_drawn o_ranSteps o_isTold o_marks (jput o_at 1989 0) o_names o_tape (u5.2.2.1 0) o_opened) := hD
    refine lv_aload_n hx hb dX12_weeks_31 rfl (lv_at hl 0 rfl) ?_
    refine lv_iconst (v := 0) hx hb dX12_weeks_32 (by decide) ?_
    refine va_put (D := E.1) (ci := 12) (v := .int 0) (ty := .int) (C := RX12) (T := TX12) (N := 39) hx hb hts inX12 tyX12 tyX12_ok nmX12 hown hK hP hD hS 0 rfl rfl 23 (by decide) (hts _ fl_X12_266) (fun _ h9 => h9) rfl (by decide +kernel) rfl rfl (Nat.le_of_ble_eq_true rfl) dX12_weeks_33 (fun H locs hP hD hS => ?_)
    have hP : va_P E.1 vwCl (wd_X12_weeks E a_o a_o_at a_o_names a_o_sort a_o_trayMany a_o_trays a_o_tape a_o_text a_o_opened a_o_farBy a_o_attendsBy a_o_coveredBy a_o_cameBy a_o_cameThen a_o_fallsBy a_o_loops a_o_ran a_o_told1 o_status o_top o_bottom (u5.1 1) (u5.1 2) (u5.1 3) (u5.1 4) (u5.1 5) (u5.1 6) o_faultKind (u5.1 7) (u5.1 8) (u5.1 9) o_toldParts 0 0 o_becameThen o_firstCorner o_drawn o_ranSteps o_isTold o_marks (jput o_at 1989 0) o_names o_tape (u5.2.2.1 0) o_opened) H := hP
    have hD : va_D A (wd_X12_weeks E a_o a_o_at a_o_names a_o_sort a_o_trayMany a_o_trays a_o_tape a_o_text a_o_opened a_o_farBy a_o_attendsBy a_o_coveredBy a_o_cameBy a_o_cameThen a_o_fallsBy a_o_loops a_o_ran a_o_told1 o_status o_top o_bottom (u5.1 1) (u5.1 2) (u5.1 3) (u5.1 4) (u5.1 5) (u5.1 6) o_faultKind (u5.1 7) (u5.1 8) (u5.1 9) o_toldParts 0 0 o_becameThen o_firstCorner o_drawn o_ranSteps o_isTold o_marks (jput o_at 1989 0) o_names o_tape (u5.2.2.1 0) o_opened) := hD
    refine lv_iconst (v := 1) hx hb dX12_weeks_36 (by decide) ?_
    refine lv_istore_n (lv' := [(2, .int 1), (0, .ref a_o), (1, .int v1)]) hx hb dX12_weeks_37 rfl hl (by decide) rfl (fun ls hl => ?_)
    obtain ⟨e38, hit38, hf⟩ := bd hf
    refine iter_W (b := X12_weeks_b38 F o_status (u5.1 1) (u5.1 2) o_faultKind (u5.1 9) o_names o_tape (u5.2.2.1 0)) (P := fun st38 => ∀ (H : Heap) (locs : List Loc) (ls : Array Slot), va_P E.1 vwCl (wd_X12_weeks E a_o a_o_at a_o_names a_o_sort a_o_trayMany a_o_trays a_o_tape a_o_text a_o_opened a_o_farBy a_o_attendsBy a_o_coveredBy a_o_cameBy a_o_cameThen a_o_fallsBy a_o_loops a_o_ran a_o_told1 o_status o_top o_bottom (u5.1 1) (u5.1 2) (st38.1 1) (st38.1 2) (st38.1 3) (st38.1 4) o_faultKind (st38.1 5) (st38.1 6) (u5.1 9) o_toldParts (st38.1 7) (st38.1 8) o_becameThen o_firstCorner o_drawn o_ranSteps o_isTold o_marks (st38.2.2.1 0) o_names o_tape (u5.2.2.1 0) (st38.2.2.1 1)) H → va_D A (wd_X12_weeks E a_o a_o_at a_o_names a_o_sort a_o_trayMany a_o_trays a_o_tape a_o_text a_o_opened a_o_farBy a_o_attendsBy a_o_coveredBy a_o_cameBy a_o_cameThen a_o_fallsBy a_o_loops a_o_ran a_o_told1 o_status o_top o_bottom (u5.1 1) (u5.1 2) (st38.1 1) (st38.1 2) (st38.1 3) (st38.1 4) o_faultKind (st38.1 5) (st38.1 6) (u5.1 9) o_toldParts (st38.1 7) (st38.1 8) o_becameThen o_firstCorner o_drawn o_ranSteps o_isTold o_marks (st38.2.2.1 0) o_names o_tape (u5.2.2.1 0) (st38.2.2.1 1)) → va_S A s.heap H locs → lv_has ls 4 [(0, .ref a_o), (2, .int (st38.1 0))] → W p l e (rmd 11) s m aa below meth cd H locs 0 0 QQ (F0 m 38 ls [])) (G := (fun (e38 : Int32 × Int32 × Int32 × Int32 × Int32 × Int32 × Int32 × Int32 × (Nat → Int32) × (Nat → Int32)) => ∀ (H : Heap) (locs : List Loc) (ls : Array Slot), va_P E.1 vwCl (wd_X12_weeks E a_o a_o_at a_o_names a_o_sort a_o_trayMany a_o_trays a_o_tape a_o_text a_o_opened a_o_farBy a_o_attendsBy a_o_coveredBy a_o_cameBy a_o_cameThen a_o_fallsBy a_o_loops a_o_ran a_o_told1 o_status o_top o_bottom (u5.1 1) (u5.1 2) e38.1 e38.2.1 e38.2.2.1 e38.2.2.2.1 o_faultKind e38.2.2.2.2.1 e38.2.2.2.2.2.1 (u5.1 9) o_toldParts e38.2.2.2.2.2.2.1 e38.2.2.2.2.2.2.2.1 o_becameThen o_firstCorner o_drawn o_ranSteps o_isTold o_marks e38.2.2.2.2.2.2.2.2.1 o_names o_tape (u5.2.2.1 0) e38.2.2.2.2.2.2.2.2.2) H → va_D A (wd_X12_weeks E a_o a_o_at a_o_names a_o_sort a_o_trayMany a_o_trays a_o_tape a_o_text a_o_opened a_o_farBy a_o_attendsBy a_o_coveredBy a_o_cameBy a_o_cameThen a_o_fallsBy a_o_loops a_o_ran a_o_told1 o_status o_top o_bottom (u5.1 1) (u5.1 2) e38.1 e38.2.1 e38.2.2.1 e38.2.2.2.1 o_faultKind e38.2.2.2.2.1 e38.2.2.2.2.2.1 (u5.1 9) o_toldParts e38.2.2.2.2.2.2.1 e38.2.2.2.2.2.2.2.1 o_becameThen o_firstCorner o_drawn o_ranSteps o_isTold o_marks e38.2.2.2.2.2.2.2.2.1 o_names o_tape (u5.2.2.1 0) e38.2.2.2.2.2.2.2.2.2) → va_S A s.heap H locs → lv_has ls 4 [(0, .ref a_o)] → W p l e (rmd 11) s m aa below meth cd H locs 0 0 QQ (F0 m 57 ls []))) ?_ F (mkS [1, (u5.1 3), (u5.1 4), (u5.1 5), (u5.1 6), (u5.1 7), (u5.1 8), 0, 0] [] [(jput o_at 1989 0), o_opened] []) e38 hit38 ?_ _ _ _ hP hD hS (lv_sub hl [1, 0] rfl)
    · intro st38 r38 hf hk38 he38 H locs ls hP hD hS hl
      unfold X12_weeks_b38 at hf
      refine lv_iload_n hx hb dX12_weeks_38 rfl (lv_at hl 1 rfl) ?_
      refine lv_if_eq (tgt := 57) hx hb dX12_weeks_39 (by decide) (fun hc => ?_) (fun hc => ?_)
      · have hf := it_t hc hf
        exact he38 _ (Option.some.inj hf).symm _ _ _ hP hD hS (lv_sub hl [0] rfl)
      · have hf := it_f hc hf
        refine lv_aload_n hx hb dX12_weeks_42 rfl (lv_at hl 0 rfl) ?_
        refine va_get (D := E.1) (ci := 12) (v := .int (st38.1 1)) (C := RX12) (T := TX12) (N := 39) hx hb hts inX12 hown hK hP 0 rfl rfl 12 (by decide) (hts _ fl_X12_130) (fun _ h9 => h9) rfl dX12_weeks_43 ?_
        refine lv_if_eq (tgt := 57) hx hb dX12_weeks_46 (by decide) (fun hc => ?_) (fun hc => ?_)
        · have hf := it_t hc hf
          exact he38 _ (Option.some.inj hf).symm _ _ _ hP hD hS (lv_sub hl [0] rfl)
        · have hf := it_f hc hf
          refine lv_aload_n hx hb dX12_weeks_49 rfl (lv_at hl 0 rfl) ?_
          obtain ⟨u50, hu50, hf⟩ := bd hf
          refine callVI (wn := (wd_X12_weeks E a_o a_o_at a_o_names a_o_sort a_o_trayMany a_o_trays a_o_tape a_o_text a_o_opened a_o_farBy a_o_attendsBy a_o_coveredBy a_o_cameBy a_o_cameThen a_o_fallsBy a_o_loops a_o_ran a_o_told1 o_status o_top o_bottom (u5.1 1) (u5.1 2) (u50.1 1) (u50.1 2) (u50.1 3) (u50.1 4) o_faultKind (u50.1 5) (u50.1 6) (u5.1 9) o_toldParts (u50.1 7) (u50.1 8) o_becameThen o_firstCorner o_drawn o_ranSteps o_isTold o_marks (u50.2.2.1 0) o_names o_tape (u5.2.2.1 0) (u50.2.2.1 1))) (n1 := 6) (ct_X12_weekStep l E F a_o a_o_at a_o_names a_o_sort a_o_trayMany a_o_trays a_o_tape a_o_text a_o_opened a_o_farBy a_o_attendsBy a_o_coveredBy a_o_cameBy a_o_cameThen a_o_fallsBy a_o_loops a_o_ran a_o_told1 o_status o_top o_bottom (u5.1 1) (u5.1 2) (st38.1 1) (st38.1 2) (st38.1 3) (st38.1 4) o_faultKind (st38.1 5) (st38.1 6) (u5.1 9) o_toldParts (st38.1 7) (st38.1 8) o_becameThen o_firstCorner o_drawn o_ranSteps o_isTold o_marks (st38.2.2.1 0) o_names (u5.2.2.1 0) (st38.2.2.1 1) u50 hu50) [0, 1, 2, 4, 5] cal_X12_weekStep cav_X12_weekStep lk_X12_272 cx hP hD hS hl dX12_weeks_50 rfl rfl rfl rfl (Nat.le_of_ble_eq_true rfl) ⟨Nat.le_of_ble_eq_true rfl, Nat.le_of_ble_eq_true rfl⟩ rfl (by decide +kernel) rfl [some 0, some 1, some 2, none, some 3, some 4] rfl (by decide +kernel) rfl (fun H locs hP hD hS => ?_)
          refine lv_istore_n (lv' := [(2, .int (u50.1 0)), (0, .ref a_o)]) hx hb dX12_weeks_53 rfl hl (by decide) rfl (fun ls hl => ?_)
          refine lv_goto (tgt := 38) hx hb dX12_weeks_54 (by decide) ?_
          exact hk38 _ (Option.some.inj hf).symm _ _ _ hP hD hS (lv_sub hl [1, 0] rfl)
    · refine fun H locs ls hP hD hS hl => ?_
      exact hj57 _ _ _ _ _ _ _ _ _ _ _ _ _ _ _ _ _ _ _ hf hP hD hS (lv_sub hl [0] rfl)
  · have hf := it_t hc hf
    refine lv_aload_n hx hb dX12_weeks_11 rfl (lv_at hl 0 rfl) ?_
    refine lv_iconst (v := 1) hx hb dX12_weeks_12 (by decide) ?_
    obtain ⟨u13, hu13, hf⟩ := bd hf
    refine callVI (wn := (wd_X12_weeks E a_o a_o_at a_o_names a_o_sort a_o_trayMany a_o_trays a_o_tape a_o_text a_o_opened a_o_farBy a_o_attendsBy a_o_coveredBy a_o_cameBy a_o_cameThen a_o_fallsBy a_o_loops a_o_ran a_o_told1 u13.2 o_top o_bottom (u5.1 1) (u5.1 2) (u5.1 3) (u5.1 4) (u5.1 5) (u5.1 6) o_faultKind (u5.1 7) (u5.1 8) (u5.1 9) o_toldParts o_depth o_counted o_becameThen o_firstCorner o_drawn o_ranSteps o_isTold o_marks o_at o_names o_tape (u5.2.2.1 0) o_opened)) (n1 := 6) (ct_X12_refuse l E a_o a_o_at a_o_names a_o_sort a_o_trayMany a_o_trays a_o_tape a_o_text a_o_opened a_o_farBy a_o_attendsBy a_o_coveredBy a_o_cameBy a_o_cameThen a_o_fallsBy a_o_loops a_o_ran a_o_told1 o_status o_top o_bottom (u5.1 1) (u5.1 2) (u5.1 3) (u5.1 4) (u5.1 5) (u5.1 6) o_faultKind (u5.1 7) (u5.1 8) (u5.1 9) o_toldParts o_depth o_counted o_becameThen o_firstCorner o_drawn o_ranSteps o_isTold o_marks (1 : Int32) u13 hu13) [0] cal_X12_refuse cav_X12_refuse lk_X12_85 cx hP hD hS hl dX12_weeks_13 rfl rfl rfl rfl (Nat.le_of_ble_eq_true rfl) ⟨Nat.le_of_ble_eq_true rfl, Nat.le_of_ble_eq_true rfl⟩ rfl (by decide +kernel) rfl [some 0, none, none, none, none, none] rfl (by decide +kernel) rfl (fun H locs hP hD hS => ?_)
    obtain rfl := Option.some.inj hf
    subst hq
    exact retI cx hP hD hS dX12_weeks_16
def X12_isCorner_j18 (o_at : Nat → Int32) : Option (Int32) :=
  some 0
def X12_isCorner (o_at : Nat → Int32) (v1 : Int32) : Option (Int32) :=
  if v1 < 0 then
  X12_isCorner_j18 o_at
  else
  if ix 0 3097 then
  if (jat o_at 0) ≤ v1 then
  X12_isCorner_j18 o_at
  else
  some 1
  else none
abbrev wd_X12_isCorner (E : vE) (a_o a_o_at a_o_names a_o_sort a_o_trayMany a_o_trays a_o_tape a_o_text a_o_opened a_o_farBy a_o_attendsBy a_o_coveredBy a_o_cameBy a_o_cameThen a_o_fallsBy a_o_loops a_o_ran a_o_told1 : Nat) (o_status : Int32) (o_top : Int64) (o_bottom : Int64) (o_taped : Int32) (o_size : Int32) (o_token : Int32) (o_from : Int32) (o_end : Int32) (o_value : Int32) (o_faultKind : Int32) (o_faultPlace : Int32) (o_faults : Int32) (o_seen : Int32) (o_toldParts : Int32) (o_depth : Int32) (o_counted : Int32) (o_becameThen : Int32) (o_firstCorner : Int32) (o_drawn : Int32) (o_ranSteps : Int32) (o_isTold : Int32) (o_marks : Int32) (o_at : Nat → Int32) : va_W := [(a_o, .inr (12, [.ref a_o_at, .ref a_o_names, .int o_status, .long o_top, .long o_bottom, .ref a_o_sort, .ref a_o_trayMany, .ref a_o_trays, .ref a_o_tape, .ref a_o_text, .int o_taped, .int o_size, .int o_token, .int o_from, .int o_end, .int o_value, .int o_faultKind, .int o_faultPlace, .int o_faults, .int o_seen, .int o_toldParts, .ref a_o_opened, .int o_depth, .int o_counted, .ref a_o_farBy, .int o_becameThen, .ref a_o_attendsBy, .ref a_o_coveredBy, .ref a_o_cameBy, .ref a_o_cameThen, .int o_firstCorner, .ref a_o_fallsBy, .int o_drawn, .int o_ranSteps, .ref a_o_loops, .ref a_o_ran, .ref a_o_told1, .int o_isTold, .int o_marks])), (a_o_at, .inl (E.2.1, 3097, .inl o_at))]
set_option maxHeartbeats 4000000 in
set_option maxRecDepth 100000 in
theorem ct_X12_isCorner (l : Launch) (E : vE) (a_o a_o_at a_o_names a_o_sort a_o_trayMany a_o_trays a_o_tape a_o_text a_o_opened a_o_farBy a_o_attendsBy a_o_coveredBy a_o_cameBy a_o_cameThen a_o_fallsBy a_o_loops a_o_ran a_o_told1 : Nat) (o_status : Int32) (o_top : Int64) (o_bottom : Int64) (o_taped : Int32) (o_size : Int32) (o_token : Int32) (o_from : Int32) (o_end : Int32) (o_value : Int32) (o_faultKind : Int32) (o_faultPlace : Int32) (o_faults : Int32) (o_seen : Int32) (o_toldParts : Int32) (o_depth : Int32) (o_counted : Int32) (o_becameThen : Int32) (o_firstCorner : Int32) (o_drawn : Int32) (o_ranSteps : Int32) (o_isTold : Int32) (o_marks : Int32) (o_at : Nat → Int32) (v1 : Int32) (u : Int32) (hf : X12_isCorner o_at v1 = some u) :
    CtI l yX12_isCorner cX12_isCorner 2 (some .boolean) 0 E [.ref a_o, .int v1] (wd_X12_isCorner E a_o a_o_at a_o_names a_o_sort a_o_trayMany a_o_trays a_o_tape a_o_text a_o_opened a_o_farBy a_o_attendsBy a_o_coveredBy a_o_cameBy a_o_cameThen a_o_fallsBy a_o_loops a_o_ran a_o_told1 o_status o_top o_bottom o_taped o_size o_token o_from o_end o_value o_faultKind o_faultPlace o_faults o_seen o_toldParts o_depth o_counted o_becameThen o_firstCorner o_drawn o_ranSteps o_isTold o_marks o_at) (wd_X12_isCorner E a_o a_o_at a_o_names a_o_sort a_o_trayMany a_o_trays a_o_tape a_o_text a_o_opened a_o_farBy a_o_attendsBy a_o_coveredBy a_o_cameBy a_o_cameThen a_o_fallsBy a_o_loops a_o_ran a_o_told1 o_status o_top o_bottom o_taped o_size o_token o_from o_end o_value o_faultKind o_faultPlace o_faults o_seen o_toldParts o_depth o_counted o_becameThen o_firstCorner o_drawn o_ranSteps o_isTold o_marks o_at) u := by
  refine ctI (by decide) (Nat.le_of_ble_eq_true rfl) ?_
  intro p e s m below meth cd A ls aa QQ hq cx hP hD hS hl
  obtain ⟨⟨hx, hb, hml, hown, hts⟩, hr, hlocks, hK, hA, hX⟩ := id cx
  have hl : lv_has ls 2 [(0, .ref a_o), (1, .int v1)] := hl
  have hj18 : ∀ (H : Heap) (locs : List Loc) (ls : Array Slot), X12_isCorner_j18 o_at = some u → va_P E.1 vwCl (wd_X12_isCorner E a_o a_o_at a_o_names a_o_sort a_o_trayMany a_o_trays a_o_tape a_o_text a_o_opened a_o_farBy a_o_attendsBy a_o_coveredBy a_o_cameBy a_o_cameThen a_o_fallsBy a_o_loops a_o_ran a_o_told1 o_status o_top o_bottom o_taped o_size o_token o_from o_end o_value o_faultKind o_faultPlace o_faults o_seen o_toldParts o_depth o_counted o_becameThen o_firstCorner o_drawn o_ranSteps o_isTold o_marks o_at) H → va_D A (wd_X12_isCorner E a_o a_o_at a_o_names a_o_sort a_o_trayMany a_o_trays a_o_tape a_o_text a_o_opened a_o_farBy a_o_attendsBy a_o_coveredBy a_o_cameBy a_o_cameThen a_o_fallsBy a_o_loops a_o_ran a_o_told1 o_status o_top o_bottom o_taped o_size o_token o_from o_end o_value o_faultKind o_faultPlace o_faults o_seen o_toldParts o_depth o_counted o_becameThen o_firstCorner o_drawn o_ranSteps o_isTold o_marks o_at) → va_S A s.heap H locs → lv_has ls 2 [] → W p l e (rmd 0) s m aa below meth cd H locs 0 0 QQ (F0 m 18 ls []) := by
    intro H locs ls hf hP hD hS hl
    unfold X12_isCorner_j18 at hf
    refine lv_iconst (v := 0) hx hb dX12_isCorner_18 (by decide) ?_
    obtain rfl := Option.some.inj hf
    subst hq
    exact retZ cx rfl hP hD hS dX12_isCorner_19
  unfold X12_isCorner at hf
  refine lv_iload_n hx hb dX12_isCorner_0 rfl (lv_at hl 1 rfl) ?_
  refine lv_if_lt (tgt := 18) hx hb dX12_isCorner_1 (by decide) (fun hc => ?_) (fun hc => ?_)
  · have hf := it_t hc hf
    exact hj18  _ _ _ hf hP hD hS (lv_sub hl [] rfl)
  · have hf := it_f hc hf
    refine lv_iload_n hx hb dX12_isCorner_4 rfl (lv_at hl 1 rfl) ?_
    refine lv_aload_n hx hb dX12_isCorner_5 rfl (lv_at hl 0 rfl) ?_
    refine va_get (D := E.1) (ci := 12) (v := .ref a_o_at) (C := RX12) (T := TX12) (N := 39) hx hb hts inX12 hown hK hP 0 rfl rfl 0 (by decide) (hts _ fl_X12_7) (fun _ h9 => h9) rfl dX12_isCorner_6 ?_
    refine lv_iconst (v := 0) hx hb dX12_isCorner_9 (by decide) ?_
    obtain ⟨hi, hf⟩ := ck hf
    refine r_iald 1 cx hP rfl hi dX12_isCorner_10 ?_
    refine lv_icmp_ge (tgt := 18) hx hb dX12_isCorner_11 (by decide) (fun hc => ?_) (fun hc => ?_)
    · have hf := it_t hc hf
      exact hj18  _ _ _ hf hP hD hS (lv_sub hl [] rfl)
    · have hf := it_f hc hf
      refine lv_iconst (v := 1) hx hb dX12_isCorner_14 (by decide) ?_
      refine lv_goto (tgt := 19) hx hb dX12_isCorner_15 (by decide) ?_
      obtain rfl := Option.some.inj hf
      subst hq
      exact retZ cx rfl hP hD hS dX12_isCorner_19
def X12_isExtra_j18 (o_at : Nat → Int32) : Option (Int32) :=
  some 0
def X12_isExtra (o_at : Nat → Int32) (v1 : Int32) : Option (Int32) :=
  if v1 < 0 then
  X12_isExtra_j18 o_at
  else
  if ix 2 3097 then
  if (jat o_at 2) ≤ v1 then
  X12_isExtra_j18 o_at
  else
  some 1
  else none
abbrev wd_X12_isExtra (E : vE) (a_o a_o_at a_o_names a_o_sort a_o_trayMany a_o_trays a_o_tape a_o_text a_o_opened a_o_farBy a_o_attendsBy a_o_coveredBy a_o_cameBy a_o_cameThen a_o_fallsBy a_o_loops a_o_ran a_o_told1 : Nat) (o_status : Int32) (o_top : Int64) (o_bottom : Int64) (o_taped : Int32) (o_size : Int32) (o_token : Int32) (o_from : Int32) (o_end : Int32) (o_value : Int32) (o_faultKind : Int32) (o_faultPlace : Int32) (o_faults : Int32) (o_seen : Int32) (o_toldParts : Int32) (o_depth : Int32) (o_counted : Int32) (o_becameThen : Int32) (o_firstCorner : Int32) (o_drawn : Int32) (o_ranSteps : Int32) (o_isTold : Int32) (o_marks : Int32) (o_at : Nat → Int32) : va_W := [(a_o, .inr (12, [.ref a_o_at, .ref a_o_names, .int o_status, .long o_top, .long o_bottom, .ref a_o_sort, .ref a_o_trayMany, .ref a_o_trays, .ref a_o_tape, .ref a_o_text, .int o_taped, .int o_size, .int o_token, .int o_from, .int o_end, .int o_value, .int o_faultKind, .int o_faultPlace, .int o_faults, .int o_seen, .int o_toldParts, .ref a_o_opened, .int o_depth, .int o_counted, .ref a_o_farBy, .int o_becameThen, .ref a_o_attendsBy, .ref a_o_coveredBy, .ref a_o_cameBy, .ref a_o_cameThen, .int o_firstCorner, .ref a_o_fallsBy, .int o_drawn, .int o_ranSteps, .ref a_o_loops, .ref a_o_ran, .ref a_o_told1, .int o_isTold, .int o_marks])), (a_o_at, .inl (E.2.1, 3097, .inl o_at))]
set_option maxHeartbeats 4000000 in
set_option maxRecDepth 100000 in
theorem ct_X12_isExtra (l : Launch) (E : vE) (a_o a_o_at a_o_names a_o_sort a_o_trayMany a_o_trays a_o_tape a_o_text a_o_opened a_o_farBy a_o_attendsBy a_o_coveredBy a_o_cameBy a_o_cameThen a_o_fallsBy a_o_loops a_o_ran a_o_told1 : Nat) (o_status : Int32) (o_top : Int64) (o_bottom : Int64) (o_taped : Int32) (o_size : Int32) (o_token : Int32) (o_from : Int32) (o_end : Int32) (o_value : Int32) (o_faultKind : Int32) (o_faultPlace : Int32) (o_faults : Int32) (o_seen : Int32) (o_toldParts : Int32) (o_depth : Int32) (o_counted : Int32) (o_becameThen : Int32) (o_firstCorner : Int32) (o_drawn : Int32) (o_ranSteps : Int32) (o_isTold : Int32) (o_marks : Int32) (o_at : Nat → Int32) (v1 : Int32) (u : Int32) (hf : X12_isExtra o_at v1 = some u) :
    CtI l yX12_isExtra cX12_isExtra 2 (some .boolean) 0 E [.ref a_o, .int v1] (wd_X12_isExtra E a_o a_o_at a_o_names a_o_sort a_o_trayMany a_o_trays a_o_tape a_o_text a_o_opened a_o_farBy a_o_attendsBy a_o_coveredBy a_o_cameBy a_o_cameThen a_o_fallsBy a_o_loops a_o_ran a_o_told1 o_status o_top o_bottom o_taped o_size o_token o_from o_end o_value o_faultKind o_faultPlace o_faults o_seen o_toldParts o_depth o_counted o_becameThen o_firstCorner o_drawn o_ranSteps o_isTold o_marks o_at) (wd_X12_isExtra E a_o a_o_at a_o_names a_o_sort a_o_trayMany a_o_trays a_o_tape a_o_text a_o_opened a_o_farBy a_o_attendsBy a_o_coveredBy a_o_cameBy a_o_cameThen a_o_fallsBy a_o_loops a_o_ran a_o_told1 o_status o_top o_bottom o_taped o_size o_token o_from o_end o_value o_faultKind o_faultPlace o_faults o_seen o_toldParts o_depth o_counted o_becameThen o_firstCorner o_drawn o_ranSteps o_isTold o_marks o_at) u := by
  refine ctI (by decide) (Nat.le_of_ble_eq_true rfl) ?_
  intro p e s m below meth cd A ls aa QQ hq cx hP hD hS hl
  obtain ⟨⟨hx, hb, hml, hown, hts⟩, hr, hlocks, hK, hA, hX⟩ := id cx
  have hl : lv_has ls 2 [(0, .ref a_o), (1, .int v1)] := hl
  have hj18 : ∀ (H : Heap) (locs : List Loc) (ls : Array Slot), X12_isExtra_j18 o_at = some u → va_P E.1 vwCl (wd_X12_isExtra E a_o a_o_at a_o_names a_o_sort a_o_trayMany a_o_trays a_o_tape a_o_text a_o_opened a_o_farBy a_o_attendsBy a_o_coveredBy a_o_cameBy a_o_cameThen a_o_fallsBy a_o_loops a_o_ran a_o_told1 o_status o_top o_bottom o_taped o_size o_token o_from o_end o_value o_faultKind o_faultPlace o_faults o_seen o_toldParts o_depth o_counted o_becameThen o_firstCorner o_drawn o_ranSteps o_isTold o_marks o_at) H → va_D A (wd_X12_isExtra E a_o a_o_at a_o_names a_o_sort a_o_trayMany a_o_trays a_o_tape a_o_text a_o_opened a_o_farBy a_o_attendsBy a_o_coveredBy a_o_cameBy a_o_cameThen a_o_fallsBy a_o_loops a_o_ran a_o_told1 o_status o_top o_bottom o_taped o_size o_token o_from o_end o_value o_faultKind o_faultPlace o_faults o_seen o_toldParts o_depth o_counted o_becameThen o_firstCorner o_drawn o_ranSteps o_isTold o_marks o_at) → va_S A s.heap H locs → lv_has ls 2 [] → W p l e (rmd 0) s m aa below meth cd H locs 0 0 QQ (F0 m 18 ls []) := by
    intro H locs ls hf hP hD hS hl
    unfold X12_isExtra_j18 at hf
    refine lv_iconst (v := 0) hx hb dX12_isExtra_18 (by decide) ?_
    obtain rfl := Option.some.inj hf
    subst hq
    exact retZ cx rfl hP hD hS dX12_isExtra_19
  unfold X12_isExtra at hf
  refine lv_iload_n hx hb dX12_isExtra_0 rfl (lv_at hl 1 rfl) ?_
  refine lv_if_lt (tgt := 18) hx hb dX12_isExtra_1 (by decide) (fun hc => ?_) (fun hc => ?_)
  · have hf := it_t hc hf
    exact hj18  _ _ _ hf hP hD hS (lv_sub hl [] rfl)
  · have hf := it_f hc hf
    refine lv_iload_n hx hb dX12_isExtra_4 rfl (lv_at hl 1 rfl) ?_
    refine lv_aload_n hx hb dX12_isExtra_5 rfl (lv_at hl 0 rfl) ?_
    refine va_get (D := E.1) (ci := 12) (v := .ref a_o_at) (C := RX12) (T := TX12) (N := 39) hx hb hts inX12 hown hK hP 0 rfl rfl 0 (by decide) (hts _ fl_X12_7) (fun _ h9 => h9) rfl dX12_isExtra_6 ?_
    refine lv_iconst (v := 2) hx hb dX12_isExtra_9 (by decide) ?_
    obtain ⟨hi, hf⟩ := ck hf
    refine r_iald 1 cx hP rfl hi dX12_isExtra_10 ?_
    refine lv_icmp_ge (tgt := 18) hx hb dX12_isExtra_11 (by decide) (fun hc => ?_) (fun hc => ?_)
    · have hf := it_t hc hf
      exact hj18  _ _ _ hf hP hD hS (lv_sub hl [] rfl)
    · have hf := it_f hc hf
      refine lv_iconst (v := 1) hx hb dX12_isExtra_14 (by decide) ?_
      refine lv_goto (tgt := 19) hx hb dX12_isExtra_15 (by decide) ?_
      obtain rfl := Option.some.inj hf
      subst hq
      exact retZ cx rfl hP hD hS dX12_isExtra_19
def X12_isHappening_j18 (o_at : Nat → Int32) : Option (Int32) :=
  some 0
def X12_isHappening (o_at : Nat → Int32) (v1 : Int32) : Option (Int32) :=
  if v1 < 0 then
  X12_isHappening_j18 o_at
  else
  if ix 3 3097 then
  if (jat o_at 3) ≤ v1 then
  X12_isHappening_j18 o_at
  else
  some 1
  else none
abbrev wd_X12_isHappening (E : vE) (a_o a_o_at a_o_names a_o_sort a_o_trayMany a_o_trays a_o_tape a_o_text a_o_opened a_o_farBy a_o_attendsBy a_o_coveredBy a_o_cameBy a_o_cameThen a_o_fallsBy a_o_loops a_o_ran a_o_told1 : Nat) (o_status : Int32) (o_top : Int64) (o_bottom : Int64) (o_taped : Int32) (o_size : Int32) (o_token : Int32) (o_from : Int32) (o_end : Int32) (o_value : Int32) (o_faultKind : Int32) (o_faultPlace : Int32) (o_faults : Int32) (o_seen : Int32) (o_toldParts : Int32) (o_depth : Int32) (o_counted : Int32) (o_becameThen : Int32) (o_firstCorner : Int32) (o_drawn : Int32) (o_ranSteps : Int32) (o_isTold : Int32) (o_marks : Int32) (o_at : Nat → Int32) : va_W := [(a_o, .inr (12, [.ref a_o_at, .ref a_o_names, .int o_status, .long o_top, .long o_bottom, .ref a_o_sort, .ref a_o_trayMany, .ref a_o_trays, .ref a_o_tape, .ref a_o_text, .int o_taped, .int o_size, .int o_token, .int o_from, .int o_end, .int o_value, .int o_faultKind, .int o_faultPlace, .int o_faults, .int o_seen, .int o_toldParts, .ref a_o_opened, .int o_depth, .int o_counted, .ref a_o_farBy, .int o_becameThen, .ref a_o_attendsBy, .ref a_o_coveredBy, .ref a_o_cameBy, .ref a_o_cameThen, .int o_firstCorner, .ref a_o_fallsBy, .int o_drawn, .int o_ranSteps, .ref a_o_loops, .ref a_o_ran, .ref a_o_told1, .int o_isTold, .int o_marks])), (a_o_at, .inl (E.2.1, 3097, .inl o_at))]
set_option maxHeartbeats 4000000 in
set_option maxRecDepth 100000 in
theorem ct_X12_isHappening (l : Launch) (E : vE) (a_o a_o_at a_o_names a_o_sort a_o_trayMany a_o_trays a_o_tape a_o_text a_o_opened a_o_farBy a_o_attendsBy a_o_coveredBy a_o_cameBy a_o_cameThen a_o_fallsBy a_o_loops a_o_ran a_o_told1 : Nat) (o_status : Int32) (o_top : Int64) (o_bottom : Int64) (o_taped : Int32) (o_size : Int32) (o_token : Int32) (o_from : Int32) (o_end : Int32) (o_value : Int32) (o_faultKind : Int32) (o_faultPlace : Int32) (o_faults : Int32) (o_seen : Int32) (o_toldParts : Int32) (o_depth : Int32) (o_counted : Int32) (o_becameThen : Int32) (o_firstCorner : Int32) (o_drawn : Int32) (o_ranSteps : Int32) (o_isTold : Int32) (o_marks : Int32) (o_at : Nat → Int32) (v1 : Int32) (u : Int32) (hf : X12_isHappening o_at v1 = some u) :
    CtI l yX12_isHappening cX12_isHappening 2 (some .boolean) 0 E [.ref a_o, .int v1] (wd_X12_isHappening E a_o a_o_at a_o_names a_o_sort a_o_trayMany a_o_trays a_o_tape a_o_text a_o_opened a_o_farBy a_o_attendsBy a_o_coveredBy a_o_cameBy a_o_cameThen a_o_fallsBy a_o_loops a_o_ran a_o_told1 o_status o_top o_bottom o_taped o_size o_token o_from o_end o_value o_faultKind o_faultPlace o_faults o_seen o_toldParts o_depth o_counted o_becameThen o_firstCorner o_drawn o_ranSteps o_isTold o_marks o_at) (wd_X12_isHappening E a_o a_o_at a_o_names a_o_sort a_o_trayMany a_o_trays a_o_tape a_o_text a_o_opened a_o_farBy a_o_attendsBy a_o_coveredBy a_o_cameBy a_o_cameThen a_o_fallsBy a_o_loops a_o_ran a_o_told1 o_status o_top o_bottom o_taped o_size o_token o_from o_end o_value o_faultKind o_faultPlace o_faults o_seen o_toldParts o_depth o_counted o_becameThen o_firstCorner o_drawn o_ranSteps o_isTold o_marks o_at) u := by
  refine ctI (by decide) (Nat.le_of_ble_eq_true rfl) ?_
  intro p e s m below meth cd A ls aa QQ hq cx hP hD hS hl
  obtain ⟨⟨hx, hb, hml, hown, hts⟩, hr, hlocks, hK, hA, hX⟩ := id cx
  have hl : lv_has ls 2 [(0, .ref a_o), (1, .int v1)] := hl
  have hj18 : ∀ (H : Heap) (locs : List Loc) (ls : Array Slot), X12_isHappening_j18 o_at = some u → va_P E.1 vwCl (wd_X12_isHappening E a_o a_o_at a_o_names a_o_sort a_o_trayMany a_o_trays a_o_tape a_o_text a_o_opened a_o_farBy a_o_attendsBy a_o_coveredBy a_o_cameBy a_o_cameThen a_o_fallsBy a_o_loops a_o_ran a_o_told1 o_status o_top o_bottom o_taped o_size o_token o_from o_end o_value o_faultKind o_faultPlace o_faults o_seen o_toldParts o_depth o_counted o_becameThen o_firstCorner o_drawn o_ranSteps o_isTold o_marks o_at) H → va_D A (wd_X12_isHappening E a_o a_o_at a_o_names a_o_sort a_o_trayMany a_o_trays a_o_tape a_o_text a_o_opened a_o_farBy a_o_attendsBy a_o_coveredBy a_o_cameBy a_o_cameThen a_o_fallsBy a_o_loops a_o_ran a_o_told1 o_status o_top o_bottom o_taped o_size o_token o_from o_end o_value o_faultKind o_faultPlace o_faults o_seen o_toldParts o_depth o_counted o_becameThen o_firstCorner o_drawn o_ranSteps o_isTold o_marks o_at) → va_S A s.heap H locs → lv_has ls 2 [] → W p l e (rmd 0) s m aa below meth cd H locs 0 0 QQ (F0 m 18 ls []) := by
    intro H locs ls hf hP hD hS hl
    unfold X12_isHappening_j18 at hf
    refine lv_iconst (v := 0) hx hb dX12_isHappening_18 (by decide) ?_
    obtain rfl := Option.some.inj hf
    subst hq
    exact retZ cx rfl hP hD hS dX12_isHappening_19
  unfold X12_isHappening at hf
  refine lv_iload_n hx hb dX12_isHappening_0 rfl (lv_at hl 1 rfl) ?_
  refine lv_if_lt (tgt := 18) hx hb dX12_isHappening_1 (by decide) (fun hc => ?_) (fun hc => ?_)
  · have hf := it_t hc hf
    exact hj18  _ _ _ hf hP hD hS (lv_sub hl [] rfl)
  · have hf := it_f hc hf
    refine lv_iload_n hx hb dX12_isHappening_4 rfl (lv_at hl 1 rfl) ?_
    refine lv_aload_n hx hb dX12_isHappening_5 rfl (lv_at hl 0 rfl) ?_
    refine va_get (D := E.1) (ci := 12) (v := .ref a_o_at) (C := RX12) (T := TX12) (N := 39) hx hb hts inX12 hown hK hP 0 rfl rfl 0 (by decide) (hts _ fl_X12_7) (fun _ h9 => h9) rfl dX12_isHappening_6 ?_
    refine lv_iconst (v := 3) hx hb dX12_isHappening_9 (by decide) ?_
    obtain ⟨hi, hf⟩ := ck hf
    refine r_iald 1 cx hP rfl hi dX12_isHappening_10 ?_
    refine lv_icmp_ge (tgt := 18) hx hb dX12_isHappening_11 (by decide) (fun hc => ?_) (fun hc => ?_)
    · have hf := it_t hc hf
      exact hj18  _ _ _ hf hP hD hS (lv_sub hl [] rfl)
    · have hf := it_f hc hf
      refine lv_iconst (v := 1) hx hb dX12_isHappening_14 (by decide) ?_
      refine lv_goto (tgt := 19) hx hb dX12_isHappening_15 (by decide) ?_
      obtain rfl := Option.some.inj hf
      subst hq
      exact retZ cx rfl hP hD hS dX12_isHappening_19
def X12_isWatcher_j18 (o_at : Nat → Int32) : Option (Int32) :=
  some 0
def X12_isWatcher (o_at : Nat → Int32) (v1 : Int32) : Option (Int32) :=
  if v1 < 0 then
  X12_isWatcher_j18 o_at
  else
  if ix 4 3097 then
  if (jat o_at 4) ≤ v1 then
  X12_isWatcher_j18 o_at
  else
  some 1
  else none
abbrev wd_X12_isWatcher (E : vE) (a_o a_o_at a_o_names a_o_sort a_o_trayMany a_o_trays a_o_tape a_o_text a_o_opened a_o_farBy a_o_attendsBy a_o_coveredBy a_o_cameBy a_o_cameThen a_o_fallsBy a_o_loops a_o_ran a_o_told1 : Nat) (o_status : Int32) (o_top : Int64) (o_bottom : Int64) (o_taped : Int32) (o_size : Int32) (o_token : Int32) (o_from : Int32) (o_end : Int32) (o_value : Int32) (o_faultKind : Int32) (o_faultPlace : Int32) (o_faults : Int32) (o_seen : Int32) (o_toldParts : Int32) (o_depth : Int32) (o_counted : Int32) (o_becameThen : Int32) (o_firstCorner : Int32) (o_drawn : Int32) (o_ranSteps : Int32) (o_isTold : Int32) (o_marks : Int32) (o_at : Nat → Int32) : va_W := [(a_o, .inr (12, [.ref a_o_at, .ref a_o_names, .int o_status, .long o_top, .long o_bottom, .ref a_o_sort, .ref a_o_trayMany, .ref a_o_trays, .ref a_o_tape, .ref a_o_text, .int o_taped, .int o_size, .int o_token, .int o_from, .int o_end, .int o_value, .int o_faultKind, .int o_faultPlace, .int o_faults, .int o_seen, .int o_toldParts, .ref a_o_opened, .int o_depth, .int o_counted, .ref a_o_farBy, .int o_becameThen, .ref a_o_attendsBy, .ref a_o_coveredBy, .ref a_o_cameBy, .ref a_o_cameThen, .int o_firstCorner, .ref a_o_fallsBy, .int o_drawn, .int o_ranSteps, .ref a_o_loops, .ref a_o_ran, .ref a_o_told1, .int o_isTold, .int o_marks])), (a_o_at, .inl (E.2.1, 3097, .inl o_at))]
set_option maxHeartbeats 4000000 in
set_option maxRecDepth 100000 in
theorem ct_X12_isWatcher (l : Launch) (E : vE) (a_o a_o_at a_o_names a_o_sort a_o_trayMany a_o_trays a_o_tape a_o_text a_o_opened a_o_farBy a_o_attendsBy a_o_coveredBy a_o_cameBy a_o_cameThen a_o_fallsBy a_o_loops a_o_ran a_o_told1 : Nat) (o_status : Int32) (o_top : Int64) (o_bottom : Int64) (o_taped : Int32) (o_size : Int32) (o_token : Int32) (o_from : Int32) (o_end : Int32) (o_value : Int32) (o_faultKind : Int32) (o_faultPlace : Int32) (o_faults : Int32) (o_seen : Int32) (o_toldParts : Int32) (o_depth : Int32) (o_counted : Int32) (o_becameThen : Int32) (o_firstCorner : Int32) (o_drawn : Int32) (o_ranSteps : Int32) (o_isTold : Int32) (o_marks : Int32) (o_at : Nat → Int32) (v1 : Int32) (u : Int32) (hf : X12_isWatcher o_at v1 = some u) :
    CtI l yX12_isWatcher cX12_isWatcher 2 (some .boolean) 0 E [.ref a_o, .int v1] (wd_X12_isWatcher E a_o a_o_at a_o_names a_o_sort a_o_trayMany a_o_trays a_o_tape a_o_text a_o_opened a_o_farBy a_o_attendsBy a_o_coveredBy a_o_cameBy a_o_cameThen a_o_fallsBy a_o_loops a_o_ran a_o_told1 o_status o_top o_bottom o_taped o_size o_token o_from o_end o_value o_faultKind o_faultPlace o_faults o_seen o_toldParts o_depth o_counted o_becameThen o_firstCorner o_drawn o_ranSteps o_isTold o_marks o_at) (wd_X12_isWatcher E a_o a_o_at a_o_names a_o_sort a_o_trayMany a_o_trays a_o_tape a_o_text a_o_opened a_o_farBy a_o_attendsBy a_o_coveredBy a_o_cameBy a_o_cameThen a_o_fallsBy a_o_loops a_o_ran a_o_told1 o_status o_top o_bottom o_taped o_size o_token o_from o_end o_value o_faultKind o_faultPlace o_faults o_seen o_toldParts o_depth o_counted o_becameThen o_firstCorner o_drawn o_ranSteps o_isTold o_marks o_at) u := by
  refine ctI (by decide) (Nat.le_of_ble_eq_true rfl) ?_
  intro p e s m below meth cd A ls aa QQ hq cx hP hD hS hl
  obtain ⟨⟨hx, hb, hml, hown, hts⟩, hr, hlocks, hK, hA, hX⟩ := id cx
  have hl : lv_has ls 2 [(0, .ref a_o), (1, .int v1)] := hl
  have hj18 : ∀ (H : Heap) (locs : List Loc) (ls : Array Slot), X12_isWatcher_j18 o_at = some u → va_P E.1 vwCl (wd_X12_isWatcher E a_o a_o_at a_o_names a_o_sort a_o_trayMany a_o_trays a_o_tape a_o_text a_o_opened a_o_farBy a_o_attendsBy a_o_coveredBy a_o_cameBy a_o_cameThen a_o_fallsBy a_o_loops a_o_ran a_o_told1 o_status o_top o_bottom o_taped o_size o_token o_from o_end o_value o_faultKind o_faultPlace o_faults o_seen o_toldParts o_depth o_counted o_becameThen o_firstCorner o_drawn o_ranSteps o_isTold o_marks o_at) H → va_D A (wd_X12_isWatcher E a_o a_o_at a_o_names a_o_sort a_o_trayMany a_o_trays a_o_tape a_o_text a_o_opened a_o_farBy a_o_attendsBy a_o_coveredBy a_o_cameBy a_o_cameThen a_o_fallsBy a_o_loops a_o_ran a_o_told1 o_status o_top o_bottom o_taped o_size o_token o_from o_end o_value o_faultKind o_faultPlace o_faults o_seen o_toldParts o_depth o_counted o_becameThen o_firstCorner o_drawn o_ranSteps o_isTold o_marks o_at) → va_S A s.heap H locs → lv_has ls 2 [] → W p l e (rmd 0) s m aa below meth cd H locs 0 0 QQ (F0 m 18 ls []) := by
    intro H locs ls hf hP hD hS hl
    unfold X12_isWatcher_j18 at hf
    refine lv_iconst (v := 0) hx hb dX12_isWatcher_18 (by decide) ?_
    obtain rfl := Option.some.inj hf
    subst hq
    exact retZ cx rfl hP hD hS dX12_isWatcher_19
  unfold X12_isWatcher at hf
  refine lv_iload_n hx hb dX12_isWatcher_0 rfl (lv_at hl 1 rfl) ?_
  refine lv_if_lt (tgt := 18) hx hb dX12_isWatcher_1 (by decide) (fun hc => ?_) (fun hc => ?_)
  · have hf := it_t hc hf
    exact hj18  _ _ _ hf hP hD hS (lv_sub hl [] rfl)
  · have hf := it_f hc hf
    refine lv_iload_n hx hb dX12_isWatcher_4 rfl (lv_at hl 1 rfl) ?_
    refine lv_aload_n hx hb dX12_isWatcher_5 rfl (lv_at hl 0 rfl) ?_
    refine va_get (D := E.1) (ci := 12) (v := .ref a_o_at) (C := RX12) (T := TX12) (N := 39) hx hb hts inX12 hown hK hP 0 rfl rfl 0 (by decide) (hts _ fl_X12_7) (fun _ h9 => h9) rfl dX12_isWatcher_6 ?_
    refine lv_iconst (v := 4) hx hb dX12_isWatcher_9 (by decide) ?_
    obtain ⟨hi, hf⟩ := ck hf
    refine r_iald 1 cx hP rfl hi dX12_isWatcher_10 ?_
    refine lv_icmp_ge (tgt := 18) hx hb dX12_isWatcher_11 (by decide) (fun hc => ?_) (fun hc => ?_)
    · have hf := it_t hc hf
      exact hj18  _ _ _ hf hP hD hS (lv_sub hl [] rfl)
    · have hf := it_f hc hf
      refine lv_iconst (v := 1) hx hb dX12_isWatcher_14 (by decide) ?_
      refine lv_goto (tgt := 19) hx hb dX12_isWatcher_15 (by decide) ?_
      obtain rfl := Option.some.inj hf
      subst hq
      exact retZ cx rfl hP hD hS dX12_isWatcher_19
def X12_isIn (v1 : Int32) (v2 : Int32) : Option (Int32) :=
  if ((jshr v1 v2) &&& 1) = 1 then
  some 1
  else
  some 0
abbrev wd_X12_isIn (E : vE) (a_o a_o_at a_o_names a_o_sort a_o_trayMany a_o_trays a_o_tape a_o_text a_o_opened a_o_farBy a_o_attendsBy a_o_coveredBy a_o_cameBy a_o_cameThen a_o_fallsBy a_o_loops a_o_ran a_o_told1 : Nat) (o_status : Int32) (o_top : Int64) (o_bottom : Int64) (o_taped : Int32) (o_size : Int32) (o_token : Int32) (o_from : Int32) (o_end : Int32) (o_value : Int32) (o_faultKind : Int32) (o_faultPlace : Int32) (o_faults : Int32) (o_seen : Int32) (o_toldParts : Int32) (o_depth : Int32) (o_counted : Int32) (o_becameThen : Int32) (o_firstCorner : Int32) (o_drawn : Int32) (o_ranSteps : Int32) (o_isTold : Int32) (o_marks : Int32) : va_W := [(a_o, .inr (12, [.ref a_o_at, .ref a_o_names, .int o_status, .long o_top, .long o_bottom, .ref a_o_sort, .ref a_o_trayMany, .ref a_o_trays, .ref a_o_tape, .ref a_o_text, .int o_taped, .int o_size, .int o_token, .int o_from, .int o_end, .int o_value, .int o_faultKind, .int o_faultPlace, .int o_faults, .int o_seen, .int o_toldParts, .ref a_o_opened, .int o_depth, .int o_counted, .ref a_o_farBy, .int o_becameThen, .ref a_o_attendsBy, .ref a_o_coveredBy, .ref a_o_cameBy, .ref a_o_cameThen, .int o_firstCorner, .ref a_o_fallsBy, .int o_drawn, .int o_ranSteps, .ref a_o_loops, .ref a_o_ran, .ref a_o_told1, .int o_isTold, .int o_marks]))]
set_option maxHeartbeats 4000000 in
set_option maxRecDepth 100000 in
theorem ct_X12_isIn (l : Launch) (E : vE) (a_o a_o_at a_o_names a_o_sort a_o_trayMany a_o_trays a_o_tape a_o_text a_o_opened a_o_farBy a_o_attendsBy a_o_coveredBy a_o_cameBy a_o_cameThen a_o_fallsBy a_o_loops a_o_ran a_o_told1 : Nat) (o_status : Int32) (o_top : Int64) (o_bottom : Int64) (o_taped : Int32) (o_size : Int32) (o_token : Int32) (o_from : Int32) (o_end : Int32) (o_value : Int32) (o_faultKind : Int32) (o_faultPlace : Int32) (o_faults : Int32) (o_seen : Int32) (o_toldParts : Int32) (o_depth : Int32) (o_counted : Int32) (o_becameThen : Int32) (o_firstCorner : Int32) (o_drawn : Int32) (o_ranSteps : Int32) (o_isTold : Int32) (o_marks : Int32) (v1 : Int32) (v2 : Int32) (u : Int32) (hf : X12_isIn v1 v2 = some u) :
    CtI l yX12_isIn cX12_isIn 3 (some .boolean) 0 E [.ref a_o, .int v1, .int v2] (wd_X12_isIn E a_o a_o_at a_o_names a_o_sort a_o_trayMany a_o_trays a_o_tape a_o_text a_o_opened a_o_farBy a_o_attendsBy a_o_coveredBy a_o_cameBy a_o_cameThen a_o_fallsBy a_o_loops a_o_ran a_o_told1 o_status o_top o_bottom o_taped o_size o_token o_from o_end o_value o_faultKind o_faultPlace o_faults o_seen o_toldParts o_depth o_counted o_becameThen o_firstCorner o_drawn o_ranSteps o_isTold o_marks) (wd_X12_isIn E a_o a_o_at a_o_names a_o_sort a_o_trayMany a_o_trays a_o_tape a_o_text a_o_opened a_o_farBy a_o_attendsBy a_o_coveredBy a_o_cameBy a_o_cameThen a_o_fallsBy a_o_loops a_o_ran a_o_told1 o_status o_top o_bottom o_taped o_size o_token o_from o_end o_value o_faultKind o_faultPlace o_faults o_seen o_toldParts o_depth o_counted o_becameThen o_firstCorner o_drawn o_ranSteps o_isTold o_marks) u := by
  refine ctI (by decide) (Nat.le_of_ble_eq_true rfl) ?_
  intro p e s m below meth cd A ls aa QQ hq cx hP hD hS hl
  obtain ⟨⟨hx, hb, hml, hown, hts⟩, hr, hlocks, hK, hA, hX⟩ := id cx
  have hl : lv_has ls 3 [(0, .ref a_o), (1, .int v1), (2, .int v2)] := hl
  unfold X12_isIn at hf
  refine lv_iload_n hx hb dX12_isIn_0 rfl (lv_at hl 1 rfl) ?_
  refine lv_iload_n hx hb dX12_isIn_1 rfl (lv_at hl 2 rfl) ?_
  refine r_ishr hx hb dX12_isIn_2 ?_
  refine lv_iconst (v := 1) hx hb dX12_isIn_3 (by decide) ?_
  refine lv_iand hx hb dX12_isIn_4 ?_
  refine lv_iconst (v := 1) hx hb dX12_isIn_5 (by decide) ?_
  refine lv_icmp_ne (tgt := 13) hx hb dX12_isIn_6 (by decide) (fun hc => ?_) (fun hc => ?_)
  · have hf := it_f hc hf
    refine lv_iconst (v := 0) hx hb dX12_isIn_13 (by decide) ?_
    obtain rfl := Option.some.inj hf
    subst hq
    exact retZ cx rfl hP hD hS dX12_isIn_14
  · have hf := it_t hc hf
    refine lv_iconst (v := 1) hx hb dX12_isIn_9 (by decide) ?_
    refine lv_goto (tgt := 14) hx hb dX12_isIn_10 (by decide) ?_
    obtain rfl := Option.some.inj hf
    subst hq
    exact retZ cx rfl hP hD hS dX12_isIn_14
def X12_bits_b4 (F : Nat) (st4 : Int32 × Int32) : Option ((Int32 × Int32) ⊕ ((Int32))) :=
  if st4.2 = 0 then
  some (.inr st4.1)
  else
  some (.inl ((st4.1 + 1), (st4.2 &&& (st4.2 - 1))))
def X12_bits (F : Nat) (v0 : Int32) : Option (Int32) :=
  (iter (X12_bits_b4 F) F (0, v0)).bind (fun (e4 : Int32) =>
    some e4)
abbrev wd_X12_bits (E : vE) : va_W := []
set_option maxHeartbeats 4000000 in
set_option maxRecDepth 100000 in
theorem ct_X12_bits (l : Launch) (E : vE) (F : Nat) (v0 : Int32) (u : Int32) (hf : X12_bits F v0 = some u) :
    CtI l yX12_bits cX12_bits 3 (some .int) 0 E [.int v0] (wd_X12_bits E) (wd_X12_bits E) u := by
  refine ctI (by decide) (Nat.le_of_ble_eq_true rfl) ?_
  intro p e s m below meth cd A ls aa QQ hq cx hP hD hS hl
  obtain ⟨⟨hx, hb, hml, hown, hts⟩, hr, hlocks, hK, hA, hX⟩ := id cx
  have hl : lv_has ls 3 [(0, .int v0)] := hl
  unfold X12_bits at hf
  refine lv_iconst (v := 0) hx hb dX12_bits_0 (by decide) ?_
  refine lv_istore_n (lv' := [(1, .int 0), (0, .int v0)]) hx hb dX12_bits_1 rfl hl (by decide) rfl (fun ls hl => ?_)
  refine lv_iload_n hx hb dX12_bits_2 rfl (lv_at hl 1 rfl) ?_
  refine lv_istore_n (lv' := [(2, .int v0), (1, .int 0), (0, .int v0)]) hx hb dX12_bits_3 rfl hl (by decide) rfl (fun ls hl => ?_)
  obtain ⟨e4, hit4, hf⟩ := bd hf
  refine iter_W (b := X12_bits_b4 F) (P := fun st4 => ∀ (H : Heap) (locs : List Loc) (ls : Array Slot), va_P E.1 vwCl (wd_X12_bits E) H → va_D A (wd_X12_bits E) → va_S A s.heap H locs → lv_has ls 3 [(1, .int st4.1), (2, .int st4.2)] → W p l e (rmd 0) s m aa below meth cd H locs 0 0 QQ (F0 m 4 ls [])) (G := (fun (e4 : Int32) => ∀ (H : Heap) (locs : List Loc) (ls : Array Slot), va_P E.1 vwCl (wd_X12_bits E) H → va_D A (wd_X12_bits E) → va_S A s.heap H locs → lv_has ls 3 [(1, .int e4)] → W p l e (rmd 0) s m aa below meth cd H locs 0 0 QQ (F0 m 20 ls []))) ?_ F (0, v0) e4 hit4 ?_ _ _ _ hP hD hS (lv_sub hl [1, 0] rfl)
  · intro st4 r4 hf hk4 he4 H locs ls hP hD hS hl
    unfold X12_bits_b4 at hf
    refine lv_iload_n hx hb dX12_bits_4 rfl (lv_at hl 1 rfl) ?_
    refine lv_if_eq (tgt := 20) hx hb dX12_bits_5 (by decide) (fun hc => ?_) (fun hc => ?_)
    · have hf := it_t hc hf
      exact he4 _ (Option.some.inj hf).symm _ _ _ hP hD hS (lv_sub hl [0] rfl)
    · have hf := it_f hc hf
      refine lv_iinc (v := (st4.1 + 1)) (lv' := [(1, .int (st4.1 + 1)), (2, .int st4.2)]) hx hb dX12_bits_8 hl (k := 0) rfl rfl (by decide) rfl (fun ls hl => ?_)
      refine lv_iload_n hx hb dX12_bits_11 rfl (lv_at hl 1 rfl) ?_
      refine lv_iload_n hx hb dX12_bits_12 rfl (lv_at hl 1 rfl) ?_
      refine lv_iconst (v := 1) hx hb dX12_bits_13 (by decide) ?_
      refine lv_isub hx hb dX12_bits_14 ?_
      refine lv_iand hx hb dX12_bits_15 ?_
      refine lv_istore_n (lv' := [(2, .int (st4.2 &&& (st4.2 - 1))), (1, .int (st4.1 + 1))]) hx hb dX12_bits_16 rfl hl (by decide) rfl (fun ls hl => ?_)
      refine lv_goto (tgt := 4) hx hb dX12_bits_17 (by decide) ?_
      exact hk4 _ (Option.some.inj hf).symm _ _ _ hP hD hS (lv_sub hl [1, 0] rfl)
  · refine fun H locs ls hP hD hS hl => ?_
    refine lv_iload_n hx hb dX12_bits_20 rfl (lv_at hl 0 rfl) ?_
    obtain rfl := Option.some.inj hf
    subst hq
    exact retI cx hP hD hS dX12_bits_21
def X12_extraOf (o_at : Nat → Int32) (v1 : Int32) (v2 : Int32) : Option (Int32) :=
  (X12_extraRow v1).bind fun u5 =>
  if ix (u5 + v2) 3097 then
  some (jat o_at (u5 + v2))
  else none
abbrev wd_X12_extraOf (E : vE) (a_o a_o_at a_o_names a_o_sort a_o_trayMany a_o_trays a_o_tape a_o_text a_o_opened a_o_farBy a_o_attendsBy a_o_coveredBy a_o_cameBy a_o_cameThen a_o_fallsBy a_o_loops a_o_ran a_o_told1 : Nat) (o_status : Int32) (o_top : Int64) (o_bottom : Int64) (o_taped : Int32) (o_size : Int32) (o_token : Int32) (o_from : Int32) (o_end : Int32) (o_value : Int32) (o_faultKind : Int32) (o_faultPlace : Int32) (o_faults : Int32) (o_seen : Int32) (o_toldParts : Int32) (o_depth : Int32) (o_counted : Int32) (o_becameThen : Int32) (o_firstCorner : Int32) (o_drawn : Int32) (o_ranSteps : Int32) (o_isTold : Int32) (o_marks : Int32) (o_at : Nat → Int32) : va_W := [(a_o, .inr (12, [.ref a_o_at, .ref a_o_names, .int o_status, .long o_top, .long o_bottom, .ref a_o_sort, .ref a_o_trayMany, .ref a_o_trays, .ref a_o_tape, .ref a_o_text, .int o_taped, .int o_size, .int o_token, .int o_from, .int o_end, .int o_value, .int o_faultKind, .int o_faultPlace, .int o_faults, .int o_seen, .int o_toldParts, .ref a_o_opened, .int o_depth, .int o_counted, .ref a_o_farBy, .int o_becameThen, .ref a_o_attendsBy, .ref a_o_coveredBy, .ref a_o_cameBy, .ref a_o_cameThen, .int o_firstCorner, .ref a_o_fallsBy, .int o_drawn, .int o_ranSteps, .ref a_o_loops, .ref a_o_ran, .ref a_o_told1, .int o_isTold, .int o_marks])), (a_o_at, .inl (E.2.1, 3097, .inl o_at))]
set_option maxHeartbeats 4000000 in
set_option maxRecDepth 100000 in
theorem ct_X12_extraOf (l : Launch) (E : vE) (a_o a_o_at a_o_names a_o_sort a_o_trayMany a_o_trays a_o_tape a_o_text a_o_opened a_o_farBy a_o_attendsBy a_o_coveredBy a_o_cameBy a_o_cameThen a_o_fallsBy a_o_loops a_o_ran a_o_told1 : Nat) (o_status : Int32) (o_top : Int64) (o_bottom : Int64) (o_taped : Int32) (o_size : Int32) (o_token : Int32) (o_from : Int32) (o_end : Int32) (o_value : Int32) (o_faultKind : Int32) (o_faultPlace : Int32) (o_faults : Int32) (o_seen : Int32) (o_toldParts : Int32) (o_depth : Int32) (o_counted : Int32) (o_becameThen : Int32) (o_firstCorner : Int32) (o_drawn : Int32) (o_ranSteps : Int32) (o_isTold : Int32) (o_marks : Int32) (o_at : Nat → Int32) (v1 : Int32) (v2 : Int32) (u : Int32) (hf : X12_extraOf o_at v1 v2 = some u) :
    CtI l yX12_extraOf cX12_extraOf 3 (some .int) 1 E [.ref a_o, .int v1, .int v2] (wd_X12_extraOf E a_o a_o_at a_o_names a_o_sort a_o_trayMany a_o_trays a_o_tape a_o_text a_o_opened a_o_farBy a_o_attendsBy a_o_coveredBy a_o_cameBy a_o_cameThen a_o_fallsBy a_o_loops a_o_ran a_o_told1 o_status o_top o_bottom o_taped o_size o_token o_from o_end o_value o_faultKind o_faultPlace o_faults o_seen o_toldParts o_depth o_counted o_becameThen o_firstCorner o_drawn o_ranSteps o_isTold o_marks o_at) (wd_X12_extraOf E a_o a_o_at a_o_names a_o_sort a_o_trayMany a_o_trays a_o_tape a_o_text a_o_opened a_o_farBy a_o_attendsBy a_o_coveredBy a_o_cameBy a_o_cameThen a_o_fallsBy a_o_loops a_o_ran a_o_told1 o_status o_top o_bottom o_taped o_size o_token o_from o_end o_value o_faultKind o_faultPlace o_faults o_seen o_toldParts o_depth o_counted o_becameThen o_firstCorner o_drawn o_ranSteps o_isTold o_marks o_at) u := by
  refine ctI (by decide) (Nat.le_of_ble_eq_true rfl) ?_
  intro p e s m below meth cd A ls aa QQ hq cx hP hD hS hl
  obtain ⟨⟨hx, hb, hml, hown, hts⟩, hr, hlocks, hK, hA, hX⟩ := id cx
  have hl : lv_has ls 3 [(0, .ref a_o), (1, .int v1), (2, .int v2)] := hl
  unfold X12_extraOf at hf
  refine lv_aload_n hx hb dX12_extraOf_0 rfl (lv_at hl 0 rfl) ?_
  refine va_get (D := E.1) (ci := 12) (v := .ref a_o_at) (C := RX12) (T := TX12) (N := 39) hx hb hts inX12 hown hK hP 0 rfl rfl 0 (by decide) (hts _ fl_X12_7) (fun _ h9 => h9) rfl dX12_extraOf_1 ?_
  refine lv_iload_n hx hb dX12_extraOf_4 rfl (lv_at hl 1 rfl) ?_
  obtain ⟨u5, hu5, hf⟩ := bd hf
  refine keepSI (ct_X12_extraRow l E v1 u5 hu5) [] cal_X12_extraRow sta_X12_extraRow lk_X12_211 cx hP hD hS hl dX12_extraOf_5 rfl rfl (Nat.le_of_ble_eq_true rfl) ⟨Nat.le_of_ble_eq_true rfl, Nat.le_of_ble_eq_true rfl⟩ rfl (by decide) (fun H locs hP hS => ?_)
  refine lv_iload_n hx hb dX12_extraOf_8 rfl (lv_at hl 2 rfl) ?_
  refine lv_iadd hx hb dX12_extraOf_9 ?_
  obtain ⟨hi, hf⟩ := ck hf
  refine r_iald 1 cx hP rfl hi dX12_extraOf_10 ?_
  obtain rfl := Option.some.inj hf
  subst hq
  exact retI cx hP hD hS dX12_extraOf_11
def X12_happeningOf (o_at : Nat → Int32) (v1 : Int32) (v2 : Int32) : Option (Int32) :=
  (X12_happeningRow v1).bind fun u5 =>
  if ix (u5 + v2) 3097 then
  some (jat o_at (u5 + v2))
  else none
abbrev wd_X12_happeningOf (E : vE) (a_o a_o_at a_o_names a_o_sort a_o_trayMany a_o_trays a_o_tape a_o_text a_o_opened a_o_farBy a_o_attendsBy a_o_coveredBy a_o_cameBy a_o_cameThen a_o_fallsBy a_o_loops a_o_ran a_o_told1 : Nat) (o_status : Int32) (o_top : Int64) (o_bottom : Int64) (o_taped : Int32) (o_size : Int32) (o_token : Int32) (o_from : Int32) (o_end : Int32) (o_value : Int32) (o_faultKind : Int32) (o_faultPlace : Int32) (o_faults : Int32) (o_seen : Int32) (o_toldParts : Int32) (o_depth : Int32) (o_counted : Int32) (o_becameThen : Int32) (o_firstCorner : Int32) (o_drawn : Int32) (o_ranSteps : Int32) (o_isTold : Int32) (o_marks : Int32) (o_at : Nat → Int32) : va_W := [(a_o, .inr (12, [.ref a_o_at, .ref a_o_names, .int o_status, .long o_top, .long o_bottom, .ref a_o_sort, .ref a_o_trayMany, .ref a_o_trays, .ref a_o_tape, .ref a_o_text, .int o_taped, .int o_size, .int o_token, .int o_from, .int o_end, .int o_value, .int o_faultKind, .int o_faultPlace, .int o_faults, .int o_seen, .int o_toldParts, .ref a_o_opened, .int o_depth, .int o_counted, .ref a_o_farBy, .int o_becameThen, .ref a_o_attendsBy, .ref a_o_coveredBy, .ref a_o_cameBy, .ref a_o_cameThen, .int o_firstCorner, .ref a_o_fallsBy, .int o_drawn, .int o_ranSteps, .ref a_o_loops, .ref a_o_ran, .ref a_o_told1, .int o_isTold, .int o_marks])), (a_o_at, .inl (E.2.1, 3097, .inl o_at))]
set_option maxHeartbeats 4000000 in
set_option maxRecDepth 100000 in
theorem ct_X12_happeningOf (l : Launch) (E : vE) (a_o a_o_at a_o_names a_o_sort a_o_trayMany a_o_trays a_o_tape a_o_text a_o_opened a_o_farBy a_o_attendsBy a_o_coveredBy a_o_cameBy a_o_cameThen a_o_fallsBy a_o_loops a_o_ran a_o_told1 : Nat) (o_status : Int32) (o_top : Int64) (o_bottom : Int64) (o_taped : Int32) (o_size : Int32) (o_token : Int32) (o_from : Int32) (o_end : Int32) (o_value : Int32) (o_faultKind : Int32) (o_faultPlace : Int32) (o_faults : Int32) (o_seen : Int32) (o_toldParts : Int32) (o_depth : Int32) (o_counted : Int32) (o_becameThen : Int32) (o_firstCorner : Int32) (o_drawn : Int32) (o_ranSteps : Int32) (o_isTold : Int32) (o_marks : Int32) (o_at : Nat → Int32) (v1 : Int32) (v2 : Int32) (u : Int32) (hf : X12_happeningOf o_at v1 v2 = some u) :
    CtI l yX12_happeningOf cX12_happeningOf 3 (some .int) 1 E [.ref a_o, .int v1, .int v2] (wd_X12_happeningOf E a_o a_o_at a_o_names a_o_sort a_o_trayMany a_o_trays a_o_tape a_o_text a_o_opened a_o_farBy a_o_attendsBy a_o_coveredBy a_o_cameBy a_o_cameThen a_o_fallsBy a_o_loops a_o_ran a_o_told1 o_status o_top o_bottom o_taped o_size o_token o_from o_end o_value o_faultKind o_faultPlace o_faults o_seen o_toldParts o_depth o_counted o_becameThen o_firstCorner o_drawn o_ranSteps o_isTold o_marks o_at) (wd_X12_happeningOf E a_o a_o_at a_o_names a_o_sort a_o_trayMany a_o_trays a_o_tape a_o_text a_o_opened a_o_farBy a_o_attendsBy a_o_coveredBy a_o_cameBy a_o_cameThen a_o_fallsBy a_o_loops a_o_ran a_o_told1 o_status o_top o_bottom o_taped o_size o_token o_from o_end o_value o_faultKind o_faultPlace o_faults o_seen o_toldParts o_depth o_counted o_becameThen o_firstCorner o_drawn o_ranSteps o_isTold o_marks o_at) u := by
  refine ctI (by decide) (Nat.le_of_ble_eq_true rfl) ?_
  intro p e s m below meth cd A ls aa QQ hq cx hP hD hS hl
  obtain ⟨⟨hx, hb, hml, hown, hts⟩, hr, hlocks, hK, hA, hX⟩ := id cx
  have hl : lv_has ls 3 [(0, .ref a_o), (1, .int v1), (2, .int v2)] := hl
  unfold X12_happeningOf at hf
  refine lv_aload_n hx hb dX12_happeningOf_0 rfl (lv_at hl 0 rfl) ?_
  refine va_get (D := E.1) (ci := 12) (v := .ref a_o_at) (C := RX12) (T := TX12) (N := 39) hx hb hts inX12 hown hK hP 0 rfl rfl 0 (by decide) (hts _ fl_X12_7) (fun _ h9 => h9) rfl dX12_happeningOf_1 ?_
  refine lv_iload_n hx hb dX12_happeningOf_4 rfl (lv_at hl 1 rfl) ?_
  obtain ⟨u5, hu5, hf⟩ := bd hf
  refine keepSI (ct_X12_happeningRow l E v1 u5 hu5) [] cal_X12_happeningRow sta_X12_happeningRow lk_X12_214 cx hP hD hS hl dX12_happeningOf_5 rfl rfl (Nat.le_of_ble_eq_true rfl) ⟨Nat.le_of_ble_eq_true rfl, Nat.le_of_ble_eq_true rfl⟩ rfl (by decide) (fun H locs hP hS => ?_)
  refine lv_iload_n hx hb dX12_happeningOf_8 rfl (lv_at hl 2 rfl) ?_
  refine lv_iadd hx hb dX12_happeningOf_9 ?_
  obtain ⟨hi, hf⟩ := ck hf
  refine r_iald 1 cx hP rfl hi dX12_happeningOf_10 ?_
  obtain rfl := Option.some.inj hf
  subst hq
  exact retI cx hP hD hS dX12_happeningOf_11
def X12_watcherOf (o_at : Nat → Int32) (v1 : Int32) (v2 : Int32) : Option (Int32) :=
  (X12_watcherRow v1).bind fun u5 =>
  if ix (u5 + v2) 3097 then
  some (jat o_at (u5 + v2))
  else none
abbrev wd_X12_watcherOf (E : vE) (a_o a_o_at a_o_names a_o_sort a_o_trayMany a_o_trays a_o_tape a_o_text a_o_opened a_o_farBy a_o_attendsBy a_o_coveredBy a_o_cameBy a_o_cameThen a_o_fallsBy a_o_loops a_o_ran a_o_told1 : Nat) (o_status : Int32) (o_top : Int64) (o_bottom : Int64) (o_taped : Int32) (o_size : Int32) (o_token : Int32) (o_from : Int32) (o_end : Int32) (o_value : Int32) (o_faultKind : Int32) (o_faultPlace : Int32) (o_faults : Int32) (o_seen : Int32) (o_toldParts : Int32) (o_depth : Int32) (o_counted : Int32) (o_becameThen : Int32) (o_firstCorner : Int32) (o_drawn : Int32) (o_ranSteps : Int32) (o_isTold : Int32) (o_marks : Int32) (o_at : Nat → Int32) : va_W := [(a_o, .inr (12, [.ref a_o_at, .ref a_o_names, .int o_status, .long o_top, .long o_bottom, .ref a_o_sort, .ref a_o_trayMany, .ref a_o_trays, .ref a_o_tape, .ref a_o_text, .int o_taped, .int o_size, .int o_token, .int o_from, .int o_end, .int o_value, .int o_faultKind, .int o_faultPlace, .int o_faults, .int o_seen, .int o_toldParts, .ref a_o_opened, .int o_depth, .int o_counted, .ref a_o_farBy, .int o_becameThen, .ref a_o_attendsBy, .ref a_o_coveredBy, .ref a_o_cameBy, .ref a_o_cameThen, .int o_firstCorner, .ref a_o_fallsBy, .int o_drawn, .int o_ranSteps, .ref a_o_loops, .ref a_o_ran, .ref a_o_told1, .int o_isTold, .int o_marks])), (a_o_at, .inl (E.2.1, 3097, .inl o_at))]
set_option maxHeartbeats 4000000 in
set_option maxRecDepth 100000 in
theorem ct_X12_watcherOf (l : Launch) (E : vE) (a_o a_o_at a_o_names a_o_sort a_o_trayMany a_o_trays a_o_tape a_o_text a_o_opened a_o_farBy a_o_attendsBy a_o_coveredBy a_o_cameBy a_o_cameThen a_o_fallsBy a_o_loops a_o_ran a_o_told1 : Nat) (o_status : Int32) (o_top : Int64) (o_bottom : Int64) (o_taped : Int32) (o_size : Int32) (o_token : Int32) (o_from : Int32) (o_end : Int32) (o_value : Int32) (o_faultKind : Int32) (o_faultPlace : Int32) (o_faults : Int32) (o_seen : Int32) (o_toldParts : Int32) (o_depth : Int32) (o_counted : Int32) (o_becameThen : Int32) (o_firstCorner : Int32) (o_drawn : Int32) (o_ranSteps : Int32) (o_isTold : Int32) (o_marks : Int32) (o_at : Nat → Int32) (v1 : Int32) (v2 : Int32) (u : Int32) (hf : X12_watcherOf o_at v1 v2 = some u) :
    CtI l yX12_watcherOf cX12_watcherOf 3 (some .int) 1 E [.ref a_o, .int v1, .int v2] (wd_X12_watcherOf E a_o a_o_at a_o_names a_o_sort a_o_trayMany a_o_trays a_o_tape a_o_text a_o_opened a_o_farBy a_o_attendsBy a_o_coveredBy a_o_cameBy a_o_cameThen a_o_fallsBy a_o_loops a_o_ran a_o_told1 o_status o_top o_bottom o_taped o_size o_token o_from o_end o_value o_faultKind o_faultPlace o_faults o_seen o_toldParts o_depth o_counted o_becameThen o_firstCorner o_drawn o_ranSteps o_isTold o_marks o_at) (wd_X12_watcherOf E a_o a_o_at a_o_names a_o_sort a_o_trayMany a_o_trays a_o_tape a_o_text a_o_opened a_o_farBy a_o_attendsBy a_o_coveredBy a_o_cameBy a_o_cameThen a_o_fallsBy a_o_loops a_o_ran a_o_told1 o_status o_top o_bottom o_taped o_size o_token o_from o_end o_value o_faultKind o_faultPlace o_faults o_seen o_toldParts o_depth o_counted o_becameThen o_firstCorner o_drawn o_ranSteps o_isTold o_marks o_at) u := by
  refine ctI (by decide) (Nat.le_of_ble_eq_true rfl) ?_
  intro p e s m below meth cd A ls aa QQ hq cx hP hD hS hl
  obtain ⟨⟨hx, hb, hml, hown, hts⟩, hr, hlocks, hK, hA, hX⟩ := id cx
  have hl : lv_has ls 3 [(0, .ref a_o), (1, .int v1), (2, .int v2)] := hl
  unfold X12_watcherOf at hf
  refine lv_aload_n hx hb dX12_watcherOf_0 rfl (lv_at hl 0 rfl) ?_
  refine va_get (D := E.1) (ci := 12) (v := .ref a_o_at) (C := RX12) (T := TX12) (N := 39) hx hb hts inX12 hown hK hP 0 rfl rfl 0 (by decide) (hts _ fl_X12_7) (fun _ h9 => h9) rfl dX12_watcherOf_1 ?_
  refine lv_iload_n hx hb dX12_watcherOf_4 rfl (lv_at hl 1 rfl) ?_
  obtain ⟨u5, hu5, hf⟩ := bd hf
  refine keepSI (ct_X12_watcherRow l E v1 u5 hu5) [] cal_X12_watcherRow sta_X12_watcherRow lk_X12_217 cx hP hD hS hl dX12_watcherOf_5 rfl rfl (Nat.le_of_ble_eq_true rfl) ⟨Nat.le_of_ble_eq_true rfl, Nat.le_of_ble_eq_true rfl⟩ rfl (by decide) (fun H locs hP hS => ?_)
  refine lv_iload_n hx hb dX12_watcherOf_8 rfl (lv_at hl 2 rfl) ?_
  refine lv_iadd hx hb dX12_watcherOf_9 ?_
  obtain ⟨hi, hf⟩ := ck hf
  refine r_iald 1 cx hP rfl hi dX12_watcherOf_10 ?_
  obtain rfl := Option.some.inj hf
  subst hq
  exact retI cx hP hD hS dX12_watcherOf_11
def X12_doesStand (o_at : Nat → Int32) (v1 : Int32) : Option (Int32) :=
  (X12_extraOf o_at v1 (0 : Int32)).bind fun u3 =>
  if (10 : Int32) ≤ u3 then
  some 0
  else
  some 1
abbrev wd_X12_doesStand (E : vE) (a_o a_o_at a_o_names a_o_sort a_o_trayMany a_o_trays a_o_tape a_o_text a_o_opened a_o_farBy a_o_attendsBy a_o_coveredBy a_o_cameBy a_o_cameThen a_o_fallsBy a_o_loops a_o_ran a_o_told1 : Nat) (o_status : Int32) (o_top : Int64) (o_bottom : Int64) (o_taped : Int32) (o_size : Int32) (o_token : Int32) (o_from : Int32) (o_end : Int32) (o_value : Int32) (o_faultKind : Int32) (o_faultPlace : Int32) (o_faults : Int32) (o_seen : Int32) (o_toldParts : Int32) (o_depth : Int32) (o_counted : Int32) (o_becameThen : Int32) (o_firstCorner : Int32) (o_drawn : Int32) (o_ranSteps : Int32) (o_isTold : Int32) (o_marks : Int32) (o_at : Nat → Int32) : va_W := [(a_o, .inr (12, [.ref a_o_at, .ref a_o_names, .int o_status, .long o_top, .long o_bottom, .ref a_o_sort, .ref a_o_trayMany, .ref a_o_trays, .ref a_o_tape, .ref a_o_text, .int o_taped, .int o_size, .int o_token, .int o_from, .int o_end, .int o_value, .int o_faultKind, .int o_faultPlace, .int o_faults, .int o_seen, .int o_toldParts, .ref a_o_opened, .int o_depth, .int o_counted, .ref a_o_farBy, .int o_becameThen, .ref a_o_attendsBy, .ref a_o_coveredBy, .ref a_o_cameBy, .ref a_o_cameThen, .int o_firstCorner, .ref a_o_fallsBy, .int o_drawn, .int o_ranSteps, .ref a_o_loops, .ref a_o_ran, .ref a_o_told1, .int o_isTold, .int o_marks])), (a_o_at, .inl (E.2.1, 3097, .inl o_at))]
set_option maxHeartbeats 4000000 in
set_option maxRecDepth 100000 in
theorem ct_X12_doesStand (l : Launch) (E : vE) (a_o a_o_at a_o_names a_o_sort a_o_trayMany a_o_trays a_o_tape a_o_text a_o_opened a_o_farBy a_o_attendsBy a_o_coveredBy a_o_cameBy a_o_cameThen a_o_fallsBy a_o_loops a_o_ran a_o_told1 : Nat) (o_status : Int32) (o_top : Int64) (o_bottom : Int64) (o_taped : Int32) (o_size : Int32) (o_token : Int32) (o_from : Int32) (o_end : Int32) (o_value : Int32) (o_faultKind : Int32) (o_faultPlace : Int32) (o_faults : Int32) (o_seen : Int32) (o_toldParts : Int32) (o_depth : Int32) (o_counted : Int32) (o_becameThen : Int32) (o_firstCorner : Int32) (o_drawn : Int32) (o_ranSteps : Int32) (o_isTold : Int32) (o_marks : Int32) (o_at : Nat → Int32) (v1 : Int32) (u : Int32) (hf : X12_doesStand o_at v1 = some u) :
    CtI l yX12_doesStand cX12_doesStand 2 (some .boolean) 2 E [.ref a_o, .int v1] (wd_X12_doesStand E a_o a_o_at a_o_names a_o_sort a_o_trayMany a_o_trays a_o_tape a_o_text a_o_opened a_o_farBy a_o_attendsBy a_o_coveredBy a_o_cameBy a_o_cameThen a_o_fallsBy a_o_loops a_o_ran a_o_told1 o_status o_top o_bottom o_taped o_size o_token o_from o_end o_value o_faultKind o_faultPlace o_faults o_seen o_toldParts o_depth o_counted o_becameThen o_firstCorner o_drawn o_ranSteps o_isTold o_marks o_at) (wd_X12_doesStand E a_o a_o_at a_o_names a_o_sort a_o_trayMany a_o_trays a_o_tape a_o_text a_o_opened a_o_farBy a_o_attendsBy a_o_coveredBy a_o_cameBy a_o_cameThen a_o_fallsBy a_o_loops a_o_ran a_o_told1 o_status o_top o_bottom o_taped o_size o_token o_from o_end o_value o_faultKind o_faultPlace o_faults o_seen o_toldParts o_depth o_counted o_becameThen o_firstCorner o_drawn o_ranSteps o_isTold o_marks o_at) u := by
  refine ctI (by decide) (Nat.le_of_ble_eq_true rfl) ?_
  intro p e s m below meth cd A ls aa QQ hq cx hP hD hS hl
  obtain ⟨⟨hx, hb, hml, hown, hts⟩, hr, hlocks, hK, hA, hX⟩ := id cx
  have hl : lv_has ls 2 [(0, .ref a_o), (1, .int v1)] := hl
  unfold X12_doesStand at hf
  refine lv_aload_n hx hb dX12_doesStand_0 rfl (lv_at hl 0 rfl) ?_
  refine lv_iload_n hx hb dX12_doesStand_1 rfl (lv_at hl 1 rfl) ?_
  refine lv_iconst (v := 0) hx hb dX12_doesStand_2 (by decide) ?_
  obtain ⟨u3, hu3, hf⟩ := bd hf
  refine keepVI (ct_X12_extraOf l E a_o a_o_at a_o_names a_o_sort a_o_trayMany a_o_trays a_o_tape a_o_text a_o_opened a_o_farBy a_o_attendsBy a_o_coveredBy a_o_cameBy a_o_cameThen a_o_fallsBy a_o_loops a_o_ran a_o_told1 o_status o_top o_bottom o_taped o_size o_token o_from o_end o_value o_faultKind o_faultPlace o_faults o_seen o_toldParts o_depth o_counted o_becameThen o_firstCorner o_drawn o_ranSteps o_isTold o_marks o_at v1 (0 : Int32) u3 hu3) [0, 1] cal_X12_extraOf cav_X12_extraOf lk_X12_275 cx hP hD hS hl dX12_doesStand_3 rfl rfl rfl rfl (Nat.le_of_ble_eq_true rfl) ⟨Nat.le_of_ble_eq_true rfl, Nat.le_of_ble_eq_true rfl⟩ rfl (by decide) (fun H locs hP hS => ?_)
  refine lv_bipush (v := 10) hx hb dX12_doesStand_6 (by decide) ?_
  refine lv_icmp_ge (tgt := 15) hx hb dX12_doesStand_8 (by decide) (fun hc => ?_) (fun hc => ?_)
  · have hf := it_t hc hf
    refine lv_iconst (v := 0) hx hb dX12_doesStand_15 (by decide) ?_
    obtain rfl := Option.some.inj hf
    subst hq
    exact retZ cx rfl hP hD hS dX12_doesStand_16
  · have hf := it_f hc hf
    refine lv_iconst (v := 1) hx hb dX12_doesStand_11 (by decide) ?_
    refine lv_goto (tgt := 16) hx hb dX12_doesStand_12 (by decide) ?_
    obtain rfl := Option.some.inj hf
    subst hq
    exact retZ cx rfl hP hD hS dX12_doesStand_16
def X12_happeningsThat_j32 (F : Nat) (o_at : Nat → Int32) (v1 : Int32) (v3 : Int32) (k0 : Int32) (k1 : Int32) : Option ((Int32 × Int32) ⊕ ((Int32))) :=
  some (.inl ((k1 ||| k0), (v3 + 1)))
def X12_happeningsThat_b4 (F : Nat) (o_at : Nat → Int32) (v1 : Int32) (st4 : Int32 × Int32) : Option ((Int32 × Int32) ⊕ ((Int32))) :=
  if ix 3 3097 then
  if (jat o_at 3) ≤ st4.2 then
  some (.inr st4.1)
  else
  (X12_happeningOf o_at st4.2 (3 : Int32)).bind fun u18 =>
  if u18 = v1 then
  X12_happeningsThat_j32 F o_at v1 st4.2 (jshl 1 st4.2) st4.1
  else
  X12_happeningsThat_j32 F o_at v1 st4.2 0 st4.1
  else none
def X12_happeningsThat (F : Nat) (o_at : Nat → Int32) (v1 : Int32) : Option (Int32) :=
  (iter (X12_happeningsThat_b4 F o_at v1) F (0, 0)).bind (fun (e4 : Int32) =>
    some e4)
abbrev wd_X12_happeningsThat (E : vE) (a_o a_o_at a_o_names a_o_sort a_o_trayMany a_o_trays a_o_tape a_o_text a_o_opened a_o_farBy a_o_attendsBy a_o_coveredBy a_o_cameBy a_o_cameThen a_o_fallsBy a_o_loops a_o_ran a_o_told1 : Nat) (o_status : Int32) (o_top : Int64) (o_bottom : Int64) (o_taped : Int32) (o_size : Int32) (o_token : Int32) (o_from : Int32) (o_end : Int32) (o_value : Int32) (o_faultKind : Int32) (o_faultPlace : Int32) (o_faults : Int32) (o_seen : Int32) (o_toldParts : Int32) (o_depth : Int32) (o_counted : Int32) (o_becameThen : Int32) (o_firstCorner : Int32) (o_drawn : Int32) (o_ranSteps : Int32) (o_isTold : Int32) (o_marks : Int32) (o_at : Nat → Int32) : va_W := [(a_o, .inr (12, [.ref a_o_at, .ref a_o_names, .int o_status, .long o_top, .long o_bottom, .ref a_o_sort, .ref a_o_trayMany, .ref a_o_trays, .ref a_o_tape, .ref a_o_text, .int o_taped, .int o_size, .int o_token, .int o_from, .int o_end, .int o_value, .int o_faultKind, .int o_faultPlace, .int o_faults, .int o_seen, .int o_toldParts, .ref a_o_opened, .int o_depth, .int o_counted, .ref a_o_farBy, .int o_becameThen, .ref a_o_attendsBy, .ref a_o_coveredBy, .ref a_o_cameBy, .ref a_o_cameThen, .int o_firstCorner, .ref a_o_fallsBy, .int o_drawn, .int o_ranSteps, .ref a_o_loops, .ref a_o_ran, .ref a_o_told1, .int o_isTold, .int o_marks])), (a_o_at, .inl (E.2.1, 3097, .inl o_at))]
set_option maxHeartbeats 4000000 in
set_option maxRecDepth 100000 in
theorem ct_X12_happeningsThat (l : Launch) (E : vE) (F : Nat) (a_o a_o_at a_o_names a_o_sort a_o_trayMany a_o_trays a_o_tape a_o_text a_o_opened a_o_farBy a_o_attendsBy a_o_coveredBy a_o_cameBy a_o_cameThen a_o_fallsBy a_o_loops a_o_ran a_o_told1 : Nat) (o_status : Int32) (o_top : Int64) (o_bottom : Int64) (o_taped : Int32) (o_size : Int32) (o_token : Int32) (o_from : Int32) (o_end : Int32) (o_value : Int32) (o_faultKind : Int32) (o_faultPlace : Int32) (o_faults : Int32) (o_seen : Int32) (o_toldParts : Int32) (o_depth : Int32) (o_counted : Int32) (o_becameThen : Int32) (o_firstCorner : Int32) (o_drawn : Int32) (o_ranSteps : Int32) (o_isTold : Int32) (o_marks : Int32) (o_at : Nat → Int32) (v1 : Int32) (u : Int32) (hf : X12_happeningsThat F o_at v1 = some u) :
    CtI l yX12_happeningsThat cX12_happeningsThat 4 (some .int) 2 E [.ref a_o, .int v1] (wd_X12_happeningsThat E a_o a_o_at a_o_names a_o_sort a_o_trayMany a_o_trays a_o_tape a_o_text a_o_opened a_o_farBy a_o_attendsBy a_o_coveredBy a_o_cameBy a_o_cameThen a_o_fallsBy a_o_loops a_o_ran a_o_told1 o_status o_top o_bottom o_taped o_size o_token o_from o_end o_value o_faultKind o_faultPlace o_faults o_seen o_toldParts o_depth o_counted o_becameThen o_firstCorner o_drawn o_ranSteps o_isTold o_marks o_at) (wd_X12_happeningsThat E a_o a_o_at a_o_names a_o_sort a_o_trayMany a_o_trays a_o_tape a_o_text a_o_opened a_o_farBy a_o_attendsBy a_o_coveredBy a_o_cameBy a_o_cameThen a_o_fallsBy a_o_loops a_o_ran a_o_told1 o_status o_top o_bottom o_taped o_size o_token o_from o_end o_value o_faultKind o_faultPlace o_faults o_seen o_toldParts o_depth o_counted o_becameThen o_firstCorner o_drawn o_ranSteps o_isTold o_marks o_at) u := by
  refine ctI (by decide) (Nat.le_of_ble_eq_true rfl) ?_
  intro p e s m below meth cd A ls aa QQ hq cx hP hD hS hl
  obtain ⟨⟨hx, hb, hml, hown, hts⟩, hr, hlocks, hK, hA, hX⟩ := id cx
  have hl : lv_has ls 4 [(0, .ref a_o), (1, .int v1)] := hl
  unfold X12_happeningsThat at hf
  refine lv_iconst (v := 0) hx hb dX12_happeningsThat_0 (by decide) ?_
  refine lv_istore_n (lv' := [(2, .int 0), (0, .ref a_o), (1, .int v1)]) hx hb dX12_happeningsThat_1 rfl hl (by decide) rfl (fun ls hl => ?_)
  refine lv_iconst (v := 0) hx hb dX12_happeningsThat_2 (by decide) ?_
  refine lv_istore_n (lv' := [(3, .int 0), (2, .int 0), (0, .ref a_o), (1, .int v1)]) hx hb dX12_happeningsThat_3 rfl hl (by decide) rfl (fun ls hl => ?_)
  obtain ⟨e4, hit4, hf⟩ := bd hf
  refine iter_W (b := X12_happeningsThat_b4 F o_at v1) (P := fun st4 => ∀ (H : Heap) (locs : List Loc) (ls : Array Slot), va_P E.1 vwCl (wd_X12_happeningsThat E a_o a_o_at a_o_names a_o_sort a_o_trayMany a_o_trays a_o_tape a_o_text a_o_opened a_o_farBy a_o_attendsBy a_o_coveredBy a_o_cameBy a_o_cameThen a_o_fallsBy a_o_loops a_o_ran a_o_told1 o_status o_top o_bottom o_taped o_size o_token o_from o_end o_value o_faultKind o_faultPlace o_faults o_seen o_toldParts o_depth o_counted o_becameThen o_firstCorner o_drawn o_ranSteps o_isTold o_marks o_at) H → va_D A (wd_X12_happeningsThat E a_o a_o_at a_o_names a_o_sort a_o_trayMany a_o_trays a_o_tape a_o_text a_o_opened a_o_farBy a_o_attendsBy a_o_coveredBy a_o_cameBy a_o_cameThen a_o_fallsBy a_o_loops a_o_ran a_o_told1 o_status o_top o_bottom o_taped o_size o_token o_from o_end o_value o_faultKind o_faultPlace o_faults o_seen o_toldParts o_depth o_counted o_becameThen o_firstCorner o_drawn o_ranSteps o_isTold o_marks o_at) → va_S A s.heap H locs → lv_has ls 4 [(0, .ref a_o), (1, .int v1), (2, .int st4.1), (3, .int st4.2)] → W p l e (rmd 2) s m aa below meth cd H locs 0 0 QQ (F0 m 4 ls [])) (G := (fun (e4 : Int32) => ∀ (H : Heap) (locs : List Loc) (ls : Array Slot), va_P E.1 vwCl (wd_X12_happeningsThat E a_o a_o_at a_o_names a_o_sort a_o_trayMany a_o_trays a_o_tape a_o_text a_o_opened a_o_farBy a_o_attendsBy a_o_coveredBy a_o_cameBy a_o_cameThen a_o_fallsBy a_o_loops a_o_ran a_o_told1 o_status o_top o_bottom o_taped o_size o_token o_from o_end o_value o_faultKind o_faultPlace o_faults o_seen o_toldParts o_depth o_counted o_becameThen o_firstCorner o_drawn o_ranSteps o_isTold o_marks o_at) H → va_D A (wd_X12_happeningsThat E a_o a_o_at a_o_names a_o_sort a_o_trayMany a_o_trays a_o_tape a_o_text a_o_opened a_o_farBy a_o_attendsBy a_o_coveredBy a_o_cameBy a_o_cameThen a_o_fallsBy a_o_loops a_o_ran a_o_told1 o_status o_top o_bottom o_taped o_size o_token o_from o_end o_value o_faultKind o_faultPlace o_faults o_seen o_toldParts o_depth o_counted o_becameThen o_firstCorner o_drawn o_ranSteps o_isTold o_marks o_at) → va_S A s.heap H locs → lv_has ls 4 [(2, .int e4)] → W p l e (rmd 2) s m aa below meth cd H locs 0 0 QQ (F0 m 40 ls []))) ?_ F (0, 0) e4 hit4 ?_ _ _ _ hP hD hS (lv_sub hl [2, 3, 1, 0] rfl)
  · intro st4 r4 hf hk4 he4 H locs ls hP hD hS hl
    have hj32 : ∀ (v3_j32 : Int32) (k0_j32 : Int32) (k1_j32 : Int32) (H : Heap) (locs : List Loc) (ls : Array Slot), X12_happeningsThat_j32 F o_at v1 v3_j32 k0_j32 k1_j32 = some r4 → va_P E.1 vwCl (wd_X12_happeningsThat E a_o a_o_at a_o_names a_o_sort a_o_trayMany a_o_trays a_o_tape a_o_text a_o_opened a_o_farBy a_o_attendsBy a_o_coveredBy a_o_cameBy a_o_cameThen a_o_fallsBy a_o_loops a_o_ran a_o_told1 o_status o_top o_bottom o_taped o_size o_token o_from o_end o_value o_faultKind o_faultPlace o_faults o_seen o_toldParts o_depth o_counted o_becameThen o_firstCorner o_drawn o_ranSteps o_isTold o_marks o_at) H → va_D A (wd_X12_happeningsThat E a_o a_o_at a_o_names a_o_sort a_o_trayMany a_o_trays a_o_tape a_o_text a_o_opened a_o_farBy a_o_attendsBy a_o_coveredBy a_o_cameBy a_o_cameThen a_o_fallsBy a_o_loops a_o_ran a_o_told1 o_status o_top o_bottom o_taped o_size o_token o_from o_end o_value o_faultKind o_faultPlace o_faults o_seen o_toldParts o_depth o_counted o_becameThen o_firstCorner o_drawn o_ranSteps o_isTold o_marks o_at) → va_S A s.heap H locs → lv_has ls 4 [(0, .ref a_o), (1, .int v1), (3, .int v3_j32)] → W p l e (rmd 2) s m aa below meth cd H locs 0 0 QQ (F0 m 32 ls [.int k0_j32, .int k1_j32]) := by
      intro v3_j32 k0_j32 k1_j32 H locs ls hf hP hD hS hl
      unfold X12_happeningsThat_j32 at hf
      refine lv_ior hx hb dX12_happeningsThat_32 ?_
      refine lv_istore_n (lv' := [(2, .int (k1_j32 ||| k0_j32)), (0, .ref a_o), (1, .int v1), (3, .int v3_j32)]) hx hb dX12_happeningsThat_33 rfl hl (by decide) rfl (fun ls hl => ?_)
      refine lv_iinc (v := (v3_j32 + 1)) (lv' := [(3, .int (v3_j32 + 1)), (2, .int (k1_j32 ||| k0_j32)), (0, .ref a_o), (1, .int v1)]) hx hb dX12_happeningsThat_34 hl (k := 3) rfl rfl (by decide) rfl (fun ls hl => ?_)
      refine lv_goto (tgt := 4) hx hb dX12_happeningsThat_37 (by decide) ?_
      exact hk4 _ (Option.some.inj hf).symm _ _ _ hP hD hS (lv_sub hl [2, 3, 1, 0] rfl)
    unfold X12_happeningsThat_b4 at hf
    refine lv_iload_n hx hb dX12_happeningsThat_4 rfl (lv_at hl 3 rfl) ?_
    refine lv_aload_n hx hb dX12_happeningsThat_5 rfl (lv_at hl 0 rfl) ?_
    refine va_get (D := E.1) (ci := 12) (v := .ref a_o_at) (C := RX12) (T := TX12) (N := 39) hx hb hts inX12 hown hK hP 0 rfl rfl 0 (by decide) (hts _ fl_X12_7) (fun _ h9 => h9) rfl dX12_happeningsThat_6 ?_
    refine lv_iconst (v := 3) hx hb dX12_happeningsThat_9 (by decide) ?_
    obtain ⟨hi, hf⟩ := ck hf
    refine r_iald 1 cx hP rfl hi dX12_happeningsThat_10 ?_
    refine lv_icmp_ge (tgt := 40) hx hb dX12_happeningsThat_11 (by decide) (fun hc => ?_) (fun hc => ?_)
    · have hf := it_t hc hf
      exact he4 _ (Option.some.inj hf).symm _ _ _ hP hD hS (lv_sub hl [2] rfl)
    · have hf := it_f hc hf
      refine lv_iload_n hx hb dX12_happeningsThat_14 rfl (lv_at hl 2 rfl) ?_
      refine lv_aload_n hx hb dX12_happeningsThat_15 rfl (lv_at hl 0 rfl) ?_
      refine lv_iload_n hx hb dX12_happeningsThat_16 rfl (lv_at hl 3 rfl) ?_
      refine lv_iconst (v := 3) hx hb dX12_happeningsThat_17 (by decide) ?_
      obtain ⟨u18, hu18, hf⟩ := bd hf
      refine keepVI (ct_X12_happeningOf l E a_o a_o_at a_o_names a_o_sort a_o_trayMany a_o_trays a_o_tape a_o_text a_o_opened a_o_farBy a_o_attendsBy a_o_coveredBy a_o_cameBy a_o_cameThen a_o_fallsBy a_o_loops a_o_ran a_o_told1 o_status o_top o_bottom o_taped o_size o_token o_from o_end o_value o_faultKind o_faultPlace o_faults o_seen o_toldParts o_depth o_counted o_becameThen o_firstCorner o_drawn o_ranSteps o_isTold o_marks o_at st4.2 (3 : Int32) u18 hu18) [0, 1] cal_X12_happeningOf cav_X12_happeningOf lk_X12_278 cx hP hD hS hl dX12_happeningsThat_18 rfl rfl rfl rfl (Nat.le_of_ble_eq_true rfl) ⟨Nat.le_of_ble_eq_true rfl, Nat.le_of_ble_eq_true rfl⟩ rfl (by decide) (fun H locs hP hS => ?_)
      refine lv_iload_n hx hb dX12_happeningsThat_21 rfl (lv_at hl 1 rfl) ?_
      refine lv_icmp_ne (tgt := 31) hx hb dX12_happeningsThat_22 (by decide) (fun hc => ?_) (fun hc => ?_)
      · have hf := it_f hc hf
        refine lv_iconst (v := 0) hx hb dX12_happeningsThat_31 (by decide) ?_
        exact hj32 _ _ _ _ _ _ hf hP hD hS (lv_sub hl [0, 1, 3] rfl)
      · have hf := it_t hc hf
        refine lv_iconst (v := 1) hx hb dX12_happeningsThat_25 (by decide) ?_
        refine lv_iload_n hx hb dX12_happeningsThat_26 rfl (lv_at hl 3 rfl) ?_
        refine r_ishl hx hb dX12_happeningsThat_27 ?_
        refine lv_goto (tgt := 32) hx hb dX12_happeningsThat_28 (by decide) ?_
        exact hj32 _ _ _ _ _ _ hf hP hD hS (lv_sub hl [0, 1, 3] rfl)
  · refine fun H locs ls hP hD hS hl => ?_
    refine lv_iload_n hx hb dX12_happeningsThat_40 rfl (lv_at hl 0 rfl) ?_
    obtain rfl := Option.some.inj hf
    subst hq
    exact retI cx hP hD hS dX12_happeningsThat_41
def X12_onRoads_j30 (F : Nat) (o_at : Nat → Int32) (v2 : Int32) (k0 : Int32) (k1 : Int32) : Option ((Int32 × Int32) ⊕ ((Int32))) :=
  some (.inl ((k1 ||| k0), (v2 + 1)))
def X12_onRoads_b4 (F : Nat) (o_at : Nat → Int32) (st4 : Int32 × Int32) : Option ((Int32 × Int32) ⊕ ((Int32))) :=
  if ix 2 3097 then
  if (jat o_at 2) ≤ st4.2 then
  some (.inr st4.1)
  else
  (X12_doesStand o_at st4.2).bind fun u17 =>
  if u17 = 0 then
  X12_onRoads_j30 F o_at st4.2 (jshl 1 st4.2) st4.1
  else
  X12_onRoads_j30 F o_at st4.2 0 st4.1
  else none
def X12_onRoads (F : Nat) (o_at : Nat → Int32) : Option (Int32) :=
  (iter (X12_onRoads_b4 F o_at) F (0, 0)).bind (fun (e4 : Int32) =>
    some e4)
abbrev wd_X12_onRoads (E : vE) (a_o a_o_at a_o_names a_o_sort a_o_trayMany a_o_trays a_o_tape a_o_text a_o_opened a_o_farBy a_o_attendsBy a_o_coveredBy a_o_cameBy a_o_cameThen a_o_fallsBy a_o_loops a_o_ran a_o_told1 : Nat) (o_status : Int32) (o_top : Int64) (o_bottom : Int64) (o_taped : Int32) (o_size : Int32) (o_token : Int32) (o_from : Int32) (o_end : Int32) (o_value : Int32) (o_faultKind : Int32) (o_faultPlace : Int32) (o_faults : Int32) (o_seen : Int32) (o_toldParts : Int32) (o_depth : Int32) (o_counted : Int32) (o_becameThen : Int32) (o_firstCorner : Int32) (o_drawn : Int32) (o_ranSteps : Int32) (o_isTold : Int32) (o_marks : Int32) (o_at : Nat → Int32) : va_W := [(a_o, .inr (12, [.ref a_o_at, .ref a_o_names, .int o_status, .long o_top, .long o_bottom, .ref a_o_sort, .ref a_o_trayMany, .ref a_o_trays, .ref a_o_tape, .ref a_o_text, .int o_taped, .int o_size, .int o_token, .int o_from, .int o_end, .int o_value, .int o_faultKind, .int o_faultPlace, .int o_faults, .int o_seen, .int o_toldParts, .ref a_o_opened, .int o_depth, .int o_counted, .ref a_o_farBy, .int o_becameThen, .ref a_o_attendsBy, .ref a_o_coveredBy, .ref a_o_cameBy, .ref a_o_cameThen, .int o_firstCorner, .ref a_o_fallsBy, .int o_drawn, .int o_ranSteps, .ref a_o_loops, .ref a_o_ran, .ref a_o_told1, .int o_isTold, .int o_marks])), (a_o_at, .inl (E.2.1, 3097, .inl o_at))]
set_option maxHeartbeats 4000000 in
set_option maxRecDepth 100000 in
theorem ct_X12_onRoads (l : Launch) (E : vE) (F : Nat) (a_o a_o_at a_o_names a_o_sort a_o_trayMany a_o_trays a_o_tape a_o_text a_o_opened a_o_farBy a_o_attendsBy a_o_coveredBy a_o_cameBy a_o_cameThen a_o_fallsBy a_o_loops a_o_ran a_o_told1 : Nat) (o_status : Int32) (o_top : Int64) (o_bottom : Int64) (o_taped : Int32) (o_size : Int32) (o_token : Int32) (o_from : Int32) (o_end : Int32) (o_value : Int32) (o_faultKind : Int32) (o_faultPlace : Int32) (o_faults : Int32) (o_seen : Int32) (o_toldParts : Int32) (o_depth : Int32) (o_counted : Int32) (o_becameThen : Int32) (o_firstCorner : Int32) (o_drawn : Int32) (o_ranSteps : Int32) (o_isTold : Int32) (o_marks : Int32) (o_at : Nat → Int32) (u : Int32) (hf : X12_onRoads F o_at = some u) :
    CtI l yX12_onRoads cX12_onRoads 3 (some .int) 3 E [.ref a_o] (wd_X12_onRoads E a_o a_o_at a_o_names a_o_sort a_o_trayMany a_o_trays a_o_tape a_o_text a_o_opened a_o_farBy a_o_attendsBy a_o_coveredBy a_o_cameBy a_o_cameThen a_o_fallsBy a_o_loops a_o_ran a_o_told1 o_status o_top o_bottom o_taped o_size o_token o_from o_end o_value o_faultKind o_faultPlace o_faults o_seen o_toldParts o_depth o_counted o_becameThen o_firstCorner o_drawn o_ranSteps o_isTold o_marks o_at) (wd_X12_onRoads E a_o a_o_at a_o_names a_o_sort a_o_trayMany a_o_trays a_o_tape a_o_text a_o_opened a_o_farBy a_o_attendsBy a_o_coveredBy a_o_cameBy a_o_cameThen a_o_fallsBy a_o_loops a_o_ran a_o_told1 o_status o_top o_bottom o_taped o_size o_token o_from o_end o_value o_faultKind o_faultPlace o_faults o_seen o_toldParts o_depth o_counted o_becameThen o_firstCorner o_drawn o_ranSteps o_isTold o_marks o_at) u := by
  refine ctI (by decide) (Nat.le_of_ble_eq_true rfl) ?_
  intro p e s m below meth cd A ls aa QQ hq cx hP hD hS hl
  obtain ⟨⟨hx, hb, hml, hown, hts⟩, hr, hlocks, hK, hA, hX⟩ := id cx
  have hl : lv_has ls 3 [(0, .ref a_o)] := hl
  unfold X12_onRoads at hf
  refine lv_iconst (v := 0) hx hb dX12_onRoads_0 (by decide) ?_
  refine lv_istore_n (lv' := [(1, .int 0), (0, .ref a_o)]) hx hb dX12_onRoads_1 rfl hl (by decide) rfl (fun ls hl => ?_)
  refine lv_iconst (v := 0) hx hb dX12_onRoads_2 (by decide) ?_
  refine lv_istore_n (lv' := [(2, .int 0), (1, .int 0), (0, .ref a_o)]) hx hb dX12_onRoads_3 rfl hl (by decide) rfl (fun ls hl => ?_)
  obtain ⟨e4, hit4, hf⟩ := bd hf
  refine iter_W (b := X12_onRoads_b4 F o_at) (P := fun st4 => ∀ (H : Heap) (locs : List Loc) (ls : Array Slot), va_P E.1 vwCl (wd_X12_onRoads E a_o a_o_at a_o_names a_o_sort a_o_trayMany a_o_trays a_o_tape a_o_text a_o_opened a_o_farBy a_o_attendsBy a_o_coveredBy a_o_cameBy a_o_cameThen a_o_fallsBy a_o_loops a_o_ran a_o_told1 o_status o_top o_bottom o_taped o_size o_token o_from o_end o_value o_faultKind o_faultPlace o_faults o_seen o_toldParts o_depth o_counted o_becameThen o_firstCorner o_drawn o_ranSteps o_isTold o_marks o_at) H → va_D A (wd_X12_onRoads E a_o a_o_at a_o_names a_o_sort a_o_trayMany a_o_trays a_o_tape a_o_text a_o_opened a_o_farBy a_o_attendsBy a_o_coveredBy a_o_cameBy a_o_cameThen a_o_fallsBy a_o_loops a_o_ran a_o_told1 o_status o_top o_bottom o_taped o_size o_token o_from o_end o_value o_faultKind o_faultPlace o_faults o_seen o_toldParts o_depth o_counted o_becameThen o_firstCorner o_drawn o_ranSteps o_isTold o_marks o_at) → va_S A s.heap H locs → lv_has ls 3 [(0, .ref a_o), (1, .int st4.1), (2, .int st4.2)] → W p l e (rmd 3) s m aa below meth cd H locs 0 0 QQ (F0 m 4 ls [])) (G := (fun (e4 : Int32) => ∀ (H : Heap) (locs : List Loc) (ls : Array Slot), va_P E.1 vwCl (wd_X12_onRoads E a_o a_o_at a_o_names a_o_sort a_o_trayMany a_o_trays a_o_tape a_o_text a_o_opened a_o_farBy a_o_attendsBy a_o_coveredBy a_o_cameBy a_o_cameThen a_o_fallsBy a_o_loops a_o_ran a_o_told1 o_status o_top o_bottom o_taped o_size o_token o_from o_end o_value o_faultKind o_faultPlace o_faults o_seen o_toldParts o_depth o_counted o_becameThen o_firstCorner o_drawn o_ranSteps o_isTold o_marks o_at) H → va_D A (wd_X12_onRoads E a_o a_o_at a_o_names a_o_sort a_o_trayMany a_o_trays a_o_tape a_o_text a_o_opened a_o_farBy a_o_attendsBy a_o_coveredBy a_o_cameBy a_o_cameThen a_o_fallsBy a_o_loops a_o_ran a_o_told1 o_status o_top o_bottom o_taped o_size o_token o_from o_end o_value o_faultKind o_faultPlace o_faults o_seen o_toldParts o_depth o_counted o_becameThen o_firstCorner o_drawn o_ranSteps o_isTold o_marks o_at) → va_S A s.heap H locs → lv_has ls 3 [(1, .int e4)] → W p l e (rmd 3) s m aa below meth cd H locs 0 0 QQ (F0 m 38 ls []))) ?_ F (0, 0) e4 hit4 ?_ _ _ _ hP hD hS (lv_sub hl [2, 1, 0] rfl)
  · intro st4 r4 hf hk4 he4 H locs ls hP hD hS hl
    have hj30 : ∀ (v2_j30 : Int32) (k0_j30 : Int32) (k1_j30 : Int32) (H : Heap) (locs : List Loc) (ls : Array Slot), X12_onRoads_j30 F o_at v2_j30 k0_j30 k1_j30 = some r4 → va_P E.1 vwCl (wd_X12_onRoads E a_o a_o_at a_o_names a_o_sort a_o_trayMany a_o_trays a_o_tape a_o_text a_o_opened a_o_farBy a_o_attendsBy a_o_coveredBy a_o_cameBy a_o_cameThen a_o_fallsBy a_o_loops a_o_ran a_o_told1 o_status o_top o_bottom o_taped o_size o_token o_from o_end o_value o_faultKind o_faultPlace o_faults o_seen o_toldParts o_depth o_counted o_becameThen o_firstCorner o_drawn o_ranSteps o_isTold o_marks o_at) H → va_D A (wd_X12_onRoads E a_o a_o_at a_o_names a_o_sort a_o_trayMany a_o_trays a_o_tape a_o_text a_o_opened a_o_farBy a_o_attendsBy a_o_coveredBy a_o_cameBy a_o_cameThen a_o_fallsBy a_o_loops a_o_ran a_o_told1 o_status o_top o_bottom o_taped o_size o_token o_from o_end o_value o_faultKind o_faultPlace o_faults o_seen o_toldParts o_depth o_counted o_becameThen o_firstCorner o_drawn o_ranSteps o_isTold o_marks o_at) → va_S A s.heap H locs → lv_has ls 3 [(0, .ref a_o), (2, .int v2_j30)] → W p l e (rmd 3) s m aa below meth cd H locs 0 0 QQ (F0 m 30 ls [.int k0_j30, .int k1_j30]) := by
      intro v2_j30 k0_j30 k1_j30 H locs ls hf hP hD hS hl
      unfold X12_onRoads_j30 at hf
      refine lv_ior hx hb dX12_onRoads_30 ?_
      refine lv_istore_n (lv' := [(1, .int (k1_j30 ||| k0_j30)), (0, .ref a_o), (2, .int v2_j30)]) hx hb dX12_onRoads_31 rfl hl (by decide) rfl (fun ls hl => ?_)
      refine lv_iinc (v := (v2_j30 + 1)) (lv' := [(2, .int (v2_j30 + 1)), (1, .int (k1_j30 ||| k0_j30)), (0, .ref a_o)]) hx hb dX12_onRoads_32 hl (k := 2) rfl rfl (by decide) rfl (fun ls hl => ?_)
      refine lv_goto (tgt := 4) hx hb dX12_onRoads_35 (by decide) ?_
      exact hk4 _ (Option.some.inj hf).symm _ _ _ hP hD hS (lv_sub hl [2, 1, 0] rfl)
    unfold X12_onRoads_b4 at hf
    refine lv_iload_n hx hb dX12_onRoads_4 rfl (lv_at hl 2 rfl) ?_
    refine lv_aload_n hx hb dX12_onRoads_5 rfl (lv_at hl 0 rfl) ?_
    refine va_get (D := E.1) (ci := 12) (v := .ref a_o_at) (C := RX12) (T := TX12) (N := 39) hx hb hts inX12 hown hK hP 0 rfl rfl 0 (by decide) (hts _ fl_X12_7) (fun _ h9 => h9) rfl dX12_onRoads_6 ?_
    refine lv_iconst (v := 2) hx hb dX12_onRoads_9 (by decide) ?_
    obtain ⟨hi, hf⟩ := ck hf
    refine r_iald 1 cx hP rfl hi dX12_onRoads_10 ?_
    refine lv_icmp_ge (tgt := 38) hx hb dX12_onRoads_11 (by decide) (fun hc => ?_) (fun hc => ?_)
    · have hf := it_t hc hf
      exact he4 _ (Option.some.inj hf).symm _ _ _ hP hD hS (lv_sub hl [1] rfl)
    · have hf := it_f hc hf
      refine lv_iload_n hx hb dX12_onRoads_14 rfl (lv_at hl 1 rfl) ?_
      refine lv_aload_n hx hb dX12_onRoads_15 rfl (lv_at hl 0 rfl) ?_
      refine lv_iload_n hx hb dX12_onRoads_16 rfl (lv_at hl 2 rfl) ?_
      obtain ⟨u17, hu17, hf⟩ := bd hf
      refine keepVI (ct_X12_doesStand l E a_o a_o_at a_o_names a_o_sort a_o_trayMany a_o_trays a_o_tape a_o_text a_o_opened a_o_farBy a_o_attendsBy a_o_coveredBy a_o_cameBy a_o_cameThen a_o_fallsBy a_o_loops a_o_ran a_o_told1 o_status o_top o_bottom o_taped o_size o_token o_from o_end o_value o_faultKind o_faultPlace o_faults o_seen o_toldParts o_depth o_counted o_becameThen o_firstCorner o_drawn o_ranSteps o_isTold o_marks o_at st4.2 u17 hu17) [0, 1] cal_X12_doesStand cav_X12_doesStand lk_X12_281 cx hP hD hS hl dX12_onRoads_17 rfl rfl rfl rfl (Nat.le_of_ble_eq_true rfl) ⟨Nat.le_of_ble_eq_true rfl, Nat.le_of_ble_eq_true rfl⟩ rfl (by decide) (fun H locs hP hS => ?_)
      refine lv_if_eq (tgt := 27) hx hb dX12_onRoads_20 (by decide) (fun hc => ?_) (fun hc => ?_)
      · have hf := it_t hc hf
        refine lv_iconst (v := 1) hx hb dX12_onRoads_27 (by decide) ?_
        refine lv_iload_n hx hb dX12_onRoads_28 rfl (lv_at hl 2 rfl) ?_
        refine r_ishl hx hb dX12_onRoads_29 ?_
        exact hj30 _ _ _ _ _ _ hf hP hD hS (lv_sub hl [0, 2] rfl)
      · have hf := it_f hc hf
        refine lv_iconst (v := 0) hx hb dX12_onRoads_23 (by decide) ?_
        refine lv_goto (tgt := 30) hx hb dX12_onRoads_24 (by decide) ?_
        exact hj30 _ _ _ _ _ _ hf hP hD hS (lv_sub hl [0, 2] rfl)
  · refine fun H locs ls hP hD hS hl => ?_
    refine lv_iload_n hx hb dX12_onRoads_38 rfl (lv_at hl 0 rfl) ?_
    obtain rfl := Option.some.inj hf
    subst hq
    exact retI cx hP hD hS dX12_onRoads_39
def X12_standingAt_j32 (F : Nat) (o_at : Nat → Int32) (v1 : Int32) (v3 : Int32) (k0 : Int32) (k1 : Int32) : Option ((Int32 × Int32) ⊕ ((Int32))) :=
  some (.inl ((k1 ||| k0), (v3 + 1)))
def X12_standingAt_b4 (F : Nat) (o_at : Nat → Int32) (v1 : Int32) (st4 : Int32 × Int32) : Option ((Int32 × Int32) ⊕ ((Int32))) :=
  if ix 2 3097 then
  if (jat o_at 2) ≤ st4.2 then
  some (.inr st4.1)
  else
  (X12_extraOf o_at st4.2 (0 : Int32)).bind fun u18 =>
  if u18 = v1 then
  X12_standingAt_j32 F o_at v1 st4.2 (jshl 1 st4.2) st4.1
  else
  X12_standingAt_j32 F o_at v1 st4.2 0 st4.1
  else none
def X12_standingAt (F : Nat) (o_at : Nat → Int32) (v1 : Int32) : Option (Int32) :=
  (iter (X12_standingAt_b4 F o_at v1) F (0, 0)).bind (fun (e4 : Int32) =>
    some e4)
abbrev wd_X12_standingAt (E : vE) (a_o a_o_at a_o_names a_o_sort a_o_trayMany a_o_trays a_o_tape a_o_text a_o_opened a_o_farBy a_o_attendsBy a_o_coveredBy a_o_cameBy a_o_cameThen a_o_fallsBy a_o_loops a_o_ran a_o_told1 : Nat) (o_status : Int32) (o_top : Int64) (o_bottom : Int64) (o_taped : Int32) (o_size : Int32) (o_token : Int32) (o_from : Int32) (o_end : Int32) (o_value : Int32) (o_faultKind : Int32) (o_faultPlace : Int32) (o_faults : Int32) (o_seen : Int32) (o_toldParts : Int32) (o_depth : Int32) (o_counted : Int32) (o_becameThen : Int32) (o_firstCorner : Int32) (o_drawn : Int32) (o_ranSteps : Int32) (o_isTold : Int32) (o_marks : Int32) (o_at : Nat → Int32) : va_W := [(a_o, .inr (12, [.ref a_o_at, .ref a_o_names, .int o_status, .long o_top, .long o_bottom, .ref a_o_sort, .ref a_o_trayMany, .ref a_o_trays, .ref a_o_tape, .ref a_o_text, .int o_taped, .int o_size, .int o_token, .int o_from, .int o_end, .int o_value, .int o_faultKind, .int o_faultPlace, .int o_faults, .int o_seen, .int o_toldParts, .ref a_o_opened, .int o_depth, .int o_counted, .ref a_o_farBy, .int o_becameThen, .ref a_o_attendsBy, .ref a_o_coveredBy, .ref a_o_cameBy, .ref a_o_cameThen, .int o_firstCorner, .ref a_o_fallsBy, .int o_drawn, .int o_ranSteps, .ref a_o_loops, .ref a_o_ran, .ref a_o_told1, .int o_isTold, .int o_marks])), (a_o_at, .inl (E.2.1, 3097, .inl o_at))]
set_option maxHeartbeats 4000000 in
set_option maxRecDepth 100000 in
theorem ct_X12_standingAt (l : Launch) (E : vE) (F : Nat) (a_o a_o_at a_o_names a_o_sort a_o_trayMany a_o_trays a_o_tape a_o_text a_o_opened a_o_farBy a_o_attendsBy a_o_coveredBy a_o_cameBy a_o_cameThen a_o_fallsBy a_o_loops a_o_ran a_o_told1 : Nat) (o_status : Int32) (o_top : Int64) (o_bottom : Int64) (o_taped : Int32) (o_size : Int32) (o_token : Int32) (o_from : Int32) (o_end : Int32) (o_value : Int32) (o_faultKind : Int32) (o_faultPlace : Int32) (o_faults : Int32) (o_seen : Int32) (o_toldParts : Int32) (o_depth : Int32) (o_counted : Int32) (o_becameThen : Int32) (o_firstCorner : Int32) (o_drawn : Int32) (o_ranSteps : Int32) (o_isTold : Int32) (o_marks : Int32) (o_at : Nat → Int32) (v1 : Int32) (u : Int32) (hf : X12_standingAt F o_at v1 = some u) :
    CtI l yX12_standingAt cX12_standingAt 4 (some .int) 2 E [.ref a_o, .int v1] (wd_X12_standingAt E a_o a_o_at a_o_names a_o_sort a_o_trayMany a_o_trays a_o_tape a_o_text a_o_opened a_o_farBy a_o_attendsBy a_o_coveredBy a_o_cameBy a_o_cameThen a_o_fallsBy a_o_loops a_o_ran a_o_told1 o_status o_top o_bottom o_taped o_size o_token o_from o_end o_value o_faultKind o_faultPlace o_faults o_seen o_toldParts o_depth o_counted o_becameThen o_firstCorner o_drawn o_ranSteps o_isTold o_marks o_at) (wd_X12_standingAt E a_o a_o_at a_o_names a_o_sort a_o_trayMany a_o_trays a_o_tape a_o_text a_o_opened a_o_farBy a_o_attendsBy a_o_coveredBy a_o_cameBy a_o_cameThen a_o_fallsBy a_o_loops a_o_ran a_o_told1 o_status o_top o_bottom o_taped o_size o_token o_from o_end o_value o_faultKind o_faultPlace o_faults o_seen o_toldParts o_depth o_counted o_becameThen o_firstCorner o_drawn o_ranSteps o_isTold o_marks o_at) u := by
  refine ctI (by decide) (Nat.le_of_ble_eq_true rfl) ?_
  intro p e s m below meth cd A ls aa QQ hq cx hP hD hS hl
  obtain ⟨⟨hx, hb, hml, hown, hts⟩, hr, hlocks, hK, hA, hX⟩ := id cx
  have hl : lv_has ls 4 [(0, .ref a_o), (1, .int v1)] := hl
  unfold X12_standingAt at hf
  refine lv_iconst (v := 0) hx hb dX12_standingAt_0 (by decide) ?_
  refine lv_istore_n (lv' := [(2, .int 0), (0, .ref a_o), (1, .int v1)]) hx hb dX12_standingAt_1 rfl hl (by decide) rfl (fun ls hl => ?_)
  refine lv_iconst (v := 0) hx hb dX12_standingAt_2 (by decide) ?_
  refine lv_istore_n (lv' := [(3, .int 0), (2, .int 0), (0, .ref a_o), (1, .int v1)]) hx hb dX12_standingAt_3 rfl hl (by decide) rfl (fun ls hl => ?_)
  obtain ⟨e4, hit4, hf⟩ := bd hf
  refine iter_W (b := X12_standingAt_b4 F o_at v1) (P := fun st4 => ∀ (H : Heap) (locs : List Loc) (ls : Array Slot), va_P E.1 vwCl (wd_X12_standingAt E a_o a_o_at a_o_names a_o_sort a_o_trayMany a_o_trays a_o_tape a_o_text a_o_opened a_o_farBy a_o_attendsBy a_o_coveredBy a_o_cameBy a_o_cameThen a_o_fallsBy a_o_loops a_o_ran a_o_told1 o_status o_top o_bottom o_taped o_size o_token o_from o_end o_value o_faultKind o_faultPlace o_faults o_seen o_toldParts o_depth o_counted o_becameThen o_firstCorner o_drawn o_ranSteps o_isTold o_marks o_at) H → va_D A (wd_X12_standingAt E a_o a_o_at a_o_names a_o_sort a_o_trayMany a_o_trays a_o_tape a_o_text a_o_opened a_o_farBy a_o_attendsBy a_o_coveredBy a_o_cameBy a_o_cameThen a_o_fallsBy a_o_loops a_o_ran a_o_told1 o_status o_top o_bottom o_taped o_size o_token o_from o_end o_value o_faultKind o_faultPlace o_faults o_seen o_toldParts o_depth o_counted o_becameThen o_firstCorner o_drawn o_ranSteps o_isTold o_marks o_at) → va_S A s.heap H locs → lv_has ls 4 [(0, .ref a_o), (1, .int v1), (2, .int st4.1), (3, .int st4.2)] → W p l e (rmd 2) s m aa below meth cd H locs 0 0 QQ (F0 m 4 ls [])) (G := (fun (e4 : Int32) => ∀ (H : Heap) (locs : List Loc) (ls : Array Slot), va_P E.1 vwCl (wd_X12_standingAt E a_o a_o_at a_o_names a_o_sort a_o_trayMany a_o_trays a_o_tape a_o_text a_o_opened a_o_farBy a_o_attendsBy a_o_coveredBy a_o_cameBy a_o_cameThen a_o_fallsBy a_o_loops a_o_ran a_o_told1 o_status o_top o_bottom o_taped o_size o_token o_from o_end o_value o_faultKind o_faultPlace o_faults o_seen o_toldParts o_depth o_counted o_becameThen o_firstCorner o_drawn o_ranSteps o_isTold o_marks o_at) H → va_D A (wd_X12_standingAt E a_o a_o_at a_o_names a_o_sort a_o_trayMany a_o_trays a_o_tape a_o_text a_o_opened a_o_farBy a_o_attendsBy a_o_coveredBy a_o_cameBy a_o_cameThen a_o_fallsBy a_o_loops a_o_ran a_o_told1 o_status o_top o_bottom o_taped o_size o_token o_from o_end o_value o_faultKind o_faultPlace o_faults o_seen o_toldParts o_depth o_counted o_becameThen o_firstCorner o_drawn o_ranSteps o_isTold o_marks o_at) → va_S A s.heap H locs → lv_has ls 4 [(2, .int e4)] → W p l e (rmd 2) s m aa below meth cd H locs 0 0 QQ (F0 m 40 ls []))) ?_ F (0, 0) e4 hit4 ?_ _ _ _ hP hD hS (lv_sub hl [2, 3, 1, 0] rfl)
  · intro st4 r4 hf hk4 he4 H locs ls hP hD hS hl
    have hj32 : ∀ (v3_j32 : Int32) (k0_j32 : Int32) (k1_j32 : Int32) (H : Heap) (locs : List Loc) (ls : Array Slot), X12_standingAt_j32 F o_at v1 v3_j32 k0_j32 k1_j32 = some r4 → va_P E.1 vwCl (wd_X12_standingAt E a_o a_o_at a_o_names a_o_sort a_o_trayMany a_o_trays a_o_tape a_o_text a_o_opened a_o_farBy a_o_attendsBy a_o_coveredBy a_o_cameBy a_o_cameThen a_o_fallsBy a_o_loops a_o_ran a_o_told1 o_status o_top o_bottom o_taped o_size o_token o_from o_end o_value o_faultKind o_faultPlace o_faults o_seen o_toldParts o_depth o_counted o_becameThen o_firstCorner o_drawn o_ranSteps o_isTold o_marks o_at) H → va_D A (wd_X12_standingAt E a_o a_o_at a_o_names a_o_sort a_o_trayMany a_o_trays a_o_tape a_o_text a_o_opened a_o_farBy a_o_attendsBy a_o_coveredBy a_o_cameBy a_o_cameThen a_o_fallsBy a_o_loops a_o_ran a_o_told1 o_status o_top o_bottom o_taped o_size o_token o_from o_end o_value o_faultKind o_faultPlace o_faults o_seen o_toldParts o_depth o_counted o_becameThen o_firstCorner o_drawn o_ranSteps o_isTold o_marks o_at) → va_S A s.heap H locs → lv_has ls 4 [(0, .ref a_o), (1, .int v1), (3, .int v3_j32)] → W p l e (rmd 2) s m aa below meth cd H locs 0 0 QQ (F0 m 32 ls [.int k0_j32, .int k1_j32]) := by
      intro v3_j32 k0_j32 k1_j32 H locs ls hf hP hD hS hl
      unfold X12_standingAt_j32 at hf
      refine lv_ior hx hb dX12_standingAt_32 ?_
      refine lv_istore_n (lv' := [(2, .int (k1_j32 ||| k0_j32)), (0, .ref a_o), (1, .int v1), (3, .int v3_j32)]) hx hb dX12_standingAt_33 rfl hl (by decide) rfl (fun ls hl => ?_)
      refine lv_iinc (v := (v3_j32 + 1)) (lv' := [(3, .int (v3_j32 + 1)), (2, .int (k1_j32 ||| k0_j32)), (0, .ref a_o), (1, .int v1)]) hx hb dX12_standingAt_34 hl (k := 3) rfl rfl (by decide) rfl (fun ls hl => ?_)
      refine lv_goto (tgt := 4) hx hb dX12_standingAt_37 (by decide) ?_
      exact hk4 _ (Option.some.inj hf).symm _ _ _ hP hD hS (lv_sub hl [2, 3, 1, 0] rfl)
    unfold X12_standingAt_b4 at hf
    refine lv_iload_n hx hb dX12_standingAt_4 rfl (lv_at hl 3 rfl) ?_
    refine lv_aload_n hx hb dX12_standingAt_5 rfl (lv_at hl 0 rfl) ?_
    refine va_get (D := E.1) (ci := 12) (v := .ref a_o_at) (C := RX12) (T := TX12) (N := 39) hx hb hts inX12 hown hK hP 0 rfl rfl 0 (by decide) (hts _ fl_X12_7) (fun _ h9 => h9) rfl dX12_standingAt_6 ?_
    refine lv_iconst (v := 2) hx hb dX12_standingAt_9 (by decide) ?_
    obtain ⟨hi, hf⟩ := ck hf
    refine r_iald 1 cx hP rfl hi dX12_standingAt_10 ?_
    refine lv_icmp_ge (tgt := 40) hx hb dX12_standingAt_11 (by decide) (fun hc => ?_) (fun hc => ?_)
    · have hf := it_t hc hf
      exact he4 _ (Option.some.inj hf).symm _ _ _ hP hD hS (lv_sub hl [2] rfl)
    · have hf := it_f hc hf
      refine lv_iload_n hx hb dX12_standingAt_14 rfl (lv_at hl 2 rfl) ?_
      refine lv_aload_n hx hb dX12_standingAt_15 rfl (lv_at hl 0 rfl) ?_
      refine lv_iload_n hx hb dX12_standingAt_16 rfl (lv_at hl 3 rfl) ?_
      refine lv_iconst (v := 0) hx hb dX12_standingAt_17 (by decide) ?_
      obtain ⟨u18, hu18, hf⟩ := bd hf
      refine keepVI (ct_X12_extraOf l E a_o a_o_at a_o_names a_o_sort a_o_trayMany a_o_trays a_o_tape a_o_text a_o_opened a_o_farBy a_o_attendsBy a_o_coveredBy a_o_cameBy a_o_cameThen a_o_fallsBy a_o_loops a_o_ran a_o_told1 o_status o_top o_bottom o_taped o_size o_token o_from o_end o_value o_faultKind o_faultPlace o_faults o_seen o_toldParts o_depth o_counted o_becameThen o_firstCorner o_drawn o_ranSteps o_isTold o_marks o_at st4.2 (0 : Int32) u18 hu18) [0, 1] cal_X12_extraOf cav_X12_extraOf lk_X12_275 cx hP hD hS hl dX12_standingAt_18 rfl rfl rfl rfl (Nat.le_of_ble_eq_true rfl) ⟨Nat.le_of_ble_eq_true rfl, Nat.le_of_ble_eq_true rfl⟩ rfl (by decide) (fun H locs hP hS => ?_)
      refine lv_iload_n hx hb dX12_standingAt_21 rfl (lv_at hl 1 rfl) ?_
      refine lv_icmp_ne (tgt := 31) hx hb dX12_standingAt_22 (by decide) (fun hc => ?_) (fun hc => ?_)
      · have hf := it_f hc hf
        refine lv_iconst (v := 0) hx hb dX12_standingAt_31 (by decide) ?_
        exact hj32 _ _ _ _ _ _ hf hP hD hS (lv_sub hl [0, 1, 3] rfl)
      · have hf := it_t hc hf
        refine lv_iconst (v := 1) hx hb dX12_standingAt_25 (by decide) ?_
        refine lv_iload_n hx hb dX12_standingAt_26 rfl (lv_at hl 3 rfl) ?_
        refine r_ishl hx hb dX12_standingAt_27 ?_
        refine lv_goto (tgt := 32) hx hb dX12_standingAt_28 (by decide) ?_
        exact hj32 _ _ _ _ _ _ hf hP hD hS (lv_sub hl [0, 1, 3] rfl)
  · refine fun H locs ls hP hD hS hl => ?_
    refine lv_iload_n hx hb dX12_standingAt_40 rfl (lv_at hl 0 rfl) ?_
    obtain rfl := Option.some.inj hf
    subst hq
    exact retI cx hP hD hS dX12_standingAt_41
def X12_allWages_b4 (F : Nat) (o_at : Nat → Int32) (st4 : Int32 × Int32) : Option ((Int32 × Int32) ⊕ ((Int32))) :=
  if ix 2 3097 then
  if (jat o_at 2) ≤ st4.2 then
  some (.inr st4.1)
  else
  (X12_extraOf o_at st4.2 (3 : Int32)).bind fun u18 =>
  some (.inl ((st4.1 + u18), (st4.2 + 1)))
  else none
def X12_allWages (F : Nat) (o_at : Nat → Int32) : Option (Int32) :=
  (iter (X12_allWages_b4 F o_at) F (0, 0)).bind (fun (e4 : Int32) =>
    some e4)
abbrev wd_X12_allWages (E : vE) (a_o a_o_at a_o_names a_o_sort a_o_trayMany a_o_trays a_o_tape a_o_text a_o_opened a_o_farBy a_o_attendsBy a_o_coveredBy a_o_cameBy a_o_cameThen a_o_fallsBy a_o_loops a_o_ran a_o_told1 : Nat) (o_status : Int32) (o_top : Int64) (o_bottom : Int64) (o_taped : Int32) (o_size : Int32) (o_token : Int32) (o_from : Int32) (o_end : Int32) (o_value : Int32) (o_faultKind : Int32) (o_faultPlace : Int32) (o_faults : Int32) (o_seen : Int32) (o_toldParts : Int32) (o_depth : Int32) (o_counted : Int32) (o_becameThen : Int32) (o_firstCorner : Int32) (o_drawn : Int32) (o_ranSteps : Int32) (o_isTold : Int32) (o_marks : Int32) (o_at : Nat → Int32) : va_W := [(a_o, .inr (12, [.ref a_o_at, .ref a_o_names, .int o_status, .long o_top, .long o_bottom, .ref a_o_sort, .ref a_o_trayMany, .ref a_o_trays, .ref a_o_tape, .ref a_o_text, .int o_taped, .int o_size, .int o_token, .int o_from, .int o_end, .int o_value, .int o_faultKind, .int o_faultPlace, .int o_faults, .int o_seen, .int o_toldParts, .ref a_o_opened, .int o_depth, .int o_counted, .ref a_o_farBy, .int o_becameThen, .ref a_o_attendsBy, .ref a_o_coveredBy, .ref a_o_cameBy, .ref a_o_cameThen, .int o_firstCorner, .ref a_o_fallsBy, .int o_drawn, .int o_ranSteps, .ref a_o_loops, .ref a_o_ran, .ref a_o_told1, .int o_isTold, .int o_marks])), (a_o_at, .inl (E.2.1, 3097, .inl o_at))]
set_option maxHeartbeats 4000000 in
set_option maxRecDepth 100000 in
theorem ct_X12_allWages (l : Launch) (E : vE) (F : Nat) (a_o a_o_at a_o_names a_o_sort a_o_trayMany a_o_trays a_o_tape a_o_text a_o_opened a_o_farBy a_o_attendsBy a_o_coveredBy a_o_cameBy a_o_cameThen a_o_fallsBy a_o_loops a_o_ran a_o_told1 : Nat) (o_status : Int32) (o_top : Int64) (o_bottom : Int64) (o_taped : Int32) (o_size : Int32) (o_token : Int32) (o_from : Int32) (o_end : Int32) (o_value : Int32) (o_faultKind : Int32) (o_faultPlace : Int32) (o_faults : Int32) (o_seen : Int32) (o_toldParts : Int32) (o_depth : Int32) (o_counted : Int32) (o_becameThen : Int32) (o_firstCorner : Int32) (o_drawn : Int32) (o_ranSteps : Int32) (o_isTold : Int32) (o_marks : Int32) (o_at : Nat → Int32) (u : Int32) (hf : X12_allWages F o_at = some u) :
    CtI l yX12_allWages cX12_allWages 3 (some .int) 2 E [.ref a_o] (wd_X12_allWages E a_o a_o_at a_o_names a_o_sort a_o_trayMany a_o_trays a_o_tape a_o_text a_o_opened a_o_farBy a_o_attendsBy a_o_coveredBy a_o_cameBy a_o_cameThen a_o_fallsBy a_o_loops a_o_ran a_o_told1 o_status o_top o_bottom o_taped o_size o_token o_from o_end o_value o_faultKind o_faultPlace o_faults o_seen o_toldParts o_depth o_counted o_becameThen o_firstCorner o_drawn o_ranSteps o_isTold o_marks o_at) (wd_X12_allWages E a_o a_o_at a_o_names a_o_sort a_o_trayMany a_o_trays a_o_tape a_o_text a_o_opened a_o_farBy a_o_attendsBy a_o_coveredBy a_o_cameBy a_o_cameThen a_o_fallsBy a_o_loops a_o_ran a_o_told1 o_status o_top o_bottom o_taped o_size o_token o_from o_end o_value o_faultKind o_faultPlace o_faults o_seen o_toldParts o_depth o_counted o_becameThen o_firstCorner o_drawn o_ranSteps o_isTold o_marks o_at) u := by
  refine ctI (by decide) (Nat.le_of_ble_eq_true rfl) ?_
  intro p e s m below meth cd A ls aa QQ hq cx hP hD hS hl
  obtain ⟨⟨hx, hb, hml, hown, hts⟩, hr, hlocks, hK, hA, hX⟩ := id cx
  have hl : lv_has ls 3 [(0, .ref a_o)] := hl
  unfold X12_allWages at hf
  refine lv_iconst (v := 0) hx hb dX12_allWages_0 (by decide) ?_
  refine lv_istore_n (lv' := [(1, .int 0), (0, .ref a_o)]) hx hb dX12_allWages_1 rfl hl (by decide) rfl (fun ls hl => ?_)
  refine lv_iconst (v := 0) hx hb dX12_allWages_2 (by decide) ?_
  refine lv_istore_n (lv' := [(2, .int 0), (1, .int 0), (0, .ref a_o)]) hx hb dX12_allWages_3 rfl hl (by decide) rfl (fun ls hl => ?_)
  obtain ⟨e4, hit4, hf⟩ := bd hf
  refine iter_W (b := X12_allWages_b4 F o_at) (P := fun st4 => ∀ (H : Heap) (locs : List Loc) (ls : Array Slot), va_P E.1 vwCl (wd_X12_allWages E a_o a_o_at a_o_names a_o_sort a_o_trayMany a_o_trays a_o_tape a_o_text a_o_opened a_o_farBy a_o_attendsBy a_o_coveredBy a_o_cameBy a_o_cameThen a_o_fallsBy a_o_loops a_o_ran a_o_told1 o_status o_top o_bottom o_taped o_size o_token o_from o_end o_value o_faultKind o_faultPlace o_faults o_seen o_toldParts o_depth o_counted o_becameThen o_firstCorner o_drawn o_ranSteps o_isTold o_marks o_at) H → va_D A (wd_X12_allWages E a_o a_o_at a_o_names a_o_sort a_o_trayMany a_o_trays a_o_tape a_o_text a_o_opened a_o_farBy a_o_attendsBy a_o_coveredBy a_o_cameBy a_o_cameThen a_o_fallsBy a_o_loops a_o_ran a_o_told1 o_status o_top o_bottom o_taped o_size o_token o_from o_end o_value o_faultKind o_faultPlace o_faults o_seen o_toldParts o_depth o_counted o_becameThen o_firstCorner o_drawn o_ranSteps o_isTold o_marks o_at) → va_S A s.heap H locs → lv_has ls 3 [(0, .ref a_o), (1, .int st4.1), (2, .int st4.2)] → W p l e (rmd 2) s m aa below meth cd H locs 0 0 QQ (F0 m 4 ls [])) (G := (fun (e4 : Int32) => ∀ (H : Heap) (locs : List Loc) (ls : Array Slot), va_P E.1 vwCl (wd_X12_allWages E a_o a_o_at a_o_names a_o_sort a_o_trayMany a_o_trays a_o_tape a_o_text a_o_opened a_o_farBy a_o_attendsBy a_o_coveredBy a_o_cameBy a_o_cameThen a_o_fallsBy a_o_loops a_o_ran a_o_told1 o_status o_top o_bottom o_taped o_size o_token o_from o_end o_value o_faultKind o_faultPlace o_faults o_seen o_toldParts o_depth o_counted o_becameThen o_firstCorner o_drawn o_ranSteps o_isTold o_marks o_at) H → va_D A (wd_X12_allWages E a_o a_o_at a_o_names a_o_sort a_o_trayMany a_o_trays a_o_tape a_o_text a_o_opened a_o_farBy a_o_attendsBy a_o_coveredBy a_o_cameBy a_o_cameThen a_o_fallsBy a_o_loops a_o_ran a_o_told1 o_status o_top o_bottom o_taped o_size o_token o_from o_end o_value o_faultKind o_faultPlace o_faults o_seen o_toldParts o_depth o_counted o_becameThen o_firstCorner o_drawn o_ranSteps o_isTold o_marks o_at) → va_S A s.heap H locs → lv_has ls 3 [(1, .int e4)] → W p l e (rmd 2) s m aa below meth cd H locs 0 0 QQ (F0 m 29 ls []))) ?_ F (0, 0) e4 hit4 ?_ _ _ _ hP hD hS (lv_sub hl [2, 1, 0] rfl)
  · intro st4 r4 hf hk4 he4 H locs ls hP hD hS hl
    unfold X12_allWages_b4 at hf
    refine lv_iload_n hx hb dX12_allWages_4 rfl (lv_at hl 2 rfl) ?_
    refine lv_aload_n hx hb dX12_allWages_5 rfl (lv_at hl 0 rfl) ?_
    refine va_get (D := E.1) (ci := 12) (v := .ref a_o_at) (C := RX12) (T := TX12) (N := 39) hx hb hts inX12 hown hK hP 0 rfl rfl 0 (by decide) (hts _ fl_X12_7) (fun _ h9 => h9) rfl dX12_allWages_6 ?_
    refine lv_iconst (v := 2) hx hb dX12_allWages_9 (by decide) ?_
    obtain ⟨hi, hf⟩ := ck hf
    refine r_iald 1 cx hP rfl hi dX12_allWages_10 ?_
    refine lv_icmp_ge (tgt := 29) hx hb dX12_allWages_11 (by decide) (fun hc => ?_) (fun hc => ?_)
    · have hf := it_t hc hf
      exact he4 _ (Option.some.inj hf).symm _ _ _ hP hD hS (lv_sub hl [1] rfl)
    · have hf := it_f hc hf
      refine lv_iload_n hx hb dX12_allWages_14 rfl (lv_at hl 1 rfl) ?_
      refine lv_aload_n hx hb dX12_allWages_15 rfl (lv_at hl 0 rfl) ?_
      refine lv_iload_n hx hb dX12_allWages_16 rfl (lv_at hl 2 rfl) ?_
      refine lv_iconst (v := 3) hx hb dX12_allWages_17 (by decide) ?_
      obtain ⟨u18, hu18, hf⟩ := bd hf
      refine keepVI (ct_X12_extraOf l E a_o a_o_at a_o_names a_o_sort a_o_trayMany a_o_trays a_o_tape a_o_text a_o_opened a_o_farBy a_o_attendsBy a_o_coveredBy a_o_cameBy a_o_cameThen a_o_fallsBy a_o_loops a_o_ran a_o_told1 o_status o_top o_bottom o_taped o_size o_token o_from o_end o_value o_faultKind o_faultPlace o_faults o_seen o_toldParts o_depth o_counted o_becameThen o_firstCorner o_drawn o_ranSteps o_isTold o_marks o_at st4.2 (3 : Int32) u18 hu18) [0, 1] cal_X12_extraOf cav_X12_extraOf lk_X12_275 cx hP hD hS hl dX12_allWages_18 rfl rfl rfl rfl (Nat.le_of_ble_eq_true rfl) ⟨Nat.le_of_ble_eq_true rfl, Nat.le_of_ble_eq_true rfl⟩ rfl (by decide) (fun H locs hP hS => ?_)
      refine lv_iadd hx hb dX12_allWages_21 ?_
      refine lv_istore_n (lv' := [(1, .int (st4.1 + u18)), (0, .ref a_o), (2, .int st4.2)]) hx hb dX12_allWages_22 rfl hl (by decide) rfl (fun ls hl => ?_)
      refine lv_iinc (v := (st4.2 + 1)) (lv' := [(2, .int (st4.2 + 1)), (1, .int (st4.1 + u18)), (0, .ref a_o)]) hx hb dX12_allWages_23 hl (k := 2) rfl rfl (by decide) rfl (fun ls hl => ?_)
      refine lv_goto (tgt := 4) hx hb dX12_allWages_26 (by decide) ?_
      exact hk4 _ (Option.some.inj hf).symm _ _ _ hP hD hS (lv_sub hl [2, 1, 0] rfl)
  · refine fun H locs ls hP hD hS hl => ?_
    refine lv_iload_n hx hb dX12_allWages_29 rfl (lv_at hl 0 rfl) ?_
    obtain rfl := Option.some.inj hf
    subst hq
    exact retI cx hP hD hS dX12_allWages_30
def X12_told_j52 (F : Nat) (o_status : Int32) (o_at : Nat → Int32) (v1 : Int32) : Option (Int32 × Int32) :=
  (X12_happeningsThat F o_at (v1 - 9)).bind fun u58 =>
  (X12_gives o_status u58).bind fun u61 =>
  some (u61.1, u61.2)
def X12_told_j10 (F : Nat) (o_status : Int32) (o_at : Nat → Int32) : Option (Int32 × Int32) :=
  (X12_refuse o_status (1 : Int32)).bind fun u12 =>
  some (u12.1, u12.2)
def X12_told (F : Nat) (o_status : Int32) (o_at : Nat → Int32) (v1 : Int32) : Option (Int32 × Int32) :=
  if v1 < 0 then
  X12_told_j10 F o_status o_at
  else
  if v1 ≤ 13 then
  if v1 = 9 then
  X12_told_j52 F o_status o_at v1
  else if v1 = 10 then
  X12_told_j52 F o_status o_at v1
  else if v1 = 11 then
  X12_told_j52 F o_status o_at v1
  else if v1 = 12 then
  (X12_onRoads F o_at).bind fun u67 =>
  (X12_gives o_status u67).bind fun u70 =>
  some (u70.1, u70.2)
  else if v1 = 13 then
  (X12_allWages F o_at).bind fun u76 =>
  (X12_gives o_status u76).bind fun u79 =>
  some (u79.1, u79.2)
  else if ix v1 3097 then
  (X12_gives o_status (jat o_at v1)).bind fun u90 =>
  some (u90.1, u90.2)
  else none
  else
  X12_told_j10 F o_status o_at
abbrev wd_X12_told (E : vE) (a_o a_o_at a_o_names a_o_sort a_o_trayMany a_o_trays a_o_tape a_o_text a_o_opened a_o_farBy a_o_attendsBy a_o_coveredBy a_o_cameBy a_o_cameThen a_o_fallsBy a_o_loops a_o_ran a_o_told1 : Nat) (o_status : Int32) (o_top : Int64) (o_bottom : Int64) (o_taped : Int32) (o_size : Int32) (o_token : Int32) (o_from : Int32) (o_end : Int32) (o_value : Int32) (o_faultKind : Int32) (o_faultPlace : Int32) (o_faults : Int32) (o_seen : Int32) (o_toldParts : Int32) (o_depth : Int32) (o_counted : Int32) (o_becameThen : Int32) (o_firstCorner : Int32) (o_drawn : Int32) (o_ranSteps : Int32) (o_isTold : Int32) (o_marks : Int32) (o_at : Nat → Int32) : va_W := [(a_o, .inr (12, [.ref a_o_at, .ref a_o_names, .int o_status, .long o_top, .long o_bottom, .ref a_o_sort, .ref a_o_trayMany, .ref a_o_trays, .ref a_o_tape, .ref a_o_text, .int o_taped, .int o_size, .int o_token, .int o_from, .int o_end, .int o_value, .int o_faultKind, .int o_faultPlace, .int o_faults, .int o_seen, .int o_toldParts, .ref a_o_opened, .int o_depth, .int o_counted, .ref a_o_farBy, .int o_becameThen, .ref a_o_attendsBy, .ref a_o_coveredBy, .ref a_o_cameBy, .ref a_o_cameThen, .int o_firstCorner, .ref a_o_fallsBy, .int o_drawn, .int o_ranSteps, .ref a_o_loops, .ref a_o_ran, .ref a_o_told1, .int o_isTold, .int o_marks])), (a_o_at, .inl (E.2.1, 3097, .inl o_at))]
set_option maxHeartbeats 4000000 in
set_option maxRecDepth 100000 in
theorem ct_X12_told (l : Launch) (E : vE) (F : Nat) (a_o a_o_at a_o_names a_o_sort a_o_trayMany a_o_trays a_o_tape a_o_text a_o_opened a_o_farBy a_o_attendsBy a_o_coveredBy a_o_cameBy a_o_cameThen a_o_fallsBy a_o_loops a_o_ran a_o_told1 : Nat) (o_status : Int32) (o_top : Int64) (o_bottom : Int64) (o_taped : Int32) (o_size : Int32) (o_token : Int32) (o_from : Int32) (o_end : Int32) (o_value : Int32) (o_faultKind : Int32) (o_faultPlace : Int32) (o_faults : Int32) (o_seen : Int32) (o_toldParts : Int32) (o_depth : Int32) (o_counted : Int32) (o_becameThen : Int32) (o_firstCorner : Int32) (o_drawn : Int32) (o_ranSteps : Int32) (o_isTold : Int32) (o_marks : Int32) (o_at : Nat → Int32) (v1 : Int32) (u : Int32 × Int32) (hf : X12_told F o_status o_at v1 = some u) :
    CtI l yX12_told cX12_told 2 (some .int) 4 E [.ref a_o, .int v1] (wd_X12_told E a_o a_o_at a_o_names a_o_sort a_o_trayMany a_o_trays a_o_tape a_o_text a_o_opened a_o_farBy a_o_attendsBy a_o_coveredBy a_o_cameBy a_o_cameThen a_o_fallsBy a_o_loops a_o_ran a_o_told1 o_status o_top o_bottom o_taped o_size o_token o_from o_end o_value o_faultKind o_faultPlace o_faults o_seen o_toldParts o_depth o_counted o_becameThen o_firstCorner o_drawn o_ranSteps o_isTold o_marks o_at) (wd_X12_told E a_o a_o_at a_o_names a_o_sort a_o_trayMany a_o_trays a_o_tape a_o_text a_o_opened a_o_farBy a_o_attendsBy a_o_coveredBy a_o_cameBy a_o_cameThen a_o_fallsBy a_o_loops a_o_ran a_o_told1 u.2 o_top o_bottom o_taped o_size o_token o_from o_end o_value o_faultKind o_faultPlace o_faults o_seen o_toldParts o_depth o_counted o_becameThen o_firstCorner o_drawn o_ranSteps o_isTold o_marks o_at) u.1 := by
  refine ctI (by decide) (Nat.le_of_ble_eq_true rfl) ?_
  intro p e s m below meth cd A ls aa QQ hq cx hP hD hS hl
  obtain ⟨⟨hx, hb, hml, hown, hts⟩, hr, hlocks, hK, hA, hX⟩ := id cx
  have hl : lv_has ls 2 [(0, .ref a_o), (1, .int v1)] := hl
  have hj52 : ∀ (o_status_j52 : Int32) (H : Heap) (locs : List Loc) (ls : Array Slot), X12_told_j52 F o_status_j52 o_at v1 = some u → va_P E.1 vwCl (wd_X12_told E a_o a_o_at a_o_names a_o_sort a_o_trayMany a_o_trays a_o_tape a_o_text a_o_opened a_o_farBy a_o_attendsBy a_o_coveredBy a_o_cameBy a_o_cameThen a_o_fallsBy a_o_loops a_o_ran a_o_told1 o_status_j52 o_top o_bottom o_taped o_size o_token o_from o_end o_value o_faultKind o_faultPlace o_faults o_seen o_toldParts o_depth o_counted o_becameThen o_firstCorner o_drawn o_ranSteps o_isTold o_marks o_at) H → va_D A (wd_X12_told E a_o a_o_at a_o_names a_o_sort a_o_trayMany a_o_trays a_o_tape a_o_text a_o_opened a_o_farBy a_o_attendsBy a_o_coveredBy a_o_cameBy a_o_cameThen a_o_fallsBy a_o_loops a_o_ran a_o_told1 o_status_j52 o_top o_bottom o_taped o_size o_token o_from o_end o_value o_faultKind o_faultPlace o_faults o_seen o_toldParts o_depth o_counted o_becameThen o_firstCorner o_drawn o_ranSteps o_isTold o_marks o_at) → va_S A s.heap H locs → lv_has ls 2 [(0, .ref a_o), (1, .int v1)] → W p l e (rmd 4) s m aa below meth cd H locs 0 0 QQ (F0 m 52 ls []) := by
    intro o_status_j52 H locs ls hf hP hD hS hl
    unfold X12_told_j52 at hf
    refine lv_aload_n hx hb dX12_told_52 rfl (lv_at hl 0 rfl) ?_
    refine lv_aload_n hx hb dX12_told_53 rfl (lv_at hl 0 rfl) ?_
    refine lv_iload_n hx hb dX12_told_54 rfl (lv_at hl 1 rfl) ?_
    refine lv_bipush (v := 9) hx hb dX12_told_55 (by decide) ?_
    refine lv_isub hx hb dX12_told_57 ?_
    obtain ⟨u58, hu58, hf⟩ := bd hf
    refine keepVI (ct_X12_happeningsThat l E F a_o a_o_at a_o_names a_o_sort a_o_trayMany a_o_trays a_o_tape a_o_text a_o_opened a_o_farBy a_o_attendsBy a_o_coveredBy a_o_cameBy a_o_cameThen a_o_fallsBy a_o_loops a_o_ran a_o_told1 o_status_j52 o_top o_bottom o_taped o_size o_token o_from o_end o_value o_faultKind o_faultPlace o_faults o_seen o_toldParts o_depth o_counted o_becameThen o_firstCorner o_drawn o_ranSteps o_isTold o_marks o_at (v1 - 9) u58 hu58) [0, 1] cal_X12_happeningsThat cav_X12_happeningsThat lk_X12_284 cx hP hD hS hl dX12_told_58 rfl rfl rfl rfl (Nat.le_of_ble_eq_true rfl) ⟨Nat.le_of_ble_eq_true rfl, Nat.le_of_ble_eq_true rfl⟩ rfl (by decide) (fun H locs hP hS => ?_)
    obtain ⟨u61, hu61, hf⟩ := bd hf
    refine callVI (wn := (wd_X12_told E a_o a_o_at a_o_names a_o_sort a_o_trayMany a_o_trays a_o_tape a_o_text a_o_opened a_o_farBy a_o_attendsBy a_o_coveredBy a_o_cameBy a_o_cameThen a_o_fallsBy a_o_loops a_o_ran a_o_told1 u61.2 o_top o_bottom o_taped o_size o_token o_from o_end o_value o_faultKind o_faultPlace o_faults o_seen o_toldParts o_depth o_counted o_becameThen o_firstCorner o_drawn o_ranSteps o_isTold o_marks o_at)) (n1 := 2) (ct_X12_gives l E a_o a_o_at a_o_names a_o_sort a_o_trayMany a_o_trays a_o_tape a_o_text a_o_opened a_o_farBy a_o_attendsBy a_o_coveredBy a_o_cameBy a_o_cameThen a_o_fallsBy a_o_loops a_o_ran a_o_told1 o_status_j52 o_top o_bottom o_taped o_size o_token o_from o_end o_value o_faultKind o_faultPlace o_faults o_seen o_toldParts o_depth o_counted o_becameThen o_firstCorner o_drawn o_ranSteps o_isTold o_marks u58 u61 hu61) [0] cal_X12_gives cav_X12_gives lk_X12_89 cx hP hD hS hl dX12_told_61 rfl rfl rfl rfl (Nat.le_of_ble_eq_true rfl) ⟨Nat.le_of_ble_eq_true rfl, Nat.le_of_ble_eq_true rfl⟩ rfl (by decide +kernel) rfl [some 0, none] rfl (by decide +kernel) rfl (fun H locs hP hD hS => ?_)
    obtain rfl := Option.some.inj hf
    subst hq
    exact retI cx hP hD hS dX12_told_64
  have hj10 : ∀ (o_status_j10 : Int32) (H : Heap) (locs : List Loc) (ls : Array Slot), X12_told_j10 F o_status_j10 o_at = some u → va_P E.1 vwCl (wd_X12_told E a_o a_o_at a_o_names a_o_sort a_o_trayMany a_o_trays a_o_tape a_o_text a_o_opened a_o_farBy a_o_attendsBy a_o_coveredBy a_o_cameBy a_o_cameThen a_o_fallsBy a_o_loops a_o_ran a_o_told1 o_status_j10 o_top o_bottom o_taped o_size o_token o_from o_end o_value o_faultKind o_faultPlace o_faults o_seen o_toldParts o_depth o_counted o_becameThen o_firstCorner o_drawn o_ranSteps o_isTold o_marks o_at) H → va_D A (wd_X12_told E a_o a_o_at a_o_names a_o_sort a_o_trayMany a_o_trays a_o_tape a_o_text a_o_opened a_o_farBy a_o_attendsBy a_o_coveredBy a_o_cameBy a_o_cameThen a_o_fallsBy a_o_loops a_o_ran a_o_told1 o_status_j10 o_top o_bottom o_taped o_size o_token o_from o_end o_value o_faultKind o_faultPlace o_faults o_seen o_toldParts o_depth o_counted o_becameThen o_firstCorner o_drawn o_ranSteps o_isTold o_marks o_at) → va_S A s.heap H locs → lv_has ls 2 [(0, .ref a_o)] → W p l e (rmd 4) s m aa below meth cd H locs 0 0 QQ (F0 m 10 ls []) := by
    intro o_status_j10 H locs ls hf hP hD hS hl
    unfold X12_told_j10 at hf
    refine lv_aload_n hx hb dX12_told_10 rfl (lv_at hl 0 rfl) ?_
    refine lv_iconst (v := 1) hx hb dX12_told_11 (by decide) ?_
    obtain ⟨u12, hu12, hf⟩ := bd hf
    refine callVI (wn := (wd_X12_told E a_o a_o_at a_o_names a_o_sort a_o_trayMany a_o_trays a_o_tape a_o_text a_o_opened a_o_farBy a_o_attendsBy a_o_coveredBy a_o_cameBy a_o_cameThen a_o_fallsBy a_o_loops a_o_ran a_o_told1 u12.2 o_top o_bottom o_taped o_size o_token o_from o_end o_value o_faultKind o_faultPlace o_faults o_seen o_toldParts o_depth o_counted o_becameThen o_firstCorner o_drawn o_ranSteps o_isTold o_marks o_at)) (n1 := 2) (ct_X12_refuse l E a_o a_o_at a_o_names a_o_sort a_o_trayMany a_o_trays a_o_tape a_o_text a_o_opened a_o_farBy a_o_attendsBy a_o_coveredBy a_o_cameBy a_o_cameThen a_o_fallsBy a_o_loops a_o_ran a_o_told1 o_status_j10 o_top o_bottom o_taped o_size o_token o_from o_end o_value o_faultKind o_faultPlace o_faults o_seen o_toldParts o_depth o_counted o_becameThen o_firstCorner o_drawn o_ranSteps o_isTold o_marks (1 : Int32) u12 hu12) [0] cal_X12_refuse cav_X12_refuse lk_X12_85 cx hP hD hS hl dX12_told_12 rfl rfl rfl rfl (Nat.le_of_ble_eq_true rfl) ⟨Nat.le_of_ble_eq_true rfl, Nat.le_of_ble_eq_true rfl⟩ rfl (by decide +kernel) rfl [some 0, none] rfl (by decide +kernel) rfl (fun H locs hP hD hS => ?_)
    obtain rfl := Option.some.inj hf
    subst hq
    exact retI cx hP hD hS dX12_told_15
  unfold X12_told at hf
  refine lv_iload_n hx hb dX12_told_0 rfl (lv_at hl 1 rfl) ?_
  refine lv_if_lt (tgt := 10) hx hb dX12_told_1 (by decide) (fun hc => ?_) (fun hc => ?_)
  · have hf := it_t hc hf
    exact hj10 _ _ _ _ hf hP hD hS (lv_sub hl [0] rfl)
  · have hf := it_f hc hf
    refine lv_iload_n hx hb dX12_told_4 rfl (lv_at hl 1 rfl) ?_
    refine lv_bipush (v := 13) hx hb dX12_told_5 (by decide) ?_
    refine lv_icmp_le (tgt := 16) hx hb dX12_told_7 (by decide) (fun hc => ?_) (fun hc => ?_)
    · have hf := it_t hc hf
      refine lv_iload_n hx hb dX12_told_16 rfl (lv_at hl 1 rfl) ?_
      by_cases hc10 : v1 = 9
      · have hf := it_t hc10 hf
        refine swT (tgt := 52) 0 cx dX12_told_17 (by rw [hc10]; decide) (by decide) rfl (by decide) ?_
        exact hj52 _ _ _ _ hf hP hD hS (lv_sub hl [0, 1] rfl)
      · have hf := it_f hc10 hf
        by_cases hc11 : v1 = 10
        · have hf := it_t hc11 hf
          refine swT (tgt := 52) 1 cx dX12_told_17 (by rw [hc11]; decide) (by decide) rfl (by decide) ?_
          exact hj52 _ _ _ _ hf hP hD hS (lv_sub hl [0, 1] rfl)
        · have hf := it_f hc11 hf
          by_cases hc12 : v1 = 11
          · have hf := it_t hc12 hf
            refine swT (tgt := 52) 2 cx dX12_told_17 (by rw [hc12]; decide) (by decide) rfl (by decide) ?_
            exact hj52 _ _ _ _ hf hP hD hS (lv_sub hl [0, 1] rfl)
          · have hf := it_f hc12 hf
            by_cases hc13 : v1 = 12
            · have hf := it_t hc13 hf
              refine swT (tgt := 65) 3 cx dX12_told_17 (by rw [hc13]; decide) (by decide) rfl (by decide) ?_
              refine lv_aload_n hx hb dX12_told_65 rfl (lv_at hl 0 rfl) ?_
              refine lv_aload_n hx hb dX12_told_66 rfl (lv_at hl 0 rfl) ?_
              obtain ⟨u67, hu67, hf⟩ := bd hf
              refine keepVI (ct_X12_onRoads l E F a_o a_o_at a_o_names a_o_sort a_o_trayMany a_o_trays a_o_tape a_o_text a_o_opened a_o_farBy a_o_attendsBy a_o_coveredBy a_o_cameBy a_o_cameThen a_o_fallsBy a_o_loops a_o_ran a_o_told1 o_status o_top o_bottom o_taped o_size o_token o_from o_end o_value o_faultKind o_faultPlace o_faults o_seen o_toldParts o_depth o_counted o_becameThen o_firstCorner o_drawn o_ranSteps o_isTold o_marks o_at u67 hu67) [0, 1] cal_X12_onRoads cav_X12_onRoads lk_X12_287 cx hP hD hS hl dX12_told_67 rfl rfl rfl rfl (Nat.le_of_ble_eq_true rfl) ⟨Nat.le_of_ble_eq_true rfl, Nat.le_of_ble_eq_true rfl⟩ rfl (by decide) (fun H locs hP hS => ?_)
              obtain ⟨u70, hu70, hf⟩ := bd hf
              refine callVI (wn := (wd_X12_told E a_o a_o_at a_o_names a_o_sort a_o_trayMany a_o_trays a_o_tape a_o_text a_o_opened a_o_farBy a_o_attendsBy a_o_coveredBy a_o_cameBy a_o_cameThen a_o_fallsBy a_o_loops a_o_ran a_o_told1 u70.2 o_top o_bottom o_taped o_size o_token o_from o_end o_value o_faultKind o_faultPlace o_faults o_seen o_toldParts o_depth o_counted o_becameThen o_firstCorner o_drawn o_ranSteps o_isTold o_marks o_at)) (n1 := 2) (ct_X12_gives l E a_o a_o_at a_o_names a_o_sort a_o_trayMany a_o_trays a_o_tape a_o_text a_o_opened a_o_farBy a_o_attendsBy a_o_coveredBy a_o_cameBy a_o_cameThen a_o_fallsBy a_o_loops a_o_ran a_o_told1 o_status o_top o_bottom o_taped o_size o_token o_from o_end o_value o_faultKind o_faultPlace o_faults o_seen o_toldParts o_depth o_counted o_becameThen o_firstCorner o_drawn o_ranSteps o_isTold o_marks u67 u70 hu70) [0] cal_X12_gives cav_X12_gives lk_X12_89 cx hP hD hS hl dX12_told_70 rfl rfl rfl rfl (Nat.le_of_ble_eq_true rfl) ⟨Nat.le_of_ble_eq_true rfl, Nat.le_of_ble_eq_true rfl⟩ rfl (by decide +kernel) rfl [some 0, none] rfl (by decide +kernel) rfl (fun H locs hP hD hS => ?_)
              obtain rfl := Option.some.inj hf
              subst hq
              exact retI cx hP hD hS dX12_told_73
            · have hf := it_f hc13 hf
              by_cases hc14 : v1 = 13
              · have hf := it_t hc14 hf
                refine swT (tgt := 74) 4 cx dX12_told_17 (by rw [hc14]; decide) (by decide) rfl (by decide) ?_
                refine lv_aload_n hx hb dX12_told_74 rfl (lv_at hl 0 rfl) ?_
                refine lv_aload_n hx hb dX12_told_75 rfl (lv_at hl 0 rfl) ?_
                obtain ⟨u76, hu76, hf⟩ := bd hf
                refine keepVI (ct_X12_allWages l E F a_o a_o_at a_o_names a_o_sort a_o_trayMany a_o_trays a_o_tape a_o_text a_o_opened a_o_farBy a_o_attendsBy a_o_coveredBy a_o_cameBy a_o_cameThen a_o_fallsBy a_o_loops a_o_ran a_o_told1 o_status o_top o_bottom o_taped o_size o_token o_from o_end o_value o_faultKind o_faultPlace o_faults o_seen o_toldParts o_depth o_counted o_becameThen o_firstCorner o_drawn o_ranSteps o_isTold o_marks o_at u76 hu76) [0, 1] cal_X12_allWages cav_X12_allWages lk_X12_290 cx hP hD hS hl dX12_told_76 rfl rfl rfl rfl (Nat.le_of_ble_eq_true rfl) ⟨Nat.le_of_ble_eq_true rfl, Nat.le_of_ble_eq_true rfl⟩ rfl (by decide) (fun H locs hP hS => ?_)
                obtain ⟨u79, hu79, hf⟩ := bd hf
                refine callVI (wn := (wd_X12_told E a_o a_o_at a_o_names a_o_sort a_o_trayMany a_o_trays a_o_tape a_o_text a_o_opened a_o_farBy a_o_attendsBy a_o_coveredBy a_o_cameBy a_o_cameThen a_o_fallsBy a_o_loops a_o_ran a_o_told1 u79.2 o_top o_bottom o_taped o_size o_token o_from o_end o_value o_faultKind o_faultPlace o_faults o_seen o_toldParts o_depth o_counted o_becameThen o_firstCorner o_drawn o_ranSteps o_isTold o_marks o_at)) (n1 := 2) (ct_X12_gives l E a_o a_o_at a_o_names a_o_sort a_o_trayMany a_o_trays a_o_tape a_o_text a_o_opened a_o_farBy a_o_attendsBy a_o_coveredBy a_o_cameBy a_o_cameThen a_o_fallsBy a_o_loops a_o_ran a_o_told1 o_status o_top o_bottom o_taped o_size o_token o_from o_end o_value o_faultKind o_faultPlace o_faults o_seen o_toldParts o_depth o_counted o_becameThen o_firstCorner o_drawn o_ranSteps o_isTold o_marks u76 u79 hu79) [0] cal_X12_gives cav_X12_gives lk_X12_89 cx hP hD hS hl dX12_told_79 rfl rfl rfl rfl (Nat.le_of_ble_eq_true rfl) ⟨Nat.le_of_ble_eq_true rfl, Nat.le_of_ble_eq_true rfl⟩ rfl (by decide +kernel) rfl [some 0, none] rfl (by decide +kernel) rfl (fun H locs hP hD hS => ?_)
                obtain rfl := Option.some.inj hf
                subst hq
                exact retI cx hP hD hS dX12_told_82
              · have hf := it_f hc14 hf
                refine swD (tgt := 83) [9, 10, 11, 12, 13] cx dX12_told_17 ?_ (by decide) (by decide) ?_
                · intro z hz
                  simp only [List.mem_cons, List.not_mem_nil, or_false] at hz
                  rcases hz with rfl | rfl | rfl | rfl | rfl
                  · exact ne_int hc10 (by decide)
                  · exact ne_int hc11 (by decide)
                  · exact ne_int hc12 (by decide)
                  · exact ne_int hc13 (by decide)
                  · exact ne_int hc14 (by decide)
                · refine lv_aload_n hx hb dX12_told_83 rfl (lv_at hl 0 rfl) ?_
                  refine lv_aload_n hx hb dX12_told_84 rfl (lv_at hl 0 rfl) ?_
                  refine va_get (D := E.1) (ci := 12) (v := .ref a_o_at) (C := RX12) (T := TX12) (N := 39) hx hb hts inX12 hown hK hP 0 rfl rfl 0 (by decide) (hts _ fl_X12_7) (fun _ h9 => h9) rfl dX12_told_85 ?_
                  refine lv_iload_n hx hb dX12_told_88 rfl (lv_at hl 1 rfl) ?_
                  obtain ⟨hi, hf⟩ := ck hf
                  refine r_iald 1 cx hP rfl hi dX12_told_89 ?_
                  obtain ⟨u90, hu90, hf⟩ := bd hf
                  refine callVI (wn := (wd_X12_told E a_o a_o_at a_o_names a_o_sort a_o_trayMany a_o_trays a_o_tape a_o_text a_o_opened a_o_farBy a_o_attendsBy a_o_coveredBy a_o_cameBy a_o_cameThen a_o_fallsBy a_o_loops a_o_ran a_o_told1 u90.2 o_top o_bottom o_taped o_size o_token o_from o_end o_value o_faultKind o_faultPlace o_faults o_seen o_toldParts o_depth o_counted o_becameThen o_firstCorner o_drawn o_ranSteps o_isTold o_marks o_at)) (n1 := 2) (ct_X12_gives l E a_o a_o_at a_o_names a_o_sort a_o_trayMany a_o_trays a_o_tape a_o_text a_o_opened a_o_farBy a_o_attendsBy a_o_coveredBy a_o_cameBy a_o_cameThen a_o_fallsBy a_o_loops a_o_ran a_o_told1 o_status o_top o_bottom o_taped o_size o_token o_from o_end o_value o_faultKind o_faultPlace o_faults o_seen o_toldParts o_depth o_counted o_becameThen o_firstCorner o_drawn o_ranSteps o_isTold o_marks (jat o_at v1) u90 hu90) [0] cal_X12_gives cav_X12_gives lk_X12_89 cx hP hD hS hl dX12_told_90 rfl rfl rfl rfl (Nat.le_of_ble_eq_true rfl) ⟨Nat.le_of_ble_eq_true rfl, Nat.le_of_ble_eq_true rfl⟩ rfl (by decide +kernel) rfl [some 0, none] rfl (by decide +kernel) rfl (fun H locs hP hD hS => ?_)
                  obtain rfl := Option.some.inj hf
                  subst hq
                  exact retI cx hP hD hS dX12_told_93
    · have hf := it_f hc hf
      exact hj10 _ _ _ _ hf hP hD hS (lv_sub hl [0] rfl)
