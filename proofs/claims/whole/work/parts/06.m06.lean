def X12_extra_j17 (o_status : Int32) (o_at : Nat → Int32) : Option (Int32 × Int32) :=
  (X12_refuse o_status (1 : Int32)).bind fun u19 =>
  some (u19.1, u19.2)
def X12_extra (o_status : Int32) (o_at : Nat → Int32) (v1 : Int32) (v2 : Int32) : Option (Int32 × Int32) :=
  (X12_isExtra o_at v1).bind fun u2 =>
  if u2 = 0 then
  X12_extra_j17 o_status o_at
  else
  if v2 < 0 then
  X12_extra_j17 o_status o_at
  else
  if v2 ≤ 4 then
  (X12_extraOf o_at v1 v2).bind fun u27 =>
  (X12_gives o_status u27).bind fun u30 =>
  some (u30.1, u30.2)
  else
  X12_extra_j17 o_status o_at
abbrev wd_X12_extra (E : vE) (a_o a_o_at a_o_names a_o_sort a_o_trayMany a_o_trays a_o_tape a_o_text a_o_opened a_o_farBy a_o_attendsBy a_o_coveredBy a_o_cameBy a_o_cameThen a_o_fallsBy a_o_loops a_o_ran a_o_told1 : Nat) (o_status : Int32) (o_top : Int64) (o_bottom : Int64) (o_taped : Int32) (o_size : Int32) (o_token : Int32) (o_from : Int32) (o_end : Int32) (o_value : Int32) (o_faultKind : Int32) (o_faultPlace : Int32) (o_faults : Int32) (o_seen : Int32) (o_toldParts : Int32) (o_depth : Int32) (o_counted : Int32) (o_becameThen : Int32) (o_firstCorner : Int32) (o_drawn : Int32) (o_ranSteps : Int32) (o_isTold : Int32) (o_marks : Int32) (o_at : Nat → Int32) : va_W := [(a_o, .inr (12, [.ref a_o_at, .ref a_o_names, .int o_status, .long o_top, .long o_bottom, .ref a_o_sort, .ref a_o_trayMany, .ref a_o_trays, .ref a_o_tape, .ref a_o_text, .int o_taped, .int o_size, .int o_token, .int o_from, .int o_end, .int o_value, .int o_faultKind, .int o_faultPlace, .int o_faults, .int o_seen, .int o_toldParts, .ref a_o_opened, .int o_depth, .int o_counted, .ref a_o_farBy, .int o_becameThen, .ref a_o_attendsBy, .ref a_o_coveredBy, .ref a_o_cameBy, .ref a_o_cameThen, .int o_firstCorner, .ref a_o_fallsBy, .int o_drawn, .int o_ranSteps, .ref a_o_loops, .ref a_o_ran, .ref a_o_told1, .int o_isTold, .int o_marks])), (a_o_at, .inl (E.2.1, 3097, .inl o_at))]
set_option maxHeartbeats 4000000 in
set_option maxRecDepth 100000 in
theorem ct_X12_extra (l : Launch) (E : vE) (a_o a_o_at a_o_names a_o_sort a_o_trayMany a_o_trays a_o_tape a_o_text a_o_opened a_o_farBy a_o_attendsBy a_o_coveredBy a_o_cameBy a_o_cameThen a_o_fallsBy a_o_loops a_o_ran a_o_told1 : Nat) (o_status : Int32) (o_top : Int64) (o_bottom : Int64) (o_taped : Int32) (o_size : Int32) (o_token : Int32) (o_from : Int32) (o_end : Int32) (o_value : Int32) (o_faultKind : Int32) (o_faultPlace : Int32) (o_faults : Int32) (o_seen : Int32) (o_toldParts : Int32) (o_depth : Int32) (o_counted : Int32) (o_becameThen : Int32) (o_firstCorner : Int32) (o_drawn : Int32) (o_ranSteps : Int32) (o_isTold : Int32) (o_marks : Int32) (o_at : Nat → Int32) (v1 : Int32) (v2 : Int32) (u : Int32 × Int32) (hf : X12_extra o_status o_at v1 v2 = some u) :
    CtI l yX12_extra cX12_extra 3 (some .int) 2 E [.ref a_o, .int v1, .int v2] (wd_X12_extra E a_o a_o_at a_o_names a_o_sort a_o_trayMany a_o_trays a_o_tape a_o_text a_o_opened a_o_farBy a_o_attendsBy a_o_coveredBy a_o_cameBy a_o_cameThen a_o_fallsBy a_o_loops a_o_ran a_o_told1 o_status o_top o_bottom o_taped o_size o_token o_from o_end o_value o_faultKind o_faultPlace o_faults o_seen o_toldParts o_depth o_counted o_becameThen o_firstCorner o_drawn o_ranSteps o_isTold o_marks o_at) (wd_X12_extra E a_o a_o_at a_o_names a_o_sort a_o_trayMany a_o_trays a_o_tape a_o_text a_o_opened a_o_farBy a_o_attendsBy a_o_coveredBy a_o_cameBy a_o_cameThen a_o_fallsBy a_o_loops a_o_ran a_o_told1 u.2 o_top o_bottom o_taped o_size o_token o_from o_end o_value o_faultKind o_faultPlace o_faults o_seen o_toldParts o_depth o_counted o_becameThen o_firstCorner o_drawn o_ranSteps o_isTold o_marks o_at) u.1 := by
  refine ctI (by decide) (Nat.le_of_ble_eq_true rfl) ?_
  intro p e s m below meth cd A ls aa QQ hq cx hP hD hS hl
  obtain ⟨⟨hx, hb, hml, hown, hts⟩, hr, hlocks, hK, hA, hX⟩ := id cx
  have hl : lv_has ls 3 [(0, .ref a_o), (1, .int v1), (2, .int v2)] := hl
  have hj17 : ∀ (o_status_j17 : Int32) (H : Heap) (locs : List Loc) (ls : Array Slot), X12_extra_j17 o_status_j17 o_at = some u → va_P E.1 vwCl (wd_X12_extra E a_o a_o_at a_o_names a_o_sort a_o_trayMany a_o_trays a_o_tape a_o_text a_o_opened a_o_farBy a_o_attendsBy a_o_coveredBy a_o_cameBy a_o_cameThen a_o_fallsBy a_o_loops a_o_ran a_o_told1 o_status_j17 o_top o_bottom o_taped o_size o_token o_from o_end o_value o_faultKind o_faultPlace o_faults o_seen o_toldParts o_depth o_counted o_becameThen o_firstCorner o_drawn o_ranSteps o_isTold o_marks o_at) H → va_D A (wd_X12_extra E a_o a_o_at a_o_names a_o_sort a_o_trayMany a_o_trays a_o_tape a_o_text a_o_opened a_o_farBy a_o_attendsBy a_o_coveredBy a_o_cameBy a_o_cameThen a_o_fallsBy a_o_loops a_o_ran a_o_told1 o_status_j17 o_top o_bottom o_taped o_size o_token o_from o_end o_value o_faultKind o_faultPlace o_faults o_seen o_toldParts o_depth o_counted o_becameThen o_firstCorner o_drawn o_ranSteps o_isTold o_marks o_at) → va_S A s.heap H locs → lv_has ls 3 [(0, .ref a_o)] → W p l e (rmd 2) s m aa below meth cd H locs 0 0 QQ (F0 m 17 ls []) := by
    intro o_status_j17 H locs ls hf hP hD hS hl
    unfold X12_extra_j17 at hf
    refine lv_aload_n hx hb dX12_extra_17 rfl (lv_at hl 0 rfl) ?_
    refine lv_iconst (v := 1) hx hb dX12_extra_18 (by decide) ?_
    obtain ⟨u19, hu19, hf⟩ := bd hf
    refine callVI (wn := (wd_X12_extra E a_o a_o_at a_o_names a_o_sort a_o_trayMany a_o_trays a_o_tape a_o_text a_o_opened a_o_farBy a_o_attendsBy a_o_coveredBy a_o_cameBy a_o_cameThen a_o_fallsBy a_o_loops a_o_ran a_o_told1 u19.2 o_top o_bottom o_taped o_size o_token o_from o_end o_value o_faultKind o_faultPlace o_faults o_seen o_toldParts o_depth o_counted o_becameThen o_firstCorner o_drawn o_ranSteps o_isTold o_marks o_at)) (n1 := 2) (ct_X12_refuse l E a_o a_o_at a_o_names a_o_sort a_o_trayMany a_o_trays a_o_tape a_o_text a_o_opened a_o_farBy a_o_attendsBy a_o_coveredBy a_o_cameBy a_o_cameThen a_o_fallsBy a_o_loops a_o_ran a_o_told1 o_status_j17 o_top o_bottom o_taped o_size o_token o_from o_end o_value o_faultKind o_faultPlace o_faults o_seen o_toldParts o_depth o_counted o_becameThen o_firstCorner o_drawn o_ranSteps o_isTold o_marks (1 : Int32) u19 hu19) [0] cal_X12_refuse cav_X12_refuse lk_X12_85 cx hP hD hS hl dX12_extra_19 rfl rfl rfl rfl (Nat.le_of_ble_eq_true rfl) ⟨Nat.le_of_ble_eq_true rfl, Nat.le_of_ble_eq_true rfl⟩ rfl (by decide +kernel) rfl [some 0, none] rfl (by decide +kernel) rfl (fun H locs hP hD hS => ?_)
    obtain rfl := Option.some.inj hf
    subst hq
    exact retI cx hP hD hS dX12_extra_22
  unfold X12_extra at hf
  refine lv_aload_n hx hb dX12_extra_0 rfl (lv_at hl 0 rfl) ?_
  refine lv_iload_n hx hb dX12_extra_1 rfl (lv_at hl 1 rfl) ?_
  obtain ⟨u2, hu2, hf⟩ := bd hf
  refine keepVI (ct_X12_isExtra l E a_o a_o_at a_o_names a_o_sort a_o_trayMany a_o_trays a_o_tape a_o_text a_o_opened a_o_farBy a_o_attendsBy a_o_coveredBy a_o_cameBy a_o_cameThen a_o_fallsBy a_o_loops a_o_ran a_o_told1 o_status o_top o_bottom o_taped o_size o_token o_from o_end o_value o_faultKind o_faultPlace o_faults o_seen o_toldParts o_depth o_counted o_becameThen o_firstCorner o_drawn o_ranSteps o_isTold o_marks o_at v1 u2 hu2) [0, 1] cal_X12_isExtra cav_X12_isExtra lk_X12_293 cx hP hD hS hl dX12_extra_2 rfl rfl rfl rfl (Nat.le_of_ble_eq_true rfl) ⟨Nat.le_of_ble_eq_true rfl, Nat.le_of_ble_eq_true rfl⟩ rfl (by decide) (fun H locs hP hS => ?_)
  refine lv_if_eq (tgt := 17) hx hb dX12_extra_5 (by decide) (fun hc => ?_) (fun hc => ?_)
  · have hf := it_t hc hf
    exact hj17 _ _ _ _ hf hP hD hS (lv_sub hl [0] rfl)
  · have hf := it_f hc hf
    refine lv_iload_n hx hb dX12_extra_8 rfl (lv_at hl 2 rfl) ?_
    refine lv_if_lt (tgt := 17) hx hb dX12_extra_9 (by decide) (fun hc => ?_) (fun hc => ?_)
    · have hf := it_t hc hf
      exact hj17 _ _ _ _ hf hP hD hS (lv_sub hl [0] rfl)
    · have hf := it_f hc hf
      refine lv_iload_n hx hb dX12_extra_12 rfl (lv_at hl 2 rfl) ?_
      refine lv_iconst (v := 4) hx hb dX12_extra_13 (by decide) ?_
      refine lv_icmp_le (tgt := 23) hx hb dX12_extra_14 (by decide) (fun hc => ?_) (fun hc => ?_)
      · have hf := it_t hc hf
        refine lv_aload_n hx hb dX12_extra_23 rfl (lv_at hl 0 rfl) ?_
        refine lv_aload_n hx hb dX12_extra_24 rfl (lv_at hl 0 rfl) ?_
        refine lv_iload_n hx hb dX12_extra_25 rfl (lv_at hl 1 rfl) ?_
        refine lv_iload_n hx hb dX12_extra_26 rfl (lv_at hl 2 rfl) ?_
        obtain ⟨u27, hu27, hf⟩ := bd hf
        refine keepVI (ct_X12_extraOf l E a_o a_o_at a_o_names a_o_sort a_o_trayMany a_o_trays a_o_tape a_o_text a_o_opened a_o_farBy a_o_attendsBy a_o_coveredBy a_o_cameBy a_o_cameThen a_o_fallsBy a_o_loops a_o_ran a_o_told1 o_status o_top o_bottom o_taped o_size o_token o_from o_end o_value o_faultKind o_faultPlace o_faults o_seen o_toldParts o_depth o_counted o_becameThen o_firstCorner o_drawn o_ranSteps o_isTold o_marks o_at v1 v2 u27 hu27) [0, 1] cal_X12_extraOf cav_X12_extraOf lk_X12_275 cx hP hD hS hl dX12_extra_27 rfl rfl rfl rfl (Nat.le_of_ble_eq_true rfl) ⟨Nat.le_of_ble_eq_true rfl, Nat.le_of_ble_eq_true rfl⟩ rfl (by decide) (fun H locs hP hS => ?_)
        obtain ⟨u30, hu30, hf⟩ := bd hf
        refine callVI (wn := (wd_X12_extra E a_o a_o_at a_o_names a_o_sort a_o_trayMany a_o_trays a_o_tape a_o_text a_o_opened a_o_farBy a_o_attendsBy a_o_coveredBy a_o_cameBy a_o_cameThen a_o_fallsBy a_o_loops a_o_ran a_o_told1 u30.2 o_top o_bottom o_taped o_size o_token o_from o_end o_value o_faultKind o_faultPlace o_faults o_seen o_toldParts o_depth o_counted o_becameThen o_firstCorner o_drawn o_ranSteps o_isTold o_marks o_at)) (n1 := 2) (ct_X12_gives l E a_o a_o_at a_o_names a_o_sort a_o_trayMany a_o_trays a_o_tape a_o_text a_o_opened a_o_farBy a_o_attendsBy a_o_coveredBy a_o_cameBy a_o_cameThen a_o_fallsBy a_o_loops a_o_ran a_o_told1 o_status o_top o_bottom o_taped o_size o_token o_from o_end o_value o_faultKind o_faultPlace o_faults o_seen o_toldParts o_depth o_counted o_becameThen o_firstCorner o_drawn o_ranSteps o_isTold o_marks u27 u30 hu30) [0] cal_X12_gives cav_X12_gives lk_X12_89 cx hP hD hS hl dX12_extra_30 rfl rfl rfl rfl (Nat.le_of_ble_eq_true rfl) ⟨Nat.le_of_ble_eq_true rfl, Nat.le_of_ble_eq_true rfl⟩ rfl (by decide +kernel) rfl [some 0, none] rfl (by decide +kernel) rfl (fun H locs hP hD hS => ?_)
        obtain rfl := Option.some.inj hf
        subst hq
        exact retI cx hP hD hS dX12_extra_33
      · have hf := it_f hc hf
        exact hj17 _ _ _ _ hf hP hD hS (lv_sub hl [0] rfl)
def X12_happening_j51 (F : Nat) (o_status : Int32) (o_at : Nat → Int32) (k0 : Int32) : Option (Int32 × Int32) :=
  (X12_gives o_status k0).bind fun u51 =>
  some (u51.1, u51.2)
def X12_happening_j17 (F : Nat) (o_status : Int32) (o_at : Nat → Int32) : Option (Int32 × Int32) :=
  (X12_refuse o_status (1 : Int32)).bind fun u19 =>
  some (u19.1, u19.2)
def X12_happening (F : Nat) (o_status : Int32) (o_at : Nat → Int32) (v1 : Int32) (v2 : Int32) : Option (Int32 × Int32) :=
  (X12_isHappening o_at v1).bind fun u2 =>
  if u2 = 0 then
  X12_happening_j17 F o_status o_at
  else
  if v2 < 0 then
  X12_happening_j17 F o_status o_at
  else
  if v2 ≤ 4 then
  if v2 = 4 then
  (X12_happeningOf o_at v1 (0 : Int32)).bind fun u33 =>
  (X12_standingAt F o_at u33).bind fun u36 =>
  (X12_bits F u36).bind fun u39 =>
  X12_happening_j51 F o_status o_at u39
  else
  (X12_happeningOf o_at v1 v2).bind fun u48 =>
  X12_happening_j51 F o_status o_at u48
  else
  X12_happening_j17 F o_status o_at
abbrev wd_X12_happening (E : vE) (a_o a_o_at a_o_names a_o_sort a_o_trayMany a_o_trays a_o_tape a_o_text a_o_opened a_o_farBy a_o_attendsBy a_o_coveredBy a_o_cameBy a_o_cameThen a_o_fallsBy a_o_loops a_o_ran a_o_told1 : Nat) (o_status : Int32) (o_top : Int64) (o_bottom : Int64) (o_taped : Int32) (o_size : Int32) (o_token : Int32) (o_from : Int32) (o_end : Int32) (o_value : Int32) (o_faultKind : Int32) (o_faultPlace : Int32) (o_faults : Int32) (o_seen : Int32) (o_toldParts : Int32) (o_depth : Int32) (o_counted : Int32) (o_becameThen : Int32) (o_firstCorner : Int32) (o_drawn : Int32) (o_ranSteps : Int32) (o_isTold : Int32) (o_marks : Int32) (o_at : Nat → Int32) : va_W := [(a_o, .inr (12, [.ref a_o_at, .ref a_o_names, .int o_status, .long o_top, .long o_bottom, .ref a_o_sort, .ref a_o_trayMany, .ref a_o_trays, .ref a_o_tape, .ref a_o_text, .int o_taped, .int o_size, .int o_token, .int o_from, .int o_end, .int o_value, .int o_faultKind, .int o_faultPlace, .int o_faults, .int o_seen, .int o_toldParts, .ref a_o_opened, .int o_depth, .int o_counted, .ref a_o_farBy, .int o_becameThen, .ref a_o_attendsBy, .ref a_o_coveredBy, .ref a_o_cameBy, .ref a_o_cameThen, .int o_firstCorner, .ref a_o_fallsBy, .int o_drawn, .int o_ranSteps, .ref a_o_loops, .ref a_o_ran, .ref a_o_told1, .int o_isTold, .int o_marks])), (a_o_at, .inl (E.2.1, 3097, .inl o_at))]
set_option maxHeartbeats 4000000 in
set_option maxRecDepth 100000 in
theorem ct_X12_happening (l : Launch) (E : vE) (F : Nat) (a_o a_o_at a_o_names a_o_sort a_o_trayMany a_o_trays a_o_tape a_o_text a_o_opened a_o_farBy a_o_attendsBy a_o_coveredBy a_o_cameBy a_o_cameThen a_o_fallsBy a_o_loops a_o_ran a_o_told1 : Nat) (o_status : Int32) (o_top : Int64) (o_bottom : Int64) (o_taped : Int32) (o_size : Int32) (o_token : Int32) (o_from : Int32) (o_end : Int32) (o_value : Int32) (o_faultKind : Int32) (o_faultPlace : Int32) (o_faults : Int32) (o_seen : Int32) (o_toldParts : Int32) (o_depth : Int32) (o_counted : Int32) (o_becameThen : Int32) (o_firstCorner : Int32) (o_drawn : Int32) (o_ranSteps : Int32) (o_isTold : Int32) (o_marks : Int32) (o_at : Nat → Int32) (v1 : Int32) (v2 : Int32) (u : Int32 × Int32) (hf : X12_happening F o_status o_at v1 v2 = some u) :
    CtI l yX12_happening cX12_happening 3 (some .int) 3 E [.ref a_o, .int v1, .int v2] (wd_X12_happening E a_o a_o_at a_o_names a_o_sort a_o_trayMany a_o_trays a_o_tape a_o_text a_o_opened a_o_farBy a_o_attendsBy a_o_coveredBy a_o_cameBy a_o_cameThen a_o_fallsBy a_o_loops a_o_ran a_o_told1 o_status o_top o_bottom o_taped o_size o_token o_from o_end o_value o_faultKind o_faultPlace o_faults o_seen o_toldParts o_depth o_counted o_becameThen o_firstCorner o_drawn o_ranSteps o_isTold o_marks o_at) (wd_X12_happening E a_o a_o_at a_o_names a_o_sort a_o_trayMany a_o_trays a_o_tape a_o_text a_o_opened a_o_farBy a_o_attendsBy a_o_coveredBy a_o_cameBy a_o_cameThen a_o_fallsBy a_o_loops a_o_ran a_o_told1 u.2 o_top o_bottom o_taped o_size o_token o_from o_end o_value o_faultKind o_faultPlace o_faults o_seen o_toldParts o_depth o_counted o_becameThen o_firstCorner o_drawn o_ranSteps o_isTold o_marks o_at) u.1 := by
  refine ctI (by decide) (Nat.le_of_ble_eq_true rfl) ?_
  intro p e s m below meth cd A ls aa QQ hq cx hP hD hS hl
  obtain ⟨⟨hx, hb, hml, hown, hts⟩, hr, hlocks, hK, hA, hX⟩ := id cx
  have hl : lv_has ls 3 [(0, .ref a_o), (1, .int v1), (2, .int v2)] := hl
  have hj51 : ∀ (o_status_j51 : Int32) (k0_j51 : Int32) (H : Heap) (locs : List Loc) (ls : Array Slot), X12_happening_j51 F o_status_j51 o_at k0_j51 = some u → va_P E.1 vwCl (wd_X12_happening E a_o a_o_at a_o_names a_o_sort a_o_trayMany a_o_trays a_o_tape a_o_text a_o_opened a_o_farBy a_o_attendsBy a_o_coveredBy a_o_cameBy a_o_cameThen a_o_fallsBy a_o_loops a_o_ran a_o_told1 o_status_j51 o_top o_bottom o_taped o_size o_token o_from o_end o_value o_faultKind o_faultPlace o_faults o_seen o_toldParts o_depth o_counted o_becameThen o_firstCorner o_drawn o_ranSteps o_isTold o_marks o_at) H → va_D A (wd_X12_happening E a_o a_o_at a_o_names a_o_sort a_o_trayMany a_o_trays a_o_tape a_o_text a_o_opened a_o_farBy a_o_attendsBy a_o_coveredBy a_o_cameBy a_o_cameThen a_o_fallsBy a_o_loops a_o_ran a_o_told1 o_status_j51 o_top o_bottom o_taped o_size o_token o_from o_end o_value o_faultKind o_faultPlace o_faults o_seen o_toldParts o_depth o_counted o_becameThen o_firstCorner o_drawn o_ranSteps o_isTold o_marks o_at) → va_S A s.heap H locs → lv_has ls 3 [] → W p l e (rmd 3) s m aa below meth cd H locs 0 0 QQ (F0 m 51 ls [.int k0_j51, .ref a_o]) := by
    intro o_status_j51 k0_j51 H locs ls hf hP hD hS hl
    unfold X12_happening_j51 at hf
    obtain ⟨u51, hu51, hf⟩ := bd hf
    refine callVI (wn := (wd_X12_happening E a_o a_o_at a_o_names a_o_sort a_o_trayMany a_o_trays a_o_tape a_o_text a_o_opened a_o_farBy a_o_attendsBy a_o_coveredBy a_o_cameBy a_o_cameThen a_o_fallsBy a_o_loops a_o_ran a_o_told1 u51.2 o_top o_bottom o_taped o_size o_token o_from o_end o_value o_faultKind o_faultPlace o_faults o_seen o_toldParts o_depth o_counted o_becameThen o_firstCorner o_drawn o_ranSteps o_isTold o_marks o_at)) (n1 := 2) (ct_X12_gives l E a_o a_o_at a_o_names a_o_sort a_o_trayMany a_o_trays a_o_tape a_o_text a_o_opened a_o_farBy a_o_attendsBy a_o_coveredBy a_o_cameBy a_o_cameThen a_o_fallsBy a_o_loops a_o_ran a_o_told1 o_status_j51 o_top o_bottom o_taped o_size o_token o_from o_end o_value o_faultKind o_faultPlace o_faults o_seen o_toldParts o_depth o_counted o_becameThen o_firstCorner o_drawn o_ranSteps o_isTold o_marks k0_j51 u51 hu51) [0] cal_X12_gives cav_X12_gives lk_X12_89 cx hP hD hS hl dX12_happening_51 rfl rfl rfl rfl (Nat.le_of_ble_eq_true rfl) ⟨Nat.le_of_ble_eq_true rfl, Nat.le_of_ble_eq_true rfl⟩ rfl (by decide +kernel) rfl [some 0, none] rfl (by decide +kernel) rfl (fun H locs hP hD hS => ?_)
    obtain rfl := Option.some.inj hf
    subst hq
    exact retI cx hP hD hS dX12_happening_54
  have hj17 : ∀ (o_status_j17 : Int32) (H : Heap) (locs : List Loc) (ls : Array Slot), X12_happening_j17 F o_status_j17 o_at = some u → va_P E.1 vwCl (wd_X12_happening E a_o a_o_at a_o_names a_o_sort a_o_trayMany a_o_trays a_o_tape a_o_text a_o_opened a_o_farBy a_o_attendsBy a_o_coveredBy a_o_cameBy a_o_cameThen a_o_fallsBy a_o_loops a_o_ran a_o_told1 o_status_j17 o_top o_bottom o_taped o_size o_token o_from o_end o_value o_faultKind o_faultPlace o_faults o_seen o_toldParts o_depth o_counted o_becameThen o_firstCorner o_drawn o_ranSteps o_isTold o_marks o_at) H → va_D A (wd_X12_happening E a_o a_o_at a_o_names a_o_sort a_o_trayMany a_o_trays a_o_tape a_o_text a_o_opened a_o_farBy a_o_attendsBy a_o_coveredBy a_o_cameBy a_o_cameThen a_o_fallsBy a_o_loops a_o_ran a_o_told1 o_status_j17 o_top o_bottom o_taped o_size o_token o_from o_end o_value o_faultKind o_faultPlace o_faults o_seen o_toldParts o_depth o_counted o_becameThen o_firstCorner o_drawn o_ranSteps o_isTold o_marks o_at) → va_S A s.heap H locs → lv_has ls 3 [(0, .ref a_o)] → W p l e (rmd 3) s m aa below meth cd H locs 0 0 QQ (F0 m 17 ls []) := by
    intro o_status_j17 H locs ls hf hP hD hS hl
    unfold X12_happening_j17 at hf
    refine lv_aload_n hx hb dX12_happening_17 rfl (lv_at hl 0 rfl) ?_
    refine lv_iconst (v := 1) hx hb dX12_happening_18 (by decide) ?_
    obtain ⟨u19, hu19, hf⟩ := bd hf
    refine callVI (wn := (wd_X12_happening E a_o a_o_at a_o_names a_o_sort a_o_trayMany a_o_trays a_o_tape a_o_text a_o_opened a_o_farBy a_o_attendsBy a_o_coveredBy a_o_cameBy a_o_cameThen a_o_fallsBy a_o_loops a_o_ran a_o_told1 u19.2 o_top o_bottom o_taped o_size o_token o_from o_end o_value o_faultKind o_faultPlace o_faults o_seen o_toldParts o_depth o_counted o_becameThen o_firstCorner o_drawn o_ranSteps o_isTold o_marks o_at)) (n1 := 2) (ct_X12_refuse l E a_o a_o_at a_o_names a_o_sort a_o_trayMany a_o_trays a_o_tape a_o_text a_o_opened a_o_farBy a_o_attendsBy a_o_coveredBy a_o_cameBy a_o_cameThen a_o_fallsBy a_o_loops a_o_ran a_o_told1 o_status_j17 o_top o_bottom o_taped o_size o_token o_from o_end o_value o_faultKind o_faultPlace o_faults o_seen o_toldParts o_depth o_counted o_becameThen o_firstCorner o_drawn o_ranSteps o_isTold o_marks (1 : Int32) u19 hu19) [0] cal_X12_refuse cav_X12_refuse lk_X12_85 cx hP hD hS hl dX12_happening_19 rfl rfl rfl rfl (Nat.le_of_ble_eq_true rfl) ⟨Nat.le_of_ble_eq_true rfl, Nat.le_of_ble_eq_true rfl⟩ rfl (by decide +kernel) rfl [some 0, none] rfl (by decide +kernel) rfl (fun H locs hP hD hS => ?_)
    obtain rfl := Option.some.inj hf
    subst hq
    exact retI cx hP hD hS dX12_happening_22
  unfold X12_happening at hf
  refine lv_aload_n hx hb dX12_happening_0 rfl (lv_at hl 0 rfl) ?_
  refine lv_iload_n hx hb dX12_happening_1 rfl (lv_at hl 1 rfl) ?_
  obtain ⟨u2, hu2, hf⟩ := bd hf
  refine keepVI (ct_X12_isHappening l E a_o a_o_at a_o_names a_o_sort a_o_trayMany a_o_trays a_o_tape a_o_text a_o_opened a_o_farBy a_o_attendsBy a_o_coveredBy a_o_cameBy a_o_cameThen a_o_fallsBy a_o_loops a_o_ran a_o_told1 o_status o_top o_bottom o_taped o_size o_token o_from o_end o_value o_faultKind o_faultPlace o_faults o_seen o_toldParts o_depth o_counted o_becameThen o_firstCorner o_drawn o_ranSteps o_isTold o_marks o_at v1 u2 hu2) [0, 1] cal_X12_isHappening cav_X12_isHappening lk_X12_296 cx hP hD hS hl dX12_happening_2 rfl rfl rfl rfl (Nat.le_of_ble_eq_true rfl) ⟨Nat.le_of_ble_eq_true rfl, Nat.le_of_ble_eq_true rfl⟩ rfl (by decide) (fun H locs hP hS => ?_)
  refine lv_if_eq (tgt := 17) hx hb dX12_happening_5 (by decide) (fun hc => ?_) (fun hc => ?_)
  · have hf := it_t hc hf
    exact hj17 _ _ _ _ hf hP hD hS (lv_sub hl [0] rfl)
  · have hf := it_f hc hf
    refine lv_iload_n hx hb dX12_happening_8 rfl (lv_at hl 2 rfl) ?_
    refine lv_if_lt (tgt := 17) hx hb dX12_happening_9 (by decide) (fun hc => ?_) (fun hc => ?_)
    · have hf := it_t hc hf
      exact hj17 _ _ _ _ hf hP hD hS (lv_sub hl [0] rfl)
    · have hf := it_f hc hf
      refine lv_iload_n hx hb dX12_happening_12 rfl (lv_at hl 2 rfl) ?_
      refine lv_iconst (v := 4) hx hb dX12_happening_13 (by decide) ?_
      refine lv_icmp_le (tgt := 23) hx hb dX12_happening_14 (by decide) (fun hc => ?_) (fun hc => ?_)
      · have hf := it_t hc hf
        refine lv_aload_n hx hb dX12_happening_23 rfl (lv_at hl 0 rfl) ?_
        refine lv_iload_n hx hb dX12_happening_24 rfl (lv_at hl 2 rfl) ?_
        refine lv_iconst (v := 4) hx hb dX12_happening_25 (by decide) ?_
        refine lv_icmp_ne (tgt := 45) hx hb dX12_happening_26 (by decide) (fun hc => ?_) (fun hc => ?_)
        · have hf := it_f hc hf
          refine lv_aload_n hx hb dX12_happening_45 rfl (lv_at hl 0 rfl) ?_
          refine lv_iload_n hx hb dX12_happening_46 rfl (lv_at hl 1 rfl) ?_
          refine lv_iload_n hx hb dX12_happening_47 rfl (lv_at hl 2 rfl) ?_
          obtain ⟨u48, hu48, hf⟩ := bd hf
          refine keepVI (ct_X12_happeningOf l E a_o a_o_at a_o_names a_o_sort a_o_trayMany a_o_trays a_o_tape a_o_text a_o_opened a_o_farBy a_o_attendsBy a_o_coveredBy a_o_cameBy a_o_cameThen a_o_fallsBy a_o_loops a_o_ran a_o_told1 o_status o_top o_bottom o_taped o_size o_token o_from o_end o_value o_faultKind o_faultPlace o_faults o_seen o_toldParts o_depth o_counted o_becameThen o_firstCorner o_drawn o_ranSteps o_isTold o_marks o_at v1 v2 u48 hu48) [0, 1] cal_X12_happeningOf cav_X12_happeningOf lk_X12_278 cx hP hD hS hl dX12_happening_48 rfl rfl rfl rfl (Nat.le_of_ble_eq_true rfl) ⟨Nat.le_of_ble_eq_true rfl, Nat.le_of_ble_eq_true rfl⟩ rfl (by decide) (fun H locs hP hS => ?_)
          exact hj51 _ _ _ _ _ hf hP hD hS (lv_sub hl [] rfl)
        · have hf := it_t hc hf
          refine lv_aload_n hx hb dX12_happening_29 rfl (lv_at hl 0 rfl) ?_
          refine lv_aload_n hx hb dX12_happening_30 rfl (lv_at hl 0 rfl) ?_
          refine lv_iload_n hx hb dX12_happening_31 rfl (lv_at hl 1 rfl) ?_
          refine lv_iconst (v := 0) hx hb dX12_happening_32 (by decide) ?_
          obtain ⟨u33, hu33, hf⟩ := bd hf
          refine keepVI (ct_X12_happeningOf l E a_o a_o_at a_o_names a_o_sort a_o_trayMany a_o_trays a_o_tape a_o_text a_o_opened a_o_farBy a_o_attendsBy a_o_coveredBy a_o_cameBy a_o_cameThen a_o_fallsBy a_o_loops a_o_ran a_o_told1 o_status o_top o_bottom o_taped o_size o_token o_from o_end o_value o_faultKind o_faultPlace o_faults o_seen o_toldParts o_depth o_counted o_becameThen o_firstCorner o_drawn o_ranSteps o_isTold o_marks o_at v1 (0 : Int32) u33 hu33) [0, 1] cal_X12_happeningOf cav_X12_happeningOf lk_X12_278 cx hP hD hS hl dX12_happening_33 rfl rfl rfl rfl (Nat.le_of_ble_eq_true rfl) ⟨Nat.le_of_ble_eq_true rfl, Nat.le_of_ble_eq_true rfl⟩ rfl (by decide) (fun H locs hP hS => ?_)
          obtain ⟨u36, hu36, hf⟩ := bd hf
          refine keepVI (ct_X12_standingAt l E F a_o a_o_at a_o_names a_o_sort a_o_trayMany a_o_trays a_o_tape a_o_text a_o_opened a_o_farBy a_o_attendsBy a_o_coveredBy a_o_cameBy a_o_cameThen a_o_fallsBy a_o_loops a_o_ran a_o_told1 o_status o_top o_bottom o_taped o_size o_token o_from o_end o_value o_faultKind o_faultPlace o_faults o_seen o_toldParts o_depth o_counted o_becameThen o_firstCorner o_drawn o_ranSteps o_isTold o_marks o_at u33 u36 hu36) [0, 1] cal_X12_standingAt cav_X12_standingAt lk_X12_299 cx hP hD hS hl dX12_happening_36 rfl rfl rfl rfl (Nat.le_of_ble_eq_true rfl) ⟨Nat.le_of_ble_eq_true rfl, Nat.le_of_ble_eq_true rfl⟩ rfl (by decide) (fun H locs hP hS => ?_)
          obtain ⟨u39, hu39, hf⟩ := bd hf
          refine keepSI (ct_X12_bits l E F u36 u39 hu39) [] cal_X12_bits sta_X12_bits lk_X12_302 cx hP hD hS hl dX12_happening_39 rfl rfl (Nat.le_of_ble_eq_true rfl) ⟨Nat.le_of_ble_eq_true rfl, Nat.le_of_ble_eq_true rfl⟩ rfl (by decide) (fun H locs hP hS => ?_)
          refine lv_goto (tgt := 51) hx hb dX12_happening_42 (by decide) ?_
          exact hj51 _ _ _ _ _ hf hP hD hS (lv_sub hl [] rfl)
      · have hf := it_f hc hf
        exact hj17 _ _ _ _ hf hP hD hS (lv_sub hl [0] rfl)
def X12_watcher_j17 (o_status : Int32) (o_at : Nat → Int32) : Option (Int32 × Int32) :=
  (X12_refuse o_status (1 : Int32)).bind fun u19 =>
  some (u19.1, u19.2)
def X12_watcher (o_status : Int32) (o_at : Nat → Int32) (v1 : Int32) (v2 : Int32) : Option (Int32 × Int32) :=
  (X12_isWatcher o_at v1).bind fun u2 =>
  if u2 = 0 then
  X12_watcher_j17 o_status o_at
  else
  if v2 < 0 then
  X12_watcher_j17 o_status o_at
  else
  if v2 ≤ 2 then
  (X12_watcherOf o_at v1 v2).bind fun u27 =>
  (X12_gives o_status u27).bind fun u30 =>
  some (u30.1, u30.2)
  else
  X12_watcher_j17 o_status o_at
abbrev wd_X12_watcher (E : vE) (a_o a_o_at a_o_names a_o_sort a_o_trayMany a_o_trays a_o_tape a_o_text a_o_opened a_o_farBy a_o_attendsBy a_o_coveredBy a_o_cameBy a_o_cameThen a_o_fallsBy a_o_loops a_o_ran a_o_told1 : Nat) (o_status : Int32) (o_top : Int64) (o_bottom : Int64) (o_taped : Int32) (o_size : Int32) (o_token : Int32) (o_from : Int32) (o_end : Int32) (o_value : Int32) (o_faultKind : Int32) (o_faultPlace : Int32) (o_faults : Int32) (o_seen : Int32) (o_toldParts : Int32) (o_depth : Int32) (o_counted : Int32) (o_becameThen : Int32) (o_firstCorner : Int32) (o_drawn : Int32) (o_ranSteps : Int32) (o_isTold : Int32) (o_marks : Int32) (o_at : Nat → Int32) : va_W := [(a_o, .inr (12, [.ref a_o_at, .ref a_o_names, .int o_status, .long o_top, .long o_bottom, .ref a_o_sort, .ref a_o_trayMany, .ref a_o_trays, .ref a_o_tape, .ref a_o_text, .int o_taped, .int o_size, .int o_token, .int o_from, .int o_end, .int o_value, .int o_faultKind, .int o_faultPlace, .int o_faults, .int o_seen, .int o_toldParts, .ref a_o_opened, .int o_depth, .int o_counted, .ref a_o_farBy, .int o_becameThen, .ref a_o_attendsBy, .ref a_o_coveredBy, .ref a_o_cameBy, .ref a_o_cameThen, .int o_firstCorner, .ref a_o_fallsBy, .int o_drawn, .int o_ranSteps, .ref a_o_loops, .ref a_o_ran, .ref a_o_told1, .int o_isTold, .int o_marks])), (a_o_at, .inl (E.2.1, 3097, .inl o_at))]
set_option maxHeartbeats 4000000 in
set_option maxRecDepth 100000 in
theorem ct_X12_watcher (l : Launch) (E : vE) (a_o a_o_at a_o_names a_o_sort a_o_trayMany a_o_trays a_o_tape a_o_text a_o_opened a_o_farBy a_o_attendsBy a_o_coveredBy a_o_cameBy a_o_cameThen a_o_fallsBy a_o_loops a_o_ran a_o_told1 : Nat) (o_status : Int32) (o_top : Int64) (o_bottom : Int64) (o_taped : Int32) (o_size : Int32) (o_token : Int32) (o_from : Int32) (o_end : Int32) (o_value : Int32) (o_faultKind : Int32) (o_faultPlace : Int32) (o_faults : Int32) (o_seen : Int32) (o_toldParts : Int32) (o_depth : Int32) (o_counted : Int32) (o_becameThen : Int32) (o_firstCorner : Int32) (o_drawn : Int32) (o_ranSteps : Int32) (o_isTold : Int32) (o_marks : Int32) (o_at : Nat → Int32) (v1 : Int32) (v2 : Int32) (u : Int32 × Int32) (hf : X12_watcher o_status o_at v1 v2 = some u) :
    CtI l yX12_watcher cX12_watcher 3 (some .int) 2 E [.ref a_o, .int v1, .int v2] (wd_X12_watcher E a_o a_o_at a_o_names a_o_sort a_o_trayMany a_o_trays a_o_tape a_o_text a_o_opened a_o_farBy a_o_attendsBy a_o_coveredBy a_o_cameBy a_o_cameThen a_o_fallsBy a_o_loops a_o_ran a_o_told1 o_status o_top o_bottom o_taped o_size o_token o_from o_end o_value o_faultKind o_faultPlace o_faults o_seen o_toldParts o_depth o_counted o_becameThen o_firstCorner o_drawn o_ranSteps o_isTold o_marks o_at) (wd_X12_watcher E a_o a_o_at a_o_names a_o_sort a_o_trayMany a_o_trays a_o_tape a_o_text a_o_opened a_o_farBy a_o_attendsBy a_o_coveredBy a_o_cameBy a_o_cameThen a_o_fallsBy a_o_loops a_o_ran a_o_told1 u.2 o_top o_bottom o_taped o_size o_token o_from o_end o_value o_faultKind o_faultPlace o_faults o_seen o_toldParts o_depth o_counted o_becameThen o_firstCorner o_drawn o_ranSteps o_isTold o_marks o_at) u.1 := by
  refine ctI (by decide) (Nat.le_of_ble_eq_true rfl) ?_
  intro p e s m below meth cd A ls aa QQ hq cx hP hD hS hl
  obtain ⟨⟨hx, hb, hml, hown, hts⟩, hr, hlocks, hK, hA, hX⟩ := id cx
  have hl : lv_has ls 3 [(0, .ref a_o), (1, .int v1), (2, .int v2)] := hl
  have hj17 : ∀ (o_status_j17 : Int32) (H : Heap) (locs : List Loc) (ls : Array Slot), X12_watcher_j17 o_status_j17 o_at = some u → va_P E.1 vwCl (wd_X12_watcher E a_o a_o_at a_o_names a_o_sort a_o_trayMany a_o_trays a_o_tape a_o_text a_o_opened a_o_farBy a_o_attendsBy a_o_coveredBy a_o_cameBy a_o_cameThen a_o_fallsBy a_o_loops a_o_ran a_o_told1 o_status_j17 o_top o_bottom o_taped o_size o_token o_from o_end o_value o_faultKind o_faultPlace o_faults o_seen o_toldParts o_depth o_counted o_becameThen o_firstCorner o_drawn o_ranSteps o_isTold o_marks o_at) H → va_D A (wd_X12_watcher E a_o a_o_at a_o_names a_o_sort a_o_trayMany a_o_trays a_o_tape a_o_text a_o_opened a_o_farBy a_o_attendsBy a_o_coveredBy a_o_cameBy a_o_cameThen a_o_fallsBy a_o_loops a_o_ran a_o_told1 o_status_j17 o_top o_bottom o_taped o_size o_token o_from o_end o_value o_faultKind o_faultPlace o_faults o_seen o_toldParts o_depth o_counted o_becameThen o_firstCorner o_drawn o_ranSteps o_isTold o_marks o_at) → va_S A s.heap H locs → lv_has ls 3 [(0, .ref a_o)] → W p l e (rmd 2) s m aa below meth cd H locs 0 0 QQ (F0 m 17 ls []) := by
    intro o_status_j17 H locs ls hf hP hD hS hl
    unfold X12_watcher_j17 at hf
    refine lv_aload_n hx hb dX12_watcher_17 rfl (lv_at hl 0 rfl) ?_
    refine lv_iconst (v := 1) hx hb dX12_watcher_18 (by decide) ?_
    obtain ⟨u19, hu19, hf⟩ := bd hf
    refine callVI (wn := (wd_X12_watcher E a_o a_o_at a_o_names a_o_sort a_o_trayMany a_o_trays a_o_tape a_o_text a_o_opened a_o_farBy a_o_attendsBy a_o_coveredBy a_o_cameBy a_o_cameThen a_o_fallsBy a_o_loops a_o_ran a_o_told1 u19.2 o_top o_bottom o_taped o_size o_token o_from o_end o_value o_faultKind o_faultPlace o_faults o_seen o_toldParts o_depth o_counted o_becameThen o_firstCorner o_drawn o_ranSteps o_isTold o_marks o_at)) (n1 := 2) (ct_X12_refuse l E a_o a_o_at a_o_names a_o_sort a_o_trayMany a_o_trays a_o_tape a_o_text a_o_opened a_o_farBy a_o_attendsBy a_o_coveredBy a_o_cameBy a_o_cameThen a_o_fallsBy a_o_loops a_o_ran a_o_told1 o_status_j17 o_top o_bottom o_taped o_size o_token o_from o_end o_value o_faultKind o_faultPlace o_faults o_seen o_toldParts o_depth o_counted o_becameThen o_firstCorner o_drawn o_ranSteps o_isTold o_marks (1 : Int32) u19 hu19) [0] cal_X12_refuse cav_X12_refuse lk_X12_85 cx hP hD hS hl dX12_watcher_19 rfl rfl rfl rfl (Nat.le_of_ble_eq_true rfl) ⟨Nat.le_of_ble_eq_true rfl, Nat.le_of_ble_eq_true rfl⟩ rfl (by decide +kernel) rfl [some 0, none] rfl (by decide +kernel) rfl (fun H locs hP hD hS => ?_)
    obtain rfl := Option.some.inj hf
    subst hq
    exact retI cx hP hD hS dX12_watcher_22
  unfold X12_watcher at hf
  refine lv_aload_n hx hb dX12_watcher_0 rfl (lv_at hl 0 rfl) ?_
  refine lv_iload_n hx hb dX12_watcher_1 rfl (lv_at hl 1 rfl) ?_
  obtain ⟨u2, hu2, hf⟩ := bd hf
  refine keepVI (ct_X12_isWatcher l E a_o a_o_at a_o_names a_o_sort a_o_trayMany a_o_trays a_o_tape a_o_text a_o_opened a_o_farBy a_o_attendsBy a_o_coveredBy a_o_cameBy a_o_cameThen a_o_fallsBy a_o_loops a_o_ran a_o_told1 o_status o_top o_bottom o_taped o_size o_token o_from o_end o_value o_faultKind o_faultPlace o_faults o_seen o_toldParts o_depth o_counted o_becameThen o_firstCorner o_drawn o_ranSteps o_isTold o_marks o_at v1 u2 hu2) [0, 1] cal_X12_isWatcher cav_X12_isWatcher lk_X12_305 cx hP hD hS hl dX12_watcher_2 rfl rfl rfl rfl (Nat.le_of_ble_eq_true rfl) ⟨Nat.le_of_ble_eq_true rfl, Nat.le_of_ble_eq_true rfl⟩ rfl (by decide) (fun H locs hP hS => ?_)
  refine lv_if_eq (tgt := 17) hx hb dX12_watcher_5 (by decide) (fun hc => ?_) (fun hc => ?_)
  · have hf := it_t hc hf
    exact hj17 _ _ _ _ hf hP hD hS (lv_sub hl [0] rfl)
  · have hf := it_f hc hf
    refine lv_iload_n hx hb dX12_watcher_8 rfl (lv_at hl 2 rfl) ?_
    refine lv_if_lt (tgt := 17) hx hb dX12_watcher_9 (by decide) (fun hc => ?_) (fun hc => ?_)
    · have hf := it_t hc hf
      exact hj17 _ _ _ _ hf hP hD hS (lv_sub hl [0] rfl)
    · have hf := it_f hc hf
      refine lv_iload_n hx hb dX12_watcher_12 rfl (lv_at hl 2 rfl) ?_
      refine lv_iconst (v := 2) hx hb dX12_watcher_13 (by decide) ?_
      refine lv_icmp_le (tgt := 23) hx hb dX12_watcher_14 (by decide) (fun hc => ?_) (fun hc => ?_)
      · have hf := it_t hc hf
        refine lv_aload_n hx hb dX12_watcher_23 rfl (lv_at hl 0 rfl) ?_
        refine lv_aload_n hx hb dX12_watcher_24 rfl (lv_at hl 0 rfl) ?_
        refine lv_iload_n hx hb dX12_watcher_25 rfl (lv_at hl 1 rfl) ?_
        refine lv_iload_n hx hb dX12_watcher_26 rfl (lv_at hl 2 rfl) ?_
        obtain ⟨u27, hu27, hf⟩ := bd hf
        refine keepVI (ct_X12_watcherOf l E a_o a_o_at a_o_names a_o_sort a_o_trayMany a_o_trays a_o_tape a_o_text a_o_opened a_o_farBy a_o_attendsBy a_o_coveredBy a_o_cameBy a_o_cameThen a_o_fallsBy a_o_loops a_o_ran a_o_told1 o_status o_top o_bottom o_taped o_size o_token o_from o_end o_value o_faultKind o_faultPlace o_faults o_seen o_toldParts o_depth o_counted o_becameThen o_firstCorner o_drawn o_ranSteps o_isTold o_marks o_at v1 v2 u27 hu27) [0, 1] cal_X12_watcherOf cav_X12_watcherOf lk_X12_308 cx hP hD hS hl dX12_watcher_27 rfl rfl rfl rfl (Nat.le_of_ble_eq_true rfl) ⟨Nat.le_of_ble_eq_true rfl, Nat.le_of_ble_eq_true rfl⟩ rfl (by decide) (fun H locs hP hS => ?_)
        obtain ⟨u30, hu30, hf⟩ := bd hf
        refine callVI (wn := (wd_X12_watcher E a_o a_o_at a_o_names a_o_sort a_o_trayMany a_o_trays a_o_tape a_o_text a_o_opened a_o_farBy a_o_attendsBy a_o_coveredBy a_o_cameBy a_o_cameThen a_o_fallsBy a_o_loops a_o_ran a_o_told1 u30.2 o_top o_bottom o_taped o_size o_token o_from o_end o_value o_faultKind o_faultPlace o_faults o_seen o_toldParts o_depth o_counted o_becameThen o_firstCorner o_drawn o_ranSteps o_isTold o_marks o_at)) (n1 := 2) (ct_X12_gives l E a_o a_o_at a_o_names a_o_sort a_o_trayMany a_o_trays a_o_tape a_o_text a_o_opened a_o_farBy a_o_attendsBy a_o_coveredBy a_o_cameBy a_o_cameThen a_o_fallsBy a_o_loops a_o_ran a_o_told1 o_status o_top o_bottom o_taped o_size o_token o_from o_end o_value o_faultKind o_faultPlace o_faults o_seen o_toldParts o_depth o_counted o_becameThen o_firstCorner o_drawn o_ranSteps o_isTold o_marks u27 u30 hu30) [0] cal_X12_gives cav_X12_gives lk_X12_89 cx hP hD hS hl dX12_watcher_30 rfl rfl rfl rfl (Nat.le_of_ble_eq_true rfl) ⟨Nat.le_of_ble_eq_true rfl, Nat.le_of_ble_eq_true rfl⟩ rfl (by decide +kernel) rfl [some 0, none] rfl (by decide +kernel) rfl (fun H locs hP hD hS => ?_)
        obtain rfl := Option.some.inj hf
        subst hq
        exact retI cx hP hD hS dX12_watcher_33
      · have hf := it_f hc hf
        exact hj17 _ _ _ _ hf hP hD hS (lv_sub hl [0] rfl)
def X12_standing (F : Nat) (o_status : Int32) (o_at : Nat → Int32) (v1 : Int32) : Option (Int32 × Int32) :=
  (X12_isCorner o_at v1).bind fun u2 =>
  if u2 = 0 then
  (X12_refuse o_status (1 : Int32)).bind fun u22 =>
  some (u22.1, u22.2)
  else
  (X12_standingAt F o_at v1).bind fun u11 =>
  (X12_gives o_status u11).bind fun u14 =>
  some (u14.1, u14.2)
abbrev wd_X12_standing (E : vE) (a_o a_o_at a_o_names a_o_sort a_o_trayMany a_o_trays a_o_tape a_o_text a_o_opened a_o_farBy a_o_attendsBy a_o_coveredBy a_o_cameBy a_o_cameThen a_o_fallsBy a_o_loops a_o_ran a_o_told1 : Nat) (o_status : Int32) (o_top : Int64) (o_bottom : Int64) (o_taped : Int32) (o_size : Int32) (o_token : Int32) (o_from : Int32) (o_end : Int32) (o_value : Int32) (o_faultKind : Int32) (o_faultPlace : Int32) (o_faults : Int32) (o_seen : Int32) (o_toldParts : Int32) (o_depth : Int32) (o_counted : Int32) (o_becameThen : Int32) (o_firstCorner : Int32) (o_drawn : Int32) (o_ranSteps : Int32) (o_isTold : Int32) (o_marks : Int32) (o_at : Nat → Int32) : va_W := [(a_o, .inr (12, [.ref a_o_at, .ref a_o_names, .int o_status, .long o_top, .long o_bottom, .ref a_o_sort, .ref a_o_trayMany, .ref a_o_trays, .ref a_o_tape, .ref a_o_text, .int o_taped, .int o_size, .int o_token, .int o_from, .int o_end, .int o_value, .int o_faultKind, .int o_faultPlace, .int o_faults, .int o_seen, .int o_toldParts, .ref a_o_opened, .int o_depth, .int o_counted, .ref a_o_farBy, .int o_becameThen, .ref a_o_attendsBy, .ref a_o_coveredBy, .ref a_o_cameBy, .ref a_o_cameThen, .int o_firstCorner, .ref a_o_fallsBy, .int o_drawn, .int o_ranSteps, .ref a_o_loops, .ref a_o_ran, .ref a_o_told1, .int o_isTold, .int o_marks])), (a_o_at, .inl (E.2.1, 3097, .inl o_at))]
set_option maxHeartbeats 4000000 in
set_option maxRecDepth 100000 in
theorem ct_X12_standing (l : Launch) (E : vE) (F : Nat) (a_o a_o_at a_o_names a_o_sort a_o_trayMany a_o_trays a_o_tape a_o_text a_o_opened a_o_farBy a_o_attendsBy a_o_coveredBy a_o_cameBy a_o_cameThen a_o_fallsBy a_o_loops a_o_ran a_o_told1 : Nat) (o_status : Int32) (o_top : Int64) (o_bottom : Int64) (o_taped : Int32) (o_size : Int32) (o_token : Int32) (o_from : Int32) (o_end : Int32) (o_value : Int32) (o_faultKind : Int32) (o_faultPlace : Int32) (o_faults : Int32) (o_seen : Int32) (o_toldParts : Int32) (o_depth : Int32) (o_counted : Int32) (o_becameThen : Int32) (o_firstCorner : Int32) (o_drawn : Int32) (o_ranSteps : Int32) (o_isTold : Int32) (o_marks : Int32) (o_at : Nat → Int32) (v1 : Int32) (u : Int32 × Int32) (hf : X12_standing F o_status o_at v1 = some u) :
    CtI l yX12_standing cX12_standing 2 (some .int) 3 E [.ref a_o, .int v1] (wd_X12_standing E a_o a_o_at a_o_names a_o_sort a_o_trayMany a_o_trays a_o_tape a_o_text a_o_opened a_o_farBy a_o_attendsBy a_o_coveredBy a_o_cameBy a_o_cameThen a_o_fallsBy a_o_loops a_o_ran a_o_told1 o_status o_top o_bottom o_taped o_size o_token o_from o_end o_value o_faultKind o_faultPlace o_faults o_seen o_toldParts o_depth o_counted o_becameThen o_firstCorner o_drawn o_ranSteps o_isTold o_marks o_at) (wd_X12_standing E a_o a_o_at a_o_names a_o_sort a_o_trayMany a_o_trays a_o_tape a_o_text a_o_opened a_o_farBy a_o_attendsBy a_o_coveredBy a_o_cameBy a_o_cameThen a_o_fallsBy a_o_loops a_o_ran a_o_told1 u.2 o_top o_bottom o_taped o_size o_token o_from o_end o_value o_faultKind o_faultPlace o_faults o_seen o_toldParts o_depth o_counted o_becameThen o_firstCorner o_drawn o_ranSteps o_isTold o_marks o_at) u.1 := by
  refine ctI (by decide) (Nat.le_of_ble_eq_true rfl) ?_
  intro p e s m below meth cd A ls aa QQ hq cx hP hD hS hl
  obtain ⟨⟨hx, hb, hml, hown, hts⟩, hr, hlocks, hK, hA, hX⟩ := id cx
  have hl : lv_has ls 2 [(0, .ref a_o), (1, .int v1)] := hl
  unfold X12_standing at hf
  refine lv_aload_n hx hb dX12_standing_0 rfl (lv_at hl 0 rfl) ?_
  refine lv_iload_n hx hb dX12_standing_1 rfl (lv_at hl 1 rfl) ?_
  obtain ⟨u2, hu2, hf⟩ := bd hf
  refine keepVI (ct_X12_isCorner l E a_o a_o_at a_o_names a_o_sort a_o_trayMany a_o_trays a_o_tape a_o_text a_o_opened a_o_farBy a_o_attendsBy a_o_coveredBy a_o_cameBy a_o_cameThen a_o_fallsBy a_o_loops a_o_ran a_o_told1 o_status o_top o_bottom o_taped o_size o_token o_from o_end o_value o_faultKind o_faultPlace o_faults o_seen o_toldParts o_depth o_counted o_becameThen o_firstCorner o_drawn o_ranSteps o_isTold o_marks o_at v1 u2 hu2) [0, 1] cal_X12_isCorner cav_X12_isCorner lk_X12_311 cx hP hD hS hl dX12_standing_2 rfl rfl rfl rfl (Nat.le_of_ble_eq_true rfl) ⟨Nat.le_of_ble_eq_true rfl, Nat.le_of_ble_eq_true rfl⟩ rfl (by decide) (fun H locs hP hS => ?_)
  refine lv_if_eq (tgt := 20) hx hb dX12_standing_5 (by decide) (fun hc => ?_) (fun hc => ?_)
  · have hf := it_t hc hf
    refine lv_aload_n hx hb dX12_standing_20 rfl (lv_at hl 0 rfl) ?_
    refine lv_iconst (v := 1) hx hb dX12_standing_21 (by decide) ?_
    obtain ⟨u22, hu22, hf⟩ := bd hf
    refine callVI (wn := (wd_X12_standing E a_o a_o_at a_o_names a_o_sort a_o_trayMany a_o_trays a_o_tape a_o_text a_o_opened a_o_farBy a_o_attendsBy a_o_coveredBy a_o_cameBy a_o_cameThen a_o_fallsBy a_o_loops a_o_ran a_o_told1 u22.2 o_top o_bottom o_taped o_size o_token o_from o_end o_value o_faultKind o_faultPlace o_faults o_seen o_toldParts o_depth o_counted o_becameThen o_firstCorner o_drawn o_ranSteps o_isTold o_marks o_at)) (n1 := 2) (ct_X12_refuse l E a_o a_o_at a_o_names a_o_sort a_o_trayMany a_o_trays a_o_tape a_o_text a_o_opened a_o_farBy a_o_attendsBy a_o_coveredBy a_o_cameBy a_o_cameThen a_o_fallsBy a_o_loops a_o_ran a_o_told1 o_status o_top o_bottom o_taped o_size o_token o_from o_end o_value o_faultKind o_faultPlace o_faults o_seen o_toldParts o_depth o_counted o_becameThen o_firstCorner o_drawn o_ranSteps o_isTold o_marks (1 : Int32) u22 hu22) [0] cal_X12_refuse cav_X12_refuse lk_X12_85 cx hP hD hS hl dX12_standing_22 rfl rfl rfl rfl (Nat.le_of_ble_eq_true rfl) ⟨Nat.le_of_ble_eq_true rfl, Nat.le_of_ble_eq_true rfl⟩ rfl (by decide +kernel) rfl [some 0, none] rfl (by decide +kernel) rfl (fun H locs hP hD hS => ?_)
    obtain rfl := Option.some.inj hf
    subst hq
    exact retI cx hP hD hS dX12_standing_25
  · have hf := it_f hc hf
    refine lv_aload_n hx hb dX12_standing_8 rfl (lv_at hl 0 rfl) ?_
    refine lv_aload_n hx hb dX12_standing_9 rfl (lv_at hl 0 rfl) ?_
    refine lv_iload_n hx hb dX12_standing_10 rfl (lv_at hl 1 rfl) ?_
    obtain ⟨u11, hu11, hf⟩ := bd hf
    refine keepVI (ct_X12_standingAt l E F a_o a_o_at a_o_names a_o_sort a_o_trayMany a_o_trays a_o_tape a_o_text a_o_opened a_o_farBy a_o_attendsBy a_o_coveredBy a_o_cameBy a_o_cameThen a_o_fallsBy a_o_loops a_o_ran a_o_told1 o_status o_top o_bottom o_taped o_size o_token o_from o_end o_value o_faultKind o_faultPlace o_faults o_seen o_toldParts o_depth o_counted o_becameThen o_firstCorner o_drawn o_ranSteps o_isTold o_marks o_at v1 u11 hu11) [0, 1] cal_X12_standingAt cav_X12_standingAt lk_X12_299 cx hP hD hS hl dX12_standing_11 rfl rfl rfl rfl (Nat.le_of_ble_eq_true rfl) ⟨Nat.le_of_ble_eq_true rfl, Nat.le_of_ble_eq_true rfl⟩ rfl (by decide) (fun H locs hP hS => ?_)
    obtain ⟨u14, hu14, hf⟩ := bd hf
    refine callVI (wn := (wd_X12_standing E a_o a_o_at a_o_names a_o_sort a_o_trayMany a_o_trays a_o_tape a_o_text a_o_opened a_o_farBy a_o_attendsBy a_o_coveredBy a_o_cameBy a_o_cameThen a_o_fallsBy a_o_loops a_o_ran a_o_told1 u14.2 o_top o_bottom o_taped o_size o_token o_from o_end o_value o_faultKind o_faultPlace o_faults o_seen o_toldParts o_depth o_counted o_becameThen o_firstCorner o_drawn o_ranSteps o_isTold o_marks o_at)) (n1 := 2) (ct_X12_gives l E a_o a_o_at a_o_names a_o_sort a_o_trayMany a_o_trays a_o_tape a_o_text a_o_opened a_o_farBy a_o_attendsBy a_o_coveredBy a_o_cameBy a_o_cameThen a_o_fallsBy a_o_loops a_o_ran a_o_told1 o_status o_top o_bottom o_taped o_size o_token o_from o_end o_value o_faultKind o_faultPlace o_faults o_seen o_toldParts o_depth o_counted o_becameThen o_firstCorner o_drawn o_ranSteps o_isTold o_marks u11 u14 hu14) [0] cal_X12_gives cav_X12_gives lk_X12_89 cx hP hD hS hl dX12_standing_14 rfl rfl rfl rfl (Nat.le_of_ble_eq_true rfl) ⟨Nat.le_of_ble_eq_true rfl, Nat.le_of_ble_eq_true rfl⟩ rfl (by decide +kernel) rfl [some 0, none] rfl (by decide +kernel) rfl (fun H locs hP hD hS => ?_)
    refine lv_goto (tgt := 25) hx hb dX12_standing_17 (by decide) ?_
    obtain rfl := Option.some.inj hf
    subst hq
    exact retI cx hP hD hS dX12_standing_25
def X12_roadOf_j85 (F : Nat) (o_at : Nat → Int32) (v1 : Int32) (v2 : Int32) (v3 : Int32) (v4 : Int32) : Option ((Int32 × Int32) ⊕ ((Int32))) :=
  some (.inl (v3, (v4 + 1)))
def X12_roadOf_j68 (F : Nat) (o_at : Nat → Int32) (v1 : Int32) (v2 : Int32) (v3 : Int32) (v4 : Int32) : Option ((Int32 × Int32) ⊕ ((Int32))) :=
  (X12_roadRow v4).bind fun u75 =>
  if ix (u75 + 2) 3097 then
  X12_roadOf_j85 F o_at v1 v2 (jmin v3 (jat o_at (u75 + 2))) v4
  else none
def X12_roadOf_j56 (F : Nat) (o_at : Nat → Int32) (v1 : Int32) (v2 : Int32) (v3 : Int32) (v4 : Int32) (v5 : Int32) (v6 : Int32) : Option ((Int32 × Int32) ⊕ ((Int32))) :=
  if v5 = v2 then
  if v6 = v1 then
  X12_roadOf_j68 F o_at v1 v2 v3 v4
  else
  X12_roadOf_j85 F o_at v1 v2 v3 v4
  else
  X12_roadOf_j85 F o_at v1 v2 v3 v4
def X12_roadOf_b7 (F : Nat) (o_at : Nat → Int32) (v1 : Int32) (v2 : Int32) (st7 : Int32 × Int32) : Option ((Int32 × Int32) ⊕ ((Int32))) :=
  if ix 1 3097 then
  if (jat o_at 1) ≤ st7.2 then
  some (.inr st7.1)
  else
  (X12_roadRow st7.2).bind fun u24 =>
  if ix u24 3097 then
  (X12_roadRow st7.2).bind fun u36 =>
  if ix (u36 + 1) 3097 then
  if (jat o_at u24) = v1 then
  if (jat o_at (u36 + 1)) = v2 then
  X12_roadOf_j68 F o_at v1 v2 st7.1 st7.2
  else
  X12_roadOf_j56 F o_at v1 v2 st7.1 st7.2 (jat o_at u24) (jat o_at (u36 + 1))
  else
  X12_roadOf_j56 F o_at v1 v2 st7.1 st7.2 (jat o_at u24) (jat o_at (u36 + 1))
  else none
  else none
  else none
def X12_roadOf (F : Nat) (o_at : Nat → Int32) (v1 : Int32) (v2 : Int32) : Option (Int32) :=
  (iter (X12_roadOf_b7 F o_at v1 v2) F (1000000, 0)).bind (fun (e7 : Int32) =>
    some e7)
abbrev wd_X12_roadOf (E : vE) (a_o a_o_at a_o_names a_o_sort a_o_trayMany a_o_trays a_o_tape a_o_text a_o_opened a_o_farBy a_o_attendsBy a_o_coveredBy a_o_cameBy a_o_cameThen a_o_fallsBy a_o_loops a_o_ran a_o_told1 : Nat) (o_status : Int32) (o_top : Int64) (o_bottom : Int64) (o_taped : Int32) (o_size : Int32) (o_token : Int32) (o_from : Int32) (o_end : Int32) (o_value : Int32) (o_faultKind : Int32) (o_faultPlace : Int32) (o_faults : Int32) (o_seen : Int32) (o_toldParts : Int32) (o_depth : Int32) (o_counted : Int32) (o_becameThen : Int32) (o_firstCorner : Int32) (o_drawn : Int32) (o_ranSteps : Int32) (o_isTold : Int32) (o_marks : Int32) (o_at : Nat → Int32) : va_W := [(a_o, .inr (12, [.ref a_o_at, .ref a_o_names, .int o_status, .long o_top, .long o_bottom, .ref a_o_sort, .ref a_o_trayMany, .ref a_o_trays, .ref a_o_tape, .ref a_o_text, .int o_taped, .int o_size, .int o_token, .int o_from, .int o_end, .int o_value, .int o_faultKind, .int o_faultPlace, .int o_faults, .int o_seen, .int o_toldParts, .ref a_o_opened, .int o_depth, .int o_counted, .ref a_o_farBy, .int o_becameThen, .ref a_o_attendsBy, .ref a_o_coveredBy, .ref a_o_cameBy, .ref a_o_cameThen, .int o_firstCorner, .ref a_o_fallsBy, .int o_drawn, .int o_ranSteps, .ref a_o_loops, .ref a_o_ran, .ref a_o_told1, .int o_isTold, .int o_marks])), (a_o_at, .inl (E.2.1, 3097, .inl o_at))]
set_option maxHeartbeats 4000000 in
set_option maxRecDepth 100000 in
theorem ct_X12_roadOf (l : Launch) (E : vE) (F : Nat) (a_o a_o_at a_o_names a_o_sort a_o_trayMany a_o_trays a_o_tape a_o_text a_o_opened a_o_farBy a_o_attendsBy a_o_coveredBy a_o_cameBy a_o_cameThen a_o_fallsBy a_o_loops a_o_ran a_o_told1 : Nat) (o_status : Int32) (o_top : Int64) (o_bottom : Int64) (o_taped : Int32) (o_size : Int32) (o_token : Int32) (o_from : Int32) (o_end : Int32) (o_value : Int32) (o_faultKind : Int32) (o_faultPlace : Int32) (o_faults : Int32) (o_seen : Int32) (o_toldParts : Int32) (o_depth : Int32) (o_counted : Int32) (o_becameThen : Int32) (o_firstCorner : Int32) (o_drawn : Int32) (o_ranSteps : Int32) (o_isTold : Int32) (o_marks : Int32) (o_at : Nat → Int32) (v1 : Int32) (v2 : Int32) (u : Int32) (hf : X12_roadOf F o_at v1 v2 = some u) :
    CtI l yX12_roadOf cX12_roadOf 7 (some .int) 1 E [.ref a_o, .int v1, .int v2] (wd_X12_roadOf E a_o a_o_at a_o_names a_o_sort a_o_trayMany a_o_trays a_o_tape a_o_text a_o_opened a_o_farBy a_o_attendsBy a_o_coveredBy a_o_cameBy a_o_cameThen a_o_fallsBy a_o_loops a_o_ran a_o_told1 o_status o_top o_bottom o_taped o_size o_token o_from o_end o_value o_faultKind o_faultPlace o_faults o_seen o_toldParts o_depth o_counted o_becameThen o_firstCorner o_drawn o_ranSteps o_isTold o_marks o_at) (wd_X12_roadOf E a_o a_o_at a_o_names a_o_sort a_o_trayMany a_o_trays a_o_tape a_o_text a_o_opened a_o_farBy a_o_attendsBy a_o_coveredBy a_o_cameBy a_o_cameThen a_o_fallsBy a_o_loops a_o_ran a_o_told1 o_status o_top o_bottom o_taped o_size o_token o_from o_end o_value o_faultKind o_faultPlace o_faults o_seen o_toldParts o_depth o_counted o_becameThen o_firstCorner o_drawn o_ranSteps o_isTold o_marks o_at) u := by
  refine ctI (by decide) (Nat.le_of_ble_eq_true rfl) ?_
  intro p e s m below meth cd A ls aa QQ hq cx hP hD hS hl
  obtain ⟨⟨hx, hb, hml, hown, hts⟩, hr, hlocks, hK, hA, hX⟩ := id cx
  have hl : lv_has ls 7 [(0, .ref a_o), (1, .int v1), (2, .int v2)] := hl
  unfold X12_roadOf at hf
  refine lv_ldcw (v := 1000000) hx hb hown (hts _ ki_X12_314) dX12_roadOf_0 ?_
  refine lv_istore_n (lv' := [(3, .int 1000000), (0, .ref a_o), (1, .int v1), (2, .int v2)]) hx hb dX12_roadOf_3 rfl hl (by decide) rfl (fun ls hl => ?_)
  refine lv_iconst (v := 0) hx hb dX12_roadOf_4 (by decide) ?_
  refine lv_istore (lv' := [(4, .int 0), (3, .int 1000000), (0, .ref a_o), (1, .int v1), (2, .int v2)]) hx hb dX12_roadOf_5 hl (by decide) rfl (fun ls hl => ?_)
  obtain ⟨e7, hit7, hf⟩ := bd hf
  refine iter_W (b := X12_roadOf_b7 F o_at v1 v2) (P := fun st7 => ∀ (H : Heap) (locs : List Loc) (ls : Array Slot), va_P E.1 vwCl (wd_X12_roadOf E a_o a_o_at a_o_names a_o_sort a_o_trayMany a_o_trays a_o_tape a_o_text a_o_opened a_o_farBy a_o_attendsBy a_o_coveredBy a_o_cameBy a_o_cameThen a_o_fallsBy a_o_loops a_o_ran a_o_told1 o_status o_top o_bottom o_taped o_size o_token o_from o_end o_value o_faultKind o_faultPlace o_faults o_seen o_toldParts o_depth o_counted o_becameThen o_firstCorner o_drawn o_ranSteps o_isTold o_marks o_at) H → va_D A (wd_X12_roadOf E a_o a_o_at a_o_names a_o_sort a_o_trayMany a_o_trays a_o_tape a_o_text a_o_opened a_o_farBy a_o_attendsBy a_o_coveredBy a_o_cameBy a_o_cameThen a_o_fallsBy a_o_loops a_o_ran a_o_told1 o_status o_top o_bottom o_taped o_size o_token o_from o_end o_value o_faultKind o_faultPlace o_faults o_seen o_toldParts o_depth o_counted o_becameThen o_firstCorner o_drawn o_ranSteps o_isTold o_marks o_at) → va_S A s.heap H locs → lv_has ls 7 [(0, .ref a_o), (1, .int v1), (2, .int v2), (3, .int st7.1), (4, .int st7.2)] → W p l e (rmd 1) s m aa below meth cd H locs 0 0 QQ (F0 m 7 ls [])) (G := (fun (e7 : Int32) => ∀ (H : Heap) (locs : List Loc) (ls : Array Slot), va_P E.1 vwCl (wd_X12_roadOf E a_o a_o_at a_o_names a_o_sort a_o_trayMany a_o_trays a_o_tape a_o_text a_o_opened a_o_farBy a_o_attendsBy a_o_coveredBy a_o_cameBy a_o_cameThen a_o_fallsBy a_o_loops a_o_ran a_o_told1 o_status o_top o_bottom o_taped o_size o_token o_from o_end o_value o_faultKind o_faultPlace o_faults o_seen o_toldParts o_depth o_counted o_becameThen o_firstCorner o_drawn o_ranSteps o_isTold o_marks o_at) H → va_D A (wd_X12_roadOf E a_o a_o_at a_o_names a_o_sort a_o_trayMany a_o_trays a_o_tape a_o_text a_o_opened a_o_farBy a_o_attendsBy a_o_coveredBy a_o_cameBy a_o_cameThen a_o_fallsBy a_o_loops a_o_ran a_o_told1 o_status o_top o_bottom o_taped o_size o_token o_from o_end o_value o_faultKind o_faultPlace o_faults o_seen o_toldParts o_depth o_counted o_becameThen o_firstCorner o_drawn o_ranSteps o_isTold o_marks o_at) → va_S A s.heap H locs → lv_has ls 7 [(3, .int e7)] → W p l e (rmd 1) s m aa below meth cd H locs 0 0 QQ (F0 m 91 ls []))) ?_ F (1000000, 0) e7 hit7 ?_ _ _ _ hP hD hS (lv_sub hl [2, 3, 4, 1, 0] rfl)
  · intro st7 r7 hf hk7 he7 H locs ls hP hD hS hl
    have hj85 : ∀ (v3_j85 : Int32) (v4_j85 : Int32) (H : Heap) (locs : List Loc) (ls : Array Slot), X12_roadOf_j85 F o_at v1 v2 v3_j85 v4_j85 = some r7 → va_P E.1 vwCl (wd_X12_roadOf E a_o a_o_at a_o_names a_o_sort a_o_trayMany a_o_trays a_o_tape a_o_text a_o_opened a_o_farBy a_o_attendsBy a_o_coveredBy a_o_cameBy a_o_cameThen a_o_fallsBy a_o_loops a_o_ran a_o_told1 o_status o_top o_bottom o_taped o_size o_token o_from o_end o_value o_faultKind o_faultPlace o_faults o_seen o_toldParts o_depth o_counted o_becameThen o_firstCorner o_drawn o_ranSteps o_isTold o_marks o_at) H → va_D A (wd_X12_roadOf E a_o a_o_at a_o_names a_o_sort a_o_trayMany a_o_trays a_o_tape a_o_text a_o_opened a_o_farBy a_o_attendsBy a_o_coveredBy a_o_cameBy a_o_cameThen a_o_fallsBy a_o_loops a_o_ran a_o_told1 o_status o_top o_bottom o_taped o_size o_token o_from o_end o_value o_faultKind o_faultPlace o_faults o_seen o_toldParts o_depth o_counted o_becameThen o_firstCorner o_drawn o_ranSteps o_isTold o_marks o_at) → va_S A s.heap H locs → lv_has ls 7 [(0, .ref a_o), (1, .int v1), (2, .int v2), (3, .int v3_j85), (4, .int v4_j85)] → W p l e (rmd 1) s m aa below meth cd H locs 0 0 QQ (F0 m 85 ls []) := by
      intro v3_j85 v4_j85 H locs ls hf hP hD hS hl
      unfold X12_roadOf_j85 at hf
      refine lv_iinc (v := (v4_j85 + 1)) (lv' := [(4, .int (v4_j85 + 1)), (0, .ref a_o), (1, .int v1), (2, .int v2), (3, .int v3_j85)]) hx hb dX12_roadOf_85 hl (k := 4) rfl rfl (by decide) rfl (fun ls hl => ?_)
      refine lv_goto (tgt := 7) hx hb dX12_roadOf_88 (by decide) ?_
      exact hk7 _ (Option.some.inj hf).symm _ _ _ hP hD hS (lv_sub hl [1, 2, 3, 4, 0] rfl)
    have hj68 : ∀ (v3_j68 : Int32) (v4_j68 : Int32) (H : Heap) (locs : List Loc) (ls : Array Slot), X12_roadOf_j68 F o_at v1 v2 v3_j68 v4_j68 = some r7 → va_P E.1 vwCl (wd_X12_roadOf E a_o a_o_at a_o_names a_o_sort a_o_trayMany a_o_trays a_o_tape a_o_text a_o_opened a_o_farBy a_o_attendsBy a_o_coveredBy a_o_cameBy a_o_cameThen a_o_fallsBy a_o_loops a_o_ran a_o_told1 o_status o_top o_bottom o_taped o_size o_token o_from o_end o_value o_faultKind o_faultPlace o_faults o_seen o_toldParts o_depth o_counted o_becameThen o_firstCorner o_drawn o_ranSteps o_isTold o_marks o_at) H → va_D A (wd_X12_roadOf E a_o a_o_at a_o_names a_o_sort a_o_trayMany a_o_trays a_o_tape a_o_text a_o_opened a_o_farBy a_o_attendsBy a_o_coveredBy a_o_cameBy a_o_cameThen a_o_fallsBy a_o_loops a_o_ran a_o_told1 o_status o_top o_bottom o_taped o_size o_token o_from o_end o_value o_faultKind o_faultPlace o_faults o_seen o_toldParts o_depth o_counted o_becameThen o_firstCorner o_drawn o_ranSteps o_isTold o_marks o_at) → va_S A s.heap H locs → lv_has ls 7 [(0, .ref a_o), (1, .int v1), (2, .int v2), (3, .int v3_j68), (4, .int v4_j68)] → W p l e (rmd 1) s m aa below meth cd H locs 0 0 QQ (F0 m 68 ls []) := by
      intro v3_j68 v4_j68 H locs ls hf hP hD hS hl
      unfold X12_roadOf_j68 at hf
      refine lv_iload_n hx hb dX12_roadOf_68 rfl (lv_at hl 3 rfl) ?_
      refine lv_aload_n hx hb dX12_roadOf_69 rfl (lv_at hl 0 rfl) ?_
      refine va_get (D := E.1) (ci := 12) (v := .ref a_o_at) (C := RX12) (T := TX12) (N := 39) hx hb hts inX12 hown hK hP 0 rfl rfl 0 (by decide) (hts _ fl_X12_7) (fun _ h9 => h9) rfl dX12_roadOf_70 ?_
      refine lv_iload hx hb dX12_roadOf_73 (lv_at hl 4 rfl) ?_
      obtain ⟨u75, hu75, hf⟩ := bd hf
      refine keepSI (ct_X12_roadRow l E v4_j68 u75 hu75) [] cal_X12_roadRow sta_X12_roadRow lk_X12_198 cx hP hD hS hl dX12_roadOf_75 rfl rfl (Nat.le_of_ble_eq_true rfl) ⟨Nat.le_of_ble_eq_true rfl, Nat.le_of_ble_eq_true rfl⟩ rfl (by decide) (fun H locs hP hS => ?_)
      refine lv_iconst (v := 2) hx hb dX12_roadOf_78 (by decide) ?_
      refine lv_iadd hx hb dX12_roadOf_79 ?_
      obtain ⟨hi, hf⟩ := ck hf
      refine r_iald 1 cx hP rfl hi dX12_roadOf_80 ?_
      refine r_mmin cx hl lk_X12_140 mt_min (Nat.le_of_ble_eq_true rfl) (Nat.le_of_ble_eq_true rfl) dX12_roadOf_81 ?_
      refine lv_istore_n (lv' := [(3, .int (jmin v3_j68 (jat o_at (u75 + 2)))), (0, .ref a_o), (1, .int v1), (2, .int v2), (4, .int v4_j68)]) hx hb dX12_roadOf_84 rfl hl (by decide) rfl (fun ls hl => ?_)
      exact hj85 _ _ _ _ _ hf hP hD hS (lv_sub hl [1, 2, 3, 0, 4] rfl)
    have hj56 : ∀ (v3_j56 : Int32) (v4_j56 : Int32) (v5_j56 : Int32) (v6_j56 : Int32) (H : Heap) (locs : List Loc) (ls : Array Slot), X12_roadOf_j56 F o_at v1 v2 v3_j56 v4_j56 v5_j56 v6_j56 = some r7 → va_P E.1 vwCl (wd_X12_roadOf E a_o a_o_at a_o_names a_o_sort a_o_trayMany a_o_trays a_o_tape a_o_text a_o_opened a_o_farBy a_o_attendsBy a_o_coveredBy a_o_cameBy a_o_cameThen a_o_fallsBy a_o_loops a_o_ran a_o_told1 o_status o_top o_bottom o_taped o_size o_token o_from o_end o_value o_faultKind o_faultPlace o_faults o_seen o_toldParts o_depth o_counted o_becameThen o_firstCorner o_drawn o_ranSteps o_isTold o_marks o_at) H → va_D A (wd_X12_roadOf E a_o a_o_at a_o_names a_o_sort a_o_trayMany a_o_trays a_o_tape a_o_text a_o_opened a_o_farBy a_o_attendsBy a_o_coveredBy a_o_cameBy a_o_cameThen a_o_fallsBy a_o_loops a_o_ran a_o_told1 o_status o_top o_bottom o_taped o_size o_token o_from o_end o_value o_faultKind o_faultPlace o_faults o_seen o_toldParts o_depth o_counted o_becameThen o_firstCorner o_drawn o_ranSteps o_isTold o_marks o_at) → va_S A s.heap H locs → lv_has ls 7 [(0, .ref a_o), (1, .int v1), (2, .int v2), (3, .int v3_j56), (4, .int v4_j56), (5, .int v5_j56), (6, .int v6_j56)] → W p l e (rmd 1) s m aa below meth cd H locs 0 0 QQ (F0 m 56 ls []) := by
      intro v3_j56 v4_j56 v5_j56 v6_j56 H locs ls hf hP hD hS hl
      unfold X12_roadOf_j56 at hf
      refine lv_iload hx hb dX12_roadOf_56 (lv_at hl 5 rfl) ?_
      refine lv_iload_n hx hb dX12_roadOf_58 rfl (lv_at hl 2 rfl) ?_
      refine lv_icmp_ne (tgt := 85) hx hb dX12_roadOf_59 (by decide) (fun hc => ?_) (fun hc => ?_)
      · have hf := it_f hc hf
        exact hj85 _ _ _ _ _ hf hP hD hS (lv_sub hl [0, 1, 2, 3, 4] rfl)
      · have hf := it_t hc hf
        refine lv_iload hx hb dX12_roadOf_62 (lv_at hl 6 rfl) ?_
        refine lv_iload_n hx hb dX12_roadOf_64 rfl (lv_at hl 1 rfl) ?_
        refine lv_icmp_ne (tgt := 85) hx hb dX12_roadOf_65 (by decide) (fun hc => ?_) (fun hc => ?_)
        · have hf := it_f hc hf
          exact hj85 _ _ _ _ _ hf hP hD hS (lv_sub hl [0, 1, 2, 3, 4] rfl)
        · have hf := it_t hc hf
          exact hj68 _ _ _ _ _ hf hP hD hS (lv_sub hl [0, 1, 2, 3, 4] rfl)
    unfold X12_roadOf_b7 at hf
    refine lv_iload hx hb dX12_roadOf_7 (lv_at hl 4 rfl) ?_
    refine lv_aload_n hx hb dX12_roadOf_9 rfl (lv_at hl 0 rfl) ?_
    refine va_get (D := E.1) (ci := 12) (v := .ref a_o_at) (C := RX12) (T := TX12) (N := 39) hx hb hts inX12 hown hK hP 0 rfl rfl 0 (by decide) (hts _ fl_X12_7) (fun _ h9 => h9) rfl dX12_roadOf_10 ?_
    refine lv_iconst (v := 1) hx hb dX12_roadOf_13 (by decide) ?_
    obtain ⟨hi, hf⟩ := ck hf
    refine r_iald 1 cx hP rfl hi dX12_roadOf_14 ?_
    refine lv_icmp_ge (tgt := 91) hx hb dX12_roadOf_15 (by decide) (fun hc => ?_) (fun hc => ?_)
    · have hf := it_t hc hf
      exact he7 _ (Option.some.inj hf).symm _ _ _ hP hD hS (lv_sub hl [3] rfl)
    · have hf := it_f hc hf
      refine lv_aload_n hx hb dX12_roadOf_18 rfl (lv_at hl 0 rfl) ?_
      refine va_get (D := E.1) (ci := 12) (v := .ref a_o_at) (C := RX12) (T := TX12) (N := 39) hx hb hts inX12 hown hK hP 0 rfl rfl 0 (by decide) (hts _ fl_X12_7) (fun _ h9 => h9) rfl dX12_roadOf_19 ?_
      refine lv_iload hx hb dX12_roadOf_22 (lv_at hl 4 rfl) ?_
      obtain ⟨u24, hu24, hf⟩ := bd hf
      refine keepSI (ct_X12_roadRow l E st7.2 u24 hu24) [] cal_X12_roadRow sta_X12_roadRow lk_X12_198 cx hP hD hS hl dX12_roadOf_24 rfl rfl (Nat.le_of_ble_eq_true rfl) ⟨Nat.le_of_ble_eq_true rfl, Nat.le_of_ble_eq_true rfl⟩ rfl (by decide) (fun H locs hP hS => ?_)
      obtain ⟨hi, hf⟩ := ck hf
      refine r_iald 1 cx hP rfl hi dX12_roadOf_27 ?_
      refine lv_istore (lv' := [(5, .int (jat o_at u24)), (0, .ref a_o), (1, .int v1), (2, .int v2), (3, .int st7.1), (4, .int st7.2)]) hx hb dX12_roadOf_28 hl (by decide) rfl (fun ls hl => ?_)
      refine lv_aload_n hx hb dX12_roadOf_30 rfl (lv_at hl 1 rfl) ?_
      refine va_get (D := E.1) (ci := 12) (v := .ref a_o_at) (C := RX12) (T := TX12) (N := 39) hx hb hts inX12 hown hK hP 0 rfl rfl 0 (by decide) (hts _ fl_X12_7) (fun _ h9 => h9) rfl dX12_roadOf_31 ?_
      refine lv_iload hx hb dX12_roadOf_34 (lv_at hl 5 rfl) ?_
      obtain ⟨u36, hu36, hf⟩ := bd hf
      refine keepSI (ct_X12_roadRow l E st7.2 u36 hu36) [] cal_X12_roadRow sta_X12_roadRow lk_X12_198 cx hP hD hS hl dX12_roadOf_36 rfl rfl (Nat.le_of_ble_eq_true rfl) ⟨Nat.le_of_ble_eq_true rfl, Nat.le_of_ble_eq_true rfl⟩ rfl (by decide) (fun H locs hP hS => ?_)
      refine lv_iconst (v := 1) hx hb dX12_roadOf_39 (by decide) ?_
      refine lv_iadd hx hb dX12_roadOf_40 ?_
      obtain ⟨hi, hf⟩ := ck hf
      refine r_iald 1 cx hP rfl hi dX12_roadOf_41 ?_
      refine lv_istore (lv' := [(6, .int (jat o_at (u36 + 1))), (5, .int (jat o_at u24)), (0, .ref a_o), (1, .int v1), (2, .int v2), (3, .int st7.1), (4, .int st7.2)]) hx hb dX12_roadOf_42 hl (by decide) rfl (fun ls hl => ?_)
      refine lv_iload hx hb dX12_roadOf_44 (lv_at hl 1 rfl) ?_
      refine lv_iload_n hx hb dX12_roadOf_46 rfl (lv_at hl 3 rfl) ?_
      refine lv_icmp_ne (tgt := 56) hx hb dX12_roadOf_47 (by decide) (fun hc => ?_) (fun hc => ?_)
      · have hf := it_f hc hf
        exact hj56 _ _ _ _ _ _ _ hf hP hD hS (lv_sub hl [2, 3, 4, 5, 6, 1, 0] rfl)
      · have hf := it_t hc hf
        refine lv_iload hx hb dX12_roadOf_50 (lv_at hl 0 rfl) ?_
        refine lv_iload_n hx hb dX12_roadOf_52 rfl (lv_at hl 4 rfl) ?_
        refine lv_icmp_eq (tgt := 68) hx hb dX12_roadOf_53 (by decide) (fun hc => ?_) (fun hc => ?_)
        · have hf := it_t hc hf
          exact hj68 _ _ _ _ _ hf hP hD hS (lv_sub hl [2, 3, 4, 5, 6] rfl)
        · have hf := it_f hc hf
          exact hj56 _ _ _ _ _ _ _ hf hP hD hS (lv_sub hl [2, 3, 4, 5, 6, 1, 0] rfl)
  · refine fun H locs ls hP hD hS hl => ?_
    refine lv_iload_n hx hb dX12_roadOf_91 rfl (lv_at hl 0 rfl) ?_
    obtain rfl := Option.some.inj hf
    subst hq
    exact retI cx hP hD hS dX12_roadOf_92
def X12_laysFar_j41 (F : Nat) (o_at : Nat → Int32) (o_farBy : Nat → Int32) (v1 : Int32) (v2 : Int32) (k0 : Int32) (k1 : Int32) : Option ((Int32 × (Nat → Int32)) ⊕ (((Nat → Int32)))) :=
  if ix k1 64 then
  some (.inl ((v2 + 1), (jput o_farBy k1 k0)))
  else none
def X12_laysFar_b10 (F : Nat) (o_at : Nat → Int32) (v1 : Int32) (st10 : Int32 × (Nat → Int32)) : Option ((Int32 × (Nat → Int32)) ⊕ (((Nat → Int32)))) :=
  if (8 : Int32) ≤ st10.1 then
  some (.inr st10.2)
  else
  if v1 = st10.1 then
  X12_laysFar_j41 F o_at st10.2 v1 st10.1 0 ((8 * v1) + st10.1)
  else
  (X12_roadOf F o_at v1 st10.1).bind fun u38 =>
  X12_laysFar_j41 F o_at st10.2 v1 st10.1 u38 ((8 * v1) + st10.1)
def X12_laysFar_b2 (F : Nat) (o_at : Nat → Int32) (st2 : Int32 × (Nat → Int32)) : Option ((Int32 × (Nat → Int32)) ⊕ (((Nat → Int32)))) :=
  if (8 : Int32) ≤ st2.1 then
  some (.inr st2.2)
  else
  (iter (X12_laysFar_b10 F o_at st2.1) F (0, st2.2)).bind (fun (e10 : (Nat → Int32)) =>
    some (.inl ((st2.1 + 1), e10)))
def X12_laysFar_b72 (F : Nat) (o_at : Nat → Int32) (v1 : Int32) (v2 : Int32) (st72 : Int32 × (Nat → Int32)) : Option ((Int32 × (Nat → Int32)) ⊕ (((Nat → Int32)))) :=
  if (8 : Int32) ≤ st72.1 then
  some (.inr st72.2)
  else
  if ix ((8 * v2) + st72.1) 64 then
  if ix ((8 * v2) + v1) 64 then
  if ix ((8 * v1) + st72.1) 64 then
  if ix ((8 * v2) + st72.1) 64 then
  some (.inl ((st72.1 + 1), (jput st72.2 ((8 * v2) + st72.1) (jmin (jat st72.2 ((8 * v2) + st72.1)) ((jat st72.2 ((8 * v2) + v1)) + (jat st72.2 ((8 * v1) + st72.1)))))))
  else none
  else none
  else none
  else none
def X12_laysFar_b64 (F : Nat) (o_at : Nat → Int32) (v1 : Int32) (st64 : Int32 × (Nat → Int32)) : Option ((Int32 × (Nat → Int32)) ⊕ (((Nat → Int32)))) :=
  if (8 : Int32) ≤ st64.1 then
  some (.inr st64.2)
  else
  (iter (X12_laysFar_b72 F o_at v1 st64.1) F (0, st64.2)).bind (fun (e72 : (Nat → Int32)) =>
    some (.inl ((st64.1 + 1), e72)))
def X12_laysFar_b56 (F : Nat) (o_at : Nat → Int32) (st56 : Int32 × (Nat → Int32)) : Option ((Int32 × (Nat → Int32)) ⊕ (((Nat → Int32)))) :=
  if (8 : Int32) ≤ st56.1 then
  some (.inr st56.2)
  else
  (iter (X12_laysFar_b64 F o_at st56.1) F (0, st56.2)).bind (fun (e64 : (Nat → Int32)) =>
    some (.inl ((st56.1 + 1), e64)))
def X12_laysFar (F : Nat) (o_at : Nat → Int32) (o_farBy : Nat → Int32) : Option ((Nat → Int32)) :=
  (iter (X12_laysFar_b2 F o_at) F (0, o_farBy)).bind (fun (e2 : (Nat → Int32)) =>
    (iter (X12_laysFar_b56 F o_at) F (0, e2)).bind (fun (e56 : (Nat → Int32)) =>
    some e56))
abbrev wd_X12_laysFar (E : vE) (a_o a_o_at a_o_names a_o_sort a_o_trayMany a_o_trays a_o_tape a_o_text a_o_opened a_o_farBy a_o_attendsBy a_o_coveredBy a_o_cameBy a_o_cameThen a_o_fallsBy a_o_loops a_o_ran a_o_told1 : Nat) (o_status : Int32) (o_top : Int64) (o_bottom : Int64) (o_taped : Int32) (o_size : Int32) (o_token : Int32) (o_from : Int32) (o_end : Int32) (o_value : Int32) (o_faultKind : Int32) (o_faultPlace : Int32) (o_faults : Int32) (o_seen : Int32) (o_toldParts : Int32) (o_depth : Int32) (o_counted : Int32) (o_becameThen : Int32) (o_firstCorner : Int32) (o_drawn : Int32) (o_ranSteps : Int32) (o_isTold : Int32) (o_marks : Int32) (o_at : Nat → Int32) (o_farBy : Nat → Int32) : va_W := [(a_o, .inr (12, [.ref a_o_at, .ref a_o_names, .int o_status, .long o_top, .long o_bottom, .ref a_o_sort, .ref a_o_trayMany, .ref a_o_trays, .ref a_o_tape, .ref a_o_text, .int o_taped, .int o_size, .int o_token, .int o_from, .int o_end, .int o_value, .int o_faultKind, .int o_faultPlace, .int o_faults, .int o_seen, .int o_toldParts, .ref a_o_opened, .int o_depth, .int o_counted, .ref a_o_farBy, .int o_becameThen, .ref a_o_attendsBy, .ref a_o_coveredBy, .ref a_o_cameBy, .ref a_o_cameThen, .int o_firstCorner, .ref a_o_fallsBy, .int o_drawn, .int o_ranSteps, .ref a_o_loops, .ref a_o_ran, .ref a_o_told1, .int o_isTold, .int o_marks])), (a_o_at, .inl (E.2.1, 3097, .inl o_at)), (a_o_farBy, .inl (E.2.1, 64, .inl o_farBy))]
set_option maxHeartbeats 4000000 in
set_option maxRecDepth 100000 in
theorem ct_X12_laysFar (l : Launch) (E : vE) (F : Nat) (a_o a_o_at a_o_names a_o_sort a_o_trayMany a_o_trays a_o_tape a_o_text a_o_opened a_o_farBy a_o_attendsBy a_o_coveredBy a_o_cameBy a_o_cameThen a_o_fallsBy a_o_loops a_o_ran a_o_told1 : Nat) (o_status : Int32) (o_top : Int64) (o_bottom : Int64) (o_taped : Int32) (o_size : Int32) (o_token : Int32) (o_from : Int32) (o_end : Int32) (o_value : Int32) (o_faultKind : Int32) (o_faultPlace : Int32) (o_faults : Int32) (o_seen : Int32) (o_toldParts : Int32) (o_depth : Int32) (o_counted : Int32) (o_becameThen : Int32) (o_firstCorner : Int32) (o_drawn : Int32) (o_ranSteps : Int32) (o_isTold : Int32) (o_marks : Int32) (o_at : Nat → Int32) (o_farBy : Nat → Int32) (u : (Nat → Int32)) (hf : X12_laysFar F o_at o_farBy = some u) :
    CtV l yX12_laysFar cX12_laysFar 4 none 2 E [.ref a_o] (wd_X12_laysFar E a_o a_o_at a_o_names a_o_sort a_o_trayMany a_o_trays a_o_tape a_o_text a_o_opened a_o_farBy a_o_attendsBy a_o_coveredBy a_o_cameBy a_o_cameThen a_o_fallsBy a_o_loops a_o_ran a_o_told1 o_status o_top o_bottom o_taped o_size o_token o_from o_end o_value o_faultKind o_faultPlace o_faults o_seen o_toldParts o_depth o_counted o_becameThen o_firstCorner o_drawn o_ranSteps o_isTold o_marks o_at o_farBy) (wd_X12_laysFar E a_o a_o_at a_o_names a_o_sort a_o_trayMany a_o_trays a_o_tape a_o_text a_o_opened a_o_farBy a_o_attendsBy a_o_coveredBy a_o_cameBy a_o_cameThen a_o_fallsBy a_o_loops a_o_ran a_o_told1 o_status o_top o_bottom o_taped o_size o_token o_from o_end o_value o_faultKind o_faultPlace o_faults o_seen o_toldParts o_depth o_counted o_becameThen o_firstCorner o_drawn o_ranSteps o_isTold o_marks o_at u) := by
  refine ctV (by decide) (Nat.le_of_ble_eq_true rfl) ?_
  intro p e s m below meth cd A ls aa QQ hq cx hP hD hS hl
  obtain ⟨⟨hx, hb, hml, hown, hts⟩, hr, hlocks, hK, hA, hX⟩ := id cx
  have hl : lv_has ls 4 [(0, .ref a_o)] := hl
  unfold X12_laysFar at hf
  refine lv_iconst (v := 0) hx hb dX12_laysFar_0 (by decide) ?_
  refine lv_istore_n (lv' := [(1, .int 0), (0, .ref a_o)]) hx hb dX12_laysFar_1 rfl hl (by decide) rfl (fun ls hl => ?_)
  obtain ⟨e2, hit2, hf⟩ := bd hf
  refine iter_W (b := X12_laysFar_b2 F o_at) (P := fun st2 => ∀ (H : Heap) (locs : List Loc) (ls : Array Slot), va_P E.1 vwCl (wd_X12_laysFar E a_o a_o_at a_o_names a_o_sort a_o_trayMany a_o_trays a_o_tape a_o_text a_o_opened a_o_farBy a_o_attendsBy a_o_coveredBy a_o_cameBy a_o_cameThen a_o_fallsBy a_o_loops a_o_ran a_o_told1 o_status o_top o_bottom o_taped o_size o_token o_from o_end o_value o_faultKind o_faultPlace o_faults o_seen o_toldParts o_depth o_counted o_becameThen o_firstCorner o_drawn o_ranSteps o_isTold o_marks o_at st2.2) H → va_D A (wd_X12_laysFar E a_o a_o_at a_o_names a_o_sort a_o_trayMany a_o_trays a_o_tape a_o_text a_o_opened a_o_farBy a_o_attendsBy a_o_coveredBy a_o_cameBy a_o_cameThen a_o_fallsBy a_o_loops a_o_ran a_o_told1 o_status o_top o_bottom o_taped o_size o_token o_from o_end o_value o_faultKind o_faultPlace o_faults o_seen o_toldParts o_depth o_counted o_becameThen o_firstCorner o_drawn o_ranSteps o_isTold o_marks o_at st2.2) → va_S A s.heap H locs → lv_has ls 4 [(0, .ref a_o), (1, .int st2.1)] → W p l e (rmd 2) s m aa below meth cd H locs 0 0 QQ (F0 m 2 ls [])) (G := (fun (e2 : (Nat → Int32)) => ∀ (H : Heap) (locs : List Loc) (ls : Array Slot), va_P E.1 vwCl (wd_X12_laysFar E a_o a_o_at a_o_names a_o_sort a_o_trayMany a_o_trays a_o_tape a_o_text a_o_opened a_o_farBy a_o_attendsBy a_o_coveredBy a_o_cameBy a_o_cameThen a_o_fallsBy a_o_loops a_o_ran a_o_told1 o_status o_top o_bottom o_taped o_size o_token o_from o_end o_value o_faultKind o_faultPlace o_faults o_seen o_toldParts o_depth o_counted o_becameThen o_firstCorner o_drawn o_ranSteps o_isTold o_marks o_at e2) H → va_D A (wd_X12_laysFar E a_o a_o_at a_o_names a_o_sort a_o_trayMany a_o_trays a_o_tape a_o_text a_o_opened a_o_farBy a_o_attendsBy a_o_coveredBy a_o_cameBy a_o_cameThen a_o_fallsBy a_o_loops a_o_ran a_o_told1 o_status o_top o_bottom o_taped o_size o_token o_from o_end o_value o_faultKind o_faultPlace o_faults o_seen o_toldParts o_depth o_counted o_becameThen o_firstCorner o_drawn o_ranSteps o_isTold o_marks o_at e2) → va_S A s.heap H locs → lv_has ls 4 [(0, .ref a_o)] → W p l e (rmd 2) s m aa below meth cd H locs 0 0 QQ (F0 m 54 ls []))) ?_ F (0, o_farBy) e2 hit2 ?_ _ _ _ hP hD hS (lv_sub hl [1, 0] rfl)
  · intro st2 r2 hf hk2 he2 H locs ls hP hD hS hl
    unfold X12_laysFar_b2 at hf
    refine lv_iload_n hx hb dX12_laysFar_2 rfl (lv_at hl 1 rfl) ?_
    refine lv_bipush (v := 8) hx hb dX12_laysFar_3 (by decide) ?_
    refine lv_icmp_ge (tgt := 54) hx hb dX12_laysFar_5 (by decide) (fun hc => ?_) (fun hc => ?_)
    · have hf := it_t hc hf
      exact he2 _ (Option.some.inj hf).symm _ _ _ hP hD hS (lv_sub hl [0] rfl)
    · have hf := it_f hc hf
      refine lv_iconst (v := 0) hx hb dX12_laysFar_8 (by decide) ?_
      refine lv_istore_n (lv' := [(2, .int 0), (0, .ref a_o), (1, .int st2.1)]) hx hb dX12_laysFar_9 rfl hl (by decide) rfl (fun ls hl => ?_)
      obtain ⟨e10, hit10, hf⟩ := bd hf
      refine iter_W (b := X12_laysFar_b10 F o_at st2.1) (P := fun st10 => ∀ (H : Heap) (locs : List Loc) (ls : Array Slot), va_P E.1 vwCl (wd_X12_laysFar E a_o a_o_at a_o_names a_o_sort a_o_trayMany a_o_trays a_o_tape a_o_text a_o_opened a_o_farBy a_o_attendsBy a_o_coveredBy a_o_cameBy a_o_cameThen a_o_fallsBy a_o_loops a_o_ran a_o_told1 o_status o_top o_bottom o_taped o_size o_token o_from o_end o_value o_faultKind o_faultPlace o_faults o_seen o_toldParts o_depth o_counted o_becameThen o_firstCorner o_drawn o_ranSteps o_isTold o_marks o_at st10.2) H → va_D A (wd_X12_laysFar E a_o a_o_at a_o_names a_o_sort a_o_trayMany a_o_trays a_o_tape a_o_text a_o_opened a_o_farBy a_o_attendsBy a_o_coveredBy a_o_cameBy a_o_cameThen a_o_fallsBy a_o_loops a_o_ran a_o_told1 o_status o_top o_bottom o_taped o_size o_token o_from o_end o_value o_faultKind o_faultPlace o_faults o_seen o_toldParts o_depth o_counted o_becameThen o_firstCorner o_drawn o_ranSteps o_isTold o_marks o_at st10.2) → va_S A s.heap H locs → lv_has ls 4 [(0, .ref a_o), (1, .int st2.1), (2, .int st10.1)] → W p l e (rmd 2) s m aa below meth cd H locs 0 0 QQ (F0 m 10 ls [])) (G := (fun (e10 : (Nat → Int32)) => ∀ (H : Heap) (locs : List Loc) (ls : Array Slot), va_P E.1 vwCl (wd_X12_laysFar E a_o a_o_at a_o_names a_o_sort a_o_trayMany a_o_trays a_o_tape a_o_text a_o_opened a_o_farBy a_o_attendsBy a_o_coveredBy a_o_cameBy a_o_cameThen a_o_fallsBy a_o_loops a_o_ran a_o_told1 o_status o_top o_bottom o_taped o_size o_token o_from o_end o_value o_faultKind o_faultPlace o_faults o_seen o_toldParts o_depth o_counted o_becameThen o_firstCorner o_drawn o_ranSteps o_isTold o_marks o_at e10) H → va_D A (wd_X12_laysFar E a_o a_o_at a_o_names a_o_sort a_o_trayMany a_o_trays a_o_tape a_o_text a_o_opened a_o_farBy a_o_attendsBy a_o_coveredBy a_o_cameBy a_o_cameThen a_o_fallsBy a_o_loops a_o_ran a_o_told1 o_status o_top o_bottom o_taped o_size o_token o_from o_end o_value o_faultKind o_faultPlace o_faults o_seen o_toldParts o_depth o_counted o_becameThen o_firstCorner o_drawn o_ranSteps o_isTold o_marks o_at e10) → va_S A s.heap H locs → lv_has ls 4 [(0, .ref a_o), (1, .int st2.1)] → W p l e (rmd 2) s m aa below meth cd H locs 0 0 QQ (F0 m 48 ls []))) ?_ F (0, st2.2) e10 hit10 ?_ _ _ _ hP hD hS (lv_sub hl [1, 2, 0] rfl)
      · intro st10 r10 hf hk10 he10 H locs ls hP hD hS hl
        have hj41 : ∀ (v2_j41 : Int32) (o_farBy_j41 : Nat → Int32) (k0_j41 : Int32) (k1_j41 : Int32) (H : Heap) (locs : List Loc) (ls : Array Slot), X12_laysFar_j41 F o_at o_farBy_j41 st2.1 v2_j41 k0_j41 k1_j41 = some r10 → va_P E.1 vwCl (wd_X12_laysFar E a_o a_o_at a_o_names a_o_sort a_o_trayMany a_o_trays a_o_tape a_o_text a_o_opened a_o_farBy a_o_attendsBy a_o_coveredBy a_o_cameBy a_o_cameThen a_o_fallsBy a_o_loops a_o_ran a_o_told1 o_status o_top o_bottom o_taped o_size o_token o_from o_end o_value o_faultKind o_faultPlace o_faults o_seen o_toldParts o_depth o_counted o_becameThen o_firstCorner o_drawn o_ranSteps o_isTold o_marks o_at o_farBy_j41) H → va_D A (wd_X12_laysFar E a_o a_o_at a_o_names a_o_sort a_o_trayMany a_o_trays a_o_tape a_o_text a_o_opened a_o_farBy a_o_attendsBy a_o_coveredBy a_o_cameBy a_o_cameThen a_o_fallsBy a_o_loops a_o_ran a_o_told1 o_status o_top o_bottom o_taped o_size o_token o_from o_end o_value o_faultKind o_faultPlace o_faults o_seen o_toldParts o_depth o_counted o_becameThen o_firstCorner o_drawn o_ranSteps o_isTold o_marks o_at o_farBy_j41) → va_S A s.heap H locs → lv_has ls 4 [(0, .ref a_o), (1, .int st2.1), (2, .int v2_j41)] → W p l e (rmd 2) s m aa below meth cd H locs 0 0 QQ (F0 m 41 ls [.int k0_j41, .int k1_j41, .ref a_o_farBy]) := by
          intro v2_j41 o_farBy_j41 k0_j41 k1_j41 H locs ls hf hP hD hS hl
          unfold X12_laysFar_j41 at hf
          obtain ⟨hi, hf⟩ := ck hf
          refine r_iast 2 cx hP hD hS rfl hi dX12_laysFar_41 (fun H locs hP hD hS => ?_)
          have hP : va_P E.1 vwCl (wd_X12_laysFar E a_o a_o_at a_o_names a_o_sort a_o_trayMany a_o_trays a_o_tape a_o_text a_o_opened a_o_farBy a_o_attendsBy a_o_coveredBy a_o_cameBy a_o_cameThen a_o_fallsBy a_o_loops a_o_ran a_o_told1 o_status o_top o_bottom o_taped o_size o_token o_from o_end o_value o_faultKind o_faultPlace o_faults o_seen o_toldParts o_depth o_counted o_becameThen o_firstCorner o_drawn o_ranSteps o_isTold o_marks o_at (jput o_farBy_j41 k1_j41 k0_j41)) H := hP
          have hD : va_D A (wd_X12_laysFar E a_o a_o_at a_o_names a_o_sort a_o_trayMany a_o_trays a_o_tape a_o_text a_o_opened a_o_farBy a_o_attendsBy a_o_coveredBy a_o_cameBy a_o_cameThen a_o_fallsBy a_o_loops a_o_ran a_o_told1 o_status o_top o_bottom o_taped o_size o_token o_from o_end o_value o_faultKind o_faultPlace o_faults o_seen o_toldParts o_depth o_counted o_becameThen o_firstCorner o_drawn o_ranSteps o_isTold o_marks o_at (jput o_farBy_j41 k1_j41 k0_j41)) := hD
          refine lv_iinc (v := (v2_j41 + 1)) (lv' := [(2, .int (v2_j41 + 1)), (0, .ref a_o), (1, .int st2.1)]) hx hb dX12_laysFar_42 hl (k := 2) rfl rfl (by decide) rfl (fun ls hl => ?_)
          refine lv_goto (tgt := 10) hx hb dX12_laysFar_45 (by decide) ?_
          exact hk10 _ (Option.some.inj hf).symm _ _ _ hP hD hS (lv_sub hl [1, 2, 0] rfl)
        unfold X12_laysFar_b10 at hf
        refine lv_iload_n hx hb dX12_laysFar_10 rfl (lv_at hl 2 rfl) ?_
        refine lv_bipush (v := 8) hx hb dX12_laysFar_11 (by decide) ?_
        refine lv_icmp_ge (tgt := 48) hx hb dX12_laysFar_13 (by decide) (fun hc => ?_) (fun hc => ?_)
        · have hf := it_t hc hf
          exact he10 _ (Option.some.inj hf).symm _ _ _ hP hD hS (lv_sub hl [0, 1] rfl)
        · have hf := it_f hc hf
          refine lv_aload_n hx hb dX12_laysFar_16 rfl (lv_at hl 0 rfl) ?_
          refine va_get (D := E.1) (ci := 12) (v := .ref a_o_farBy) (C := RX12) (T := TX12) (N := 39) hx hb hts inX12 hown hK hP 0 rfl rfl 24 (by decide) (hts _ fl_X12_47) (fun _ h9 => h9) rfl dX12_laysFar_17 ?_
          refine lv_bipush (v := 8) hx hb dX12_laysFar_20 (by decide) ?_
          refine lv_iload_n hx hb dX12_laysFar_22 rfl (lv_at hl 1 rfl) ?_
          refine lv_imul hx hb dX12_laysFar_23 ?_
          refine lv_iload_n hx hb dX12_laysFar_24 rfl (lv_at hl 2 rfl) ?_
          refine lv_iadd hx hb dX12_laysFar_25 ?_
          refine lv_iload_n hx hb dX12_laysFar_26 rfl (lv_at hl 1 rfl) ?_
          refine lv_iload_n hx hb dX12_laysFar_27 rfl (lv_at hl 2 rfl) ?_
          refine lv_icmp_ne (tgt := 35) hx hb dX12_laysFar_28 (by decide) (fun hc => ?_) (fun hc => ?_)
          · have hf := it_f hc hf
            refine lv_aload_n hx hb dX12_laysFar_35 rfl (lv_at hl 0 rfl) ?_
            refine lv_iload_n hx hb dX12_laysFar_36 rfl (lv_at hl 1 rfl) ?_
            refine lv_iload_n hx hb dX12_laysFar_37 rfl (lv_at hl 2 rfl) ?_
            obtain ⟨u38, hu38, hf⟩ := bd hf
            refine keepVI (ct_X12_roadOf l E F a_o a_o_at a_o_names a_o_sort a_o_trayMany a_o_trays a_o_tape a_o_text a_o_opened a_o_farBy a_o_attendsBy a_o_coveredBy a_o_cameBy a_o_cameThen a_o_fallsBy a_o_loops a_o_ran a_o_told1 o_status o_top o_bottom o_taped o_size o_token o_from o_end o_value o_faultKind o_faultPlace o_faults o_seen o_toldParts o_depth o_counted o_becameThen o_firstCorner o_drawn o_ranSteps o_isTold o_marks o_at st2.1 st10.1 u38 hu38) [0, 1] cal_X12_roadOf cav_X12_roadOf lk_X12_315 cx hP hD hS hl dX12_laysFar_38 rfl rfl rfl rfl (Nat.le_of_ble_eq_true rfl) ⟨Nat.le_of_ble_eq_true rfl, Nat.le_of_ble_eq_true rfl⟩ rfl (by decide) (fun H locs hP hS => ?_)
            exact hj41 _ _ _ _ _ _ _ hf hP hD hS (lv_sub hl [0, 1, 2] rfl)
          · have hf := it_t hc hf
            refine lv_iconst (v := 0) hx hb dX12_laysFar_31 (by decide) ?_
            refine lv_goto (tgt := 41) hx hb dX12_laysFar_32 (by decide) ?_
            exact hj41 _ _ _ _ _ _ _ hf hP hD hS (lv_sub hl [0, 1, 2] rfl)
      · refine fun H locs ls hP hD hS hl => ?_
        refine lv_iinc (v := (st2.1 + 1)) (lv' := [(1, .int (st2.1 + 1)), (0, .ref a_o)]) hx hb dX12_laysFar_48 hl (k := 1) rfl rfl (by decide) rfl (fun ls hl => ?_)
        refine lv_goto (tgt := 2) hx hb dX12_laysFar_51 (by decide) ?_
        exact hk2 _ (Option.some.inj hf).symm _ _ _ hP hD hS (lv_sub hl [1, 0] rfl)
  · refine fun H locs ls hP hD hS hl => ?_
    refine lv_iconst (v := 0) hx hb dX12_laysFar_54 (by decide) ?_
    refine lv_istore_n (lv' := [(1, .int 0), (0, .ref a_o)]) hx hb dX12_laysFar_55 rfl hl (by decide) rfl (fun ls hl => ?_)
    obtain ⟨e56, hit56, hf⟩ := bd hf
    refine iter_W (b := X12_laysFar_b56 F o_at) (P := fun st56 => ∀ (H : Heap) (locs : List Loc) (ls : Array Slot), va_P E.1 vwCl (wd_X12_laysFar E a_o a_o_at a_o_names a_o_sort a_o_trayMany a_o_trays a_o_tape a_o_text a_o_opened a_o_farBy a_o_attendsBy a_o_coveredBy a_o_cameBy a_o_cameThen a_o_fallsBy a_o_loops a_o_ran a_o_told1 o_status o_top o_bottom o_taped o_size o_token o_from o_end o_value o_faultKind o_faultPlace o_faults o_seen o_toldParts o_depth o_counted o_becameThen o_firstCorner o_drawn o_ranSteps o_isTold o_marks o_at st56.2) H → va_D A (wd_X12_laysFar E a_o a_o_at a_o_names a_o_sort a_o_trayMany a_o_trays a_o_tape a_o_text a_o_opened a_o_farBy a_o_attendsBy a_o_coveredBy a_o_cameBy a_o_cameThen a_o_fallsBy a_o_loops a_o_ran a_o_told1 o_status o_top o_bottom o_taped o_size o_token o_from o_end o_value o_faultKind o_faultPlace o_faults o_seen o_toldParts o_depth o_counted o_becameThen o_firstCorner o_drawn o_ranSteps o_isTold o_marks o_at st56.2) → va_S A s.heap H locs → lv_has ls 4 [(0, .ref a_o), (1, .int st56.1)] → W p l e (rmd 2) s m aa below meth cd H locs 0 0 QQ (F0 m 56 ls [])) (G := (fun (e56 : (Nat → Int32)) => ∀ (H : Heap) (locs : List Loc) (ls : Array Slot), va_P E.1 vwCl (wd_X12_laysFar E a_o a_o_at a_o_names a_o_sort a_o_trayMany a_o_trays a_o_tape a_o_text a_o_opened a_o_farBy a_o_attendsBy a_o_coveredBy a_o_cameBy a_o_cameThen a_o_fallsBy a_o_loops a_o_ran a_o_told1 o_status o_top o_bottom o_taped o_size o_token o_from o_end o_value o_faultKind o_faultPlace o_faults o_seen o_toldParts o_depth o_counted o_becameThen o_firstCorner o_drawn o_ranSteps o_isTold o_marks o_at e56) H → va_D A (wd_X12_laysFar E a_o a_o_at a_o_names a_o_sort a_o_trayMany a_o_trays a_o_tape a_o_text a_o_opened a_o_farBy a_o_attendsBy a_o_coveredBy a_o_cameBy a_o_cameThen a_o_fallsBy a_o_loops a_o_ran a_o_told1 o_status o_top o_bottom o_taped o_size o_token o_from o_end o_value o_faultKind o_faultPlace o_faults o_seen o_toldParts o_depth o_counted o_becameThen o_firstCorner o_drawn o_ranSteps o_isTold o_marks o_at e56) → va_S A s.heap H locs → lv_has ls 4 [] → W p l e (rmd 2) s m aa below meth cd H locs 0 0 QQ (F0 m 144 ls []))) ?_ F (0, e2) e56 hit56 ?_ _ _ _ hP hD hS (lv_sub hl [1, 0] rfl)
    · intro st56 r56 hf hk56 he56 H locs ls hP hD hS hl
      unfold X12_laysFar_b56 at hf
      refine lv_iload_n hx hb dX12_laysFar_56 rfl (lv_at hl 1 rfl) ?_
      refine lv_bipush (v := 8) hx hb dX12_laysFar_57 (by decide) ?_
      refine lv_icmp_ge (tgt := 144) hx hb dX12_laysFar_59 (by decide) (fun hc => ?_) (fun hc => ?_)
      · have hf := it_t hc hf
        exact he56 _ (Option.some.inj hf).symm _ _ _ hP hD hS (lv_sub hl [] rfl)
      · have hf := it_f hc hf
        refine lv_iconst (v := 0) hx hb dX12_laysFar_62 (by decide) ?_
        refine lv_istore_n (lv' := [(2, .int 0), (0, .ref a_o), (1, .int st56.1)]) hx hb dX12_laysFar_63 rfl hl (by decide) rfl (fun ls hl => ?_)
        obtain ⟨e64, hit64, hf⟩ := bd hf
        refine iter_W (b := X12_laysFar_b64 F o_at st56.1) (P := fun st64 => ∀ (H : Heap) (locs : List Loc) (ls : Array Slot), va_P E.1 vwCl (wd_X12_laysFar E a_o a_o_at a_o_names a_o_sort a_o_trayMany a_o_trays a_o_tape a_o_text a_o_opened a_o_farBy a_o_attendsBy a_o_coveredBy a_o_cameBy a_o_cameThen a_o_fallsBy a_o_loops a_o_ran a_o_told1 o_status o_top o_bottom o_taped o_size o_token o_from o_end o_value o_faultKind o_faultPlace o_faults o_seen o_toldParts o_depth o_counted o_becameThen o_firstCorner o_drawn o_ranSteps o_isTold o_marks o_at st64.2) H → va_D A (wd_X12_laysFar E a_o a_o_at a_o_names a_o_sort a_o_trayMany a_o_trays a_o_tape a_o_text a_o_opened a_o_farBy a_o_attendsBy a_o_coveredBy a_o_cameBy a_o_cameThen a_o_fallsBy a_o_loops a_o_ran a_o_told1 o_status o_top o_bottom o_taped o_size o_token o_from o_end o_value o_faultKind o_faultPlace o_faults o_seen o_toldParts o_depth o_counted o_becameThen o_firstCorner o_drawn o_ranSteps o_isTold o_marks o_at st64.2) → va_S A s.heap H locs → lv_has ls 4 [(0, .ref a_o), (1, .int st56.1), (2, .int st64.1)] → W p l e (rmd 2) s m aa below meth cd H locs 0 0 QQ (F0 m 64 ls [])) (G := (fun (e64 : (Nat → Int32)) => ∀ (H : Heap) (locs : List Loc) (ls : Array Slot), va_P E.1 vwCl (wd_X12_laysFar E a_o a_o_at a_o_names a_o_sort a_o_trayMany a_o_trays a_o_tape a_o_text a_o_opened a_o_farBy a_o_attendsBy a_o_coveredBy a_o_cameBy a_o_cameThen a_o_fallsBy a_o_loops a_o_ran a_o_told1 o_status o_top o_bottom o_taped o_size o_token o_from o_end o_value o_faultKind o_faultPlace o_faults o_seen o_toldParts o_depth o_counted o_becameThen o_firstCorner o_drawn o_ranSteps o_isTold o_marks o_at e64) H → va_D A (wd_X12_laysFar E a_o a_o_at a_o_names a_o_sort a_o_trayMany a_o_trays a_o_tape a_o_text a_o_opened a_o_farBy a_o_attendsBy a_o_coveredBy a_o_cameBy a_o_cameThen a_o_fallsBy a_o_loops a_o_ran a_o_told1 o_status o_top o_bottom o_taped o_size o_token o_from o_end o_value o_faultKind o_faultPlace o_faults o_seen o_toldParts o_depth o_counted o_becameThen o_firstCorner o_drawn o_ranSteps o_isTold o_marks o_at e64) → va_S A s.heap H locs → lv_has ls 4 [(0, .ref a_o), (1, .int st56.1)] → W p l e (rmd 2) s m aa below meth cd H locs 0 0 QQ (F0 m 138 ls []))) ?_ F (0, st56.2) e64 hit64 ?_ _ _ _ hP hD hS (lv_sub hl [1, 2, 0] rfl)
        · intro st64 r64 hf hk64 he64 H locs ls hP hD hS hl
          unfold X12_laysFar_b64 at hf
          refine lv_iload_n hx hb dX12_laysFar_64 rfl (lv_at hl 2 rfl) ?_
          refine lv_bipush (v := 8) hx hb dX12_laysFar_65 (by decide) ?_
          refine lv_icmp_ge (tgt := 138) hx hb dX12_laysFar_67 (by decide) (fun hc => ?_) (fun hc => ?_)
          · have hf := it_t hc hf
            exact he64 _ (Option.some.inj hf).symm _ _ _ hP hD hS (lv_sub hl [0, 1] rfl)
          · have hf := it_f hc hf
            refine lv_iconst (v := 0) hx hb dX12_laysFar_70 (by decide) ?_
            refine lv_istore_n (lv' := [(3, .int 0), (0, .ref a_o), (1, .int st56.1), (2, .int st64.1)]) hx hb dX12_laysFar_71 rfl hl (by decide) rfl (fun ls hl => ?_)
            obtain ⟨e72, hit72, hf⟩ := bd hf
            refine iter_W (b := X12_laysFar_b72 F o_at st56.1 st64.1) (P := fun st72 => ∀ (H : Heap) (locs : List Loc) (ls : Array Slot), va_P E.1 vwCl (wd_X12_laysFar E a_o a_o_at a_o_names a_o_sort a_o_trayMany a_o_trays a_o_tape a_o_text a_o_opened a_o_farBy a_o_attendsBy a_o_coveredBy a_o_cameBy a_o_cameThen a_o_fallsBy a_o_loops a_o_ran a_o_told1 o_status o_top o_bottom o_taped o_size o_token o_from o_end o_value o_faultKind o_faultPlace o_faults o_seen o_toldParts o_depth o_counted o_becameThen o_firstCorner o_drawn o_ranSteps o_isTold o_marks o_at st72.2) H → va_D A (wd_X12_laysFar E a_o a_o_at a_o_names a_o_sort a_o_trayMany a_o_trays a_o_tape a_o_text a_o_opened a_o_farBy a_o_attendsBy a_o_coveredBy a_o_cameBy a_o_cameThen a_o_fallsBy a_o_loops a_o_ran a_o_told1 o_status o_top o_bottom o_taped o_size o_token o_from o_end o_value o_faultKind o_faultPlace o_faults o_seen o_toldParts o_depth o_counted o_becameThen o_firstCorner o_drawn o_ranSteps o_isTold o_marks o_at st72.2) → va_S A s.heap H locs → lv_has ls 4 [(0, .ref a_o), (1, .int st56.1), (2, .int st64.1), (3, .int st72.1)] → W p l e (rmd 2) s m aa below meth cd H locs 0 0 QQ (F0 m 72 ls [])) (G := (fun (e72 : (Nat → Int32)) => ∀ (H : Heap) (locs : List Loc) (ls : Array Slot), va_P E.1 vwCl (wd_X12_laysFar E a_o a_o_at a_o_names a_o_sort a_o_trayMany a_o_trays a_o_tape a_o_text a_o_opened a_o_farBy a_o_attendsBy a_o_coveredBy a_o_cameBy a_o_cameThen a_o_fallsBy a_o_loops a_o_ran a_o_told1 o_status o_top o_bottom o_taped o_size o_token o_from o_end o_value o_faultKind o_faultPlace o_faults o_seen o_toldParts o_depth o_counted o_becameThen o_firstCorner o_drawn o_ranSteps o_isTold o_marks o_at e72) H → va_D A (wd_X12_laysFar E a_o a_o_at a_o_names a_o_sort a_o_trayMany a_o_trays a_o_tape a_o_text a_o_opened a_o_farBy a_o_attendsBy a_o_coveredBy a_o_cameBy a_o_cameThen a_o_fallsBy a_o_loops a_o_ran a_o_told1 o_status o_top o_bottom o_taped o_size o_token o_from o_end o_value o_faultKind o_faultPlace o_faults o_seen o_toldParts o_depth o_counted o_becameThen o_firstCorner o_drawn o_ranSteps o_isTold o_marks o_at e72) → va_S A s.heap H locs → lv_has ls 4 [(0, .ref a_o), (1, .int st56.1), (2, .int st64.1)] → W p l e (rmd 2) s m aa below meth cd H locs 0 0 QQ (F0 m 132 ls []))) ?_ F (0, st64.2) e72 hit72 ?_ _ _ _ hP hD hS (lv_sub hl [1, 2, 3, 0] rfl)
            · intro st72 r72 hf hk72 he72 H locs ls hP hD hS hl
              unfold X12_laysFar_b72 at hf
              refine lv_iload_n hx hb dX12_laysFar_72 rfl (lv_at hl 3 rfl) ?_
              refine lv_bipush (v := 8) hx hb dX12_laysFar_73 (by decide) ?_
              refine lv_icmp_ge (tgt := 132) hx hb dX12_laysFar_75 (by decide) (fun hc => ?_) (fun hc => ?_)
              · have hf := it_t hc hf
                exact he72 _ (Option.some.inj hf).symm _ _ _ hP hD hS (lv_sub hl [0, 1, 2] rfl)
              · have hf := it_f hc hf
                refine lv_aload_n hx hb dX12_laysFar_78 rfl (lv_at hl 0 rfl) ?_
                refine va_get (D := E.1) (ci := 12) (v := .ref a_o_farBy) (C := RX12) (T := TX12) (N := 39) hx hb hts inX12 hown hK hP 0 rfl rfl 24 (by decide) (hts _ fl_X12_47) (fun _ h9 => h9) rfl dX12_laysFar_79 ?_
                refine lv_bipush (v := 8) hx hb dX12_laysFar_82 (by decide) ?_
                refine lv_iload_n hx hb dX12_laysFar_84 rfl (lv_at hl 2 rfl) ?_
                refine lv_imul hx hb dX12_laysFar_85 ?_
                refine lv_iload_n hx hb dX12_laysFar_86 rfl (lv_at hl 3 rfl) ?_
                refine lv_iadd hx hb dX12_laysFar_87 ?_
                refine lv_aload_n hx hb dX12_laysFar_88 rfl (lv_at hl 0 rfl) ?_
                refine va_get (D := E.1) (ci := 12) (v := .ref a_o_farBy) (C := RX12) (T := TX12) (N := 39) hx hb hts inX12 hown hK hP 0 rfl rfl 24 (by decide) (hts _ fl_X12_47) (fun _ h9 => h9) rfl dX12_laysFar_89 ?_
                refine lv_bipush (v := 8) hx hb dX12_laysFar_92 (by decide) ?_
                refine lv_iload_n hx hb dX12_laysFar_94 rfl (lv_at hl 2 rfl) ?_
                refine lv_imul hx hb dX12_laysFar_95 ?_
                refine lv_iload_n hx hb dX12_laysFar_96 rfl (lv_at hl 3 rfl) ?_
                refine lv_iadd hx hb dX12_laysFar_97 ?_
                obtain ⟨hi, hf⟩ := ck hf
                refine r_iald 2 cx hP rfl hi dX12_laysFar_98 ?_
                refine lv_aload_n hx hb dX12_laysFar_99 rfl (lv_at hl 0 rfl) ?_
                refine va_get (D := E.1) (ci := 12) (v := .ref a_o_farBy) (C := RX12) (T := TX12) (N := 39) hx hb hts inX12 hown hK hP 0 rfl rfl 24 (by decide) (hts _ fl_X12_47) (fun _ h9 => h9) rfl dX12_laysFar_100 ?_
                refine lv_bipush (v := 8) hx hb dX12_laysFar_103 (by decide) ?_
                refine lv_iload_n hx hb dX12_laysFar_105 rfl (lv_at hl 2 rfl) ?_
                refine lv_imul hx hb dX12_laysFar_106 ?_
                refine lv_iload_n hx hb dX12_laysFar_107 rfl (lv_at hl 1 rfl) ?_
                refine lv_iadd hx hb dX12_laysFar_108 ?_
                obtain ⟨hi, hf⟩ := ck hf
                refine r_iald 2 cx hP rfl hi dX12_laysFar_109 ?_
                refine lv_aload_n hx hb dX12_laysFar_110 rfl (lv_at hl 0 rfl) ?_
                refine va_get (D := E.1) (ci := 12) (v := .ref a_o_farBy) (C := RX12) (T := TX12) (N := 39) hx hb hts inX12 hown hK hP 0 rfl rfl 24 (by decide) (hts _ fl_X12_47) (fun _ h9 => h9) rfl dX12_laysFar_111 ?_
                refine lv_bipush (v := 8) hx hb dX12_laysFar_114 (by decide) ?_
                refine lv_iload_n hx hb dX12_laysFar_116 rfl (lv_at hl 1 rfl) ?_
                refine lv_imul hx hb dX12_laysFar_117 ?_
                refine lv_iload_n hx hb dX12_laysFar_118 rfl (lv_at hl 3 rfl) ?_
                refine lv_iadd hx hb dX12_laysFar_119 ?_
                obtain ⟨hi, hf⟩ := ck hf
                refine r_iald 2 cx hP rfl hi dX12_laysFar_120 ?_
                refine lv_iadd hx hb dX12_laysFar_121 ?_
                refine r_mmin cx hl lk_X12_140 mt_min (Nat.le_of_ble_eq_true rfl) (Nat.le_of_ble_eq_true rfl) dX12_laysFar_122 ?_
                obtain ⟨hi, hf⟩ := ck hf
                refine r_iast 2 cx hP hD hS rfl hi dX12_laysFar_125 (fun H locs hP hD hS => ?_)
                have hP : va_P E.1 vwCl (wd_X12_laysFar E a_o a_o_at a_o_names a_o_sort a_o_trayMany a_o_trays a_o_tape a_o_text a_o_opened a_o_farBy a_o_attendsBy a_o_coveredBy a_o_cameBy a_o_cameThen a_o_fallsBy a_o_loops a_o_ran a_o_told1 o_status o_top o_bottom o_taped o_size o_token o_from o_end o_value o_faultKind o_faultPlace o_faults o_seen o_toldParts o_depth o_counted o_becameThen o_firstCorner o_drawn o_ranSteps o_isTold o_marks o_at (jput st72.2 ((8 * st64.1) + st72.1) (jmin (jat st72.2 ((8 * st64.1) + st72.1)) ((jat st72.2 ((8 * st64.1) + st56.1)) + (jat st72.2 ((8 * st56.1) + st72.1)))))) H := hP
                have hD : va_D A (wd_X12_laysFar E a_o a_o_at a_o_names a_o_sort a_o_trayMany a_o_trays a_o_tape a_o_text a_o_opened a_o_farBy a_o_attendsBy a_o_coveredBy a_o_cameBy a_o_cameThen a_o_fallsBy a_o_loops a_o_ran a_o_told1 o_status o_top o_bottom o_taped o_size o_token o_from o_end o_value o_faultKind o_faultPlace o_faults o_seen o_toldParts o_depth o_counted o_becameThen o_firstCorner o_drawn o_ranSteps o_isTold o_marks o_at (jput st72.2 ((8 * st64.1) + st72.1) (jmin (jat st72.2 ((8 * st64.1) + st72.1)) ((jat st72.2 ((8 * st64.1) + st56.1)) + (jat st72.2 ((8 * st56.1) + st72.1)))))) := hD
                refine lv_iinc (v := (st72.1 + 1)) (lv' := [(3, .int (st72.1 + 1)), (0, .ref a_o), (1, .int st56.1), (2, .int st64.1)]) hx hb dX12_laysFar_126 hl (k := 3) rfl rfl (by decide) rfl (fun ls hl => ?_)
                refine lv_goto (tgt := 72) hx hb dX12_laysFar_129 (by decide) ?_
                exact hk72 _ (Option.some.inj hf).symm _ _ _ hP hD hS (lv_sub hl [1, 2, 3, 0] rfl)
            · refine fun H locs ls hP hD hS hl => ?_
              refine lv_iinc (v := (st64.1 + 1)) (lv' := [(2, .int (st64.1 + 1)), (0, .ref a_o), (1, .int st56.1)]) hx hb dX12_laysFar_132 hl (k := 2) rfl rfl (by decide) rfl (fun ls hl => ?_)
              refine lv_goto (tgt := 64) hx hb dX12_laysFar_135 (by decide) ?_
              exact hk64 _ (Option.some.inj hf).symm _ _ _ hP hD hS (lv_sub hl [1, 2, 0] rfl)
        · refine fun H locs ls hP hD hS hl => ?_
          refine lv_iinc (v := (st56.1 + 1)) (lv' := [(1, .int (st56.1 + 1)), (0, .ref a_o)]) hx hb dX12_laysFar_138 hl (k := 1) rfl rfl (by decide) rfl (fun ls hl => ?_)
          refine lv_goto (tgt := 56) hx hb dX12_laysFar_141 (by decide) ?_
          exact hk56 _ (Option.some.inj hf).symm _ _ _ hP hD hS (lv_sub hl [1, 0] rfl)
    · refine fun H locs ls hP hD hS hl => ?_
      obtain rfl := Option.some.inj hf
      subst hq
      exact retV cx hP hD hS dX12_laysFar_144
def X12_wayTo_j82 (F : Nat) (o_at : Nat → Int32) (o_farBy : Nat → Int32) (v1 : Int32) (v2 : Int32) (v3 : Int32) : Option ((Int32) ⊕ ((Int32) ⊕ (Unit))) :=
  some (.inl (v3 + 1))
def X12_wayTo_b21 (F : Nat) (o_at : Nat → Int32) (o_farBy : Nat → Int32) (v1 : Int32) (v2 : Int32) (st21 : Int32) : Option ((Int32) ⊕ ((Int32) ⊕ (Unit))) :=
  if ix 0 3097 then
  if (jat o_at 0) ≤ st21 then
  some (.inr (.inr (())))
  else
  if st21 = v1 then
  X12_wayTo_j82 F o_at o_farBy v1 v2 st21
  else
  (X12_roadOf F o_at v1 st21).bind fun u39 =>
  if (1000000 : Int32) ≤ u39 then
  X12_wayTo_j82 F o_at o_farBy v1 v2 st21
  else
  (X12_roadOf F o_at v1 st21).bind fun u51 =>
  if ix ((8 * st21) + v2) 64 then
  if ix ((8 * v1) + v2) 64 then
  if (u51 + (jat o_farBy ((8 * st21) + v2))) = (jat o_farBy ((8 * v1) + v2)) then
  some (.inr (.inl (st21)))
  else
  X12_wayTo_j82 F o_at o_farBy v1 v2 st21
  else none
  else none
  else none
def X12_wayTo (F : Nat) (o_at : Nat → Int32) (o_farBy : Nat → Int32) (v1 : Int32) (v2 : Int32) : Option (Int32) :=
  if ix ((8 * v1) + v2) 64 then
  if (jat o_farBy ((8 * v1) + v2)) < 1000000 then
  (iter (X12_wayTo_b21 F o_at o_farBy v1 v2) F 0).bind (Sum.elim (fun (e21 : Int32) =>
    some e21) (fun (e21 : Unit) =>
    some (-1)))
  else
  some (-1)
  else none
abbrev wd_X12_wayTo (E : vE) (a_o a_o_at a_o_names a_o_sort a_o_trayMany a_o_trays a_o_tape a_o_text a_o_opened a_o_farBy a_o_attendsBy a_o_coveredBy a_o_cameBy a_o_cameThen a_o_fallsBy a_o_loops a_o_ran a_o_told1 : Nat) (o_status : Int32) (o_top : Int64) (o_bottom : Int64) (o_taped : Int32) (o_size : Int32) (o_token : Int32) (o_from : Int32) (o_end : Int32) (o_value : Int32) (o_faultKind : Int32) (o_faultPlace : Int32) (o_faults : Int32) (o_seen : Int32) (o_toldParts : Int32) (o_depth : Int32) (o_counted : Int32) (o_becameThen : Int32) (o_firstCorner : Int32) (o_drawn : Int32) (o_ranSteps : Int32) (o_isTold : Int32) (o_marks : Int32) (o_at : Nat → Int32) (o_farBy : Nat → Int32) : va_W := [(a_o, .inr (12, [.ref a_o_at, .ref a_o_names, .int o_status, .long o_top, .long o_bottom, .ref a_o_sort, .ref a_o_trayMany, .ref a_o_trays, .ref a_o_tape, .ref a_o_text, .int o_taped, .int o_size, .int o_token, .int o_from, .int o_end, .int o_value, .int o_faultKind, .int o_faultPlace, .int o_faults, .int o_seen, .int o_toldParts, .ref a_o_opened, .int o_depth, .int o_counted, .ref a_o_farBy, .int o_becameThen, .ref a_o_attendsBy, .ref a_o_coveredBy, .ref a_o_cameBy, .ref a_o_cameThen, .int o_firstCorner, .ref a_o_fallsBy, .int o_drawn, .int o_ranSteps, .ref a_o_loops, .ref a_o_ran, .ref a_o_told1, .int o_isTold, .int o_marks])), (a_o_at, .inl (E.2.1, 3097, .inl o_at)), (a_o_farBy, .inl (E.2.1, 64, .inl o_farBy))]
set_option maxHeartbeats 4000000 in
set_option maxRecDepth 100000 in
theorem ct_X12_wayTo (l : Launch) (E : vE) (F : Nat) (a_o a_o_at a_o_names a_o_sort a_o_trayMany a_o_trays a_o_tape a_o_text a_o_opened a_o_farBy a_o_attendsBy a_o_coveredBy a_o_cameBy a_o_cameThen a_o_fallsBy a_o_loops a_o_ran a_o_told1 : Nat) (o_status : Int32) (o_top : Int64) (o_bottom : Int64) (o_taped : Int32) (o_size : Int32) (o_token : Int32) (o_from : Int32) (o_end : Int32) (o_value : Int32) (o_faultKind : Int32) (o_faultPlace : Int32) (o_faults : Int32) (o_seen : Int32) (o_toldParts : Int32) (o_depth : Int32) (o_counted : Int32) (o_becameThen : Int32) (o_firstCorner : Int32) (o_drawn : Int32) (o_ranSteps : Int32) (o_isTold : Int32) (o_marks : Int32) (o_at : Nat → Int32) (o_farBy : Nat → Int32) (v1 : Int32) (v2 : Int32) (u : Int32) (hf : X12_wayTo F o_at o_farBy v1 v2 = some u) :
    CtI l yX12_wayTo cX12_wayTo 4 (some .int) 2 E [.ref a_o, .int v1, .int v2] (wd_X12_wayTo E a_o a_o_at a_o_names a_o_sort a_o_trayMany a_o_trays a_o_tape a_o_text a_o_opened a_o_farBy a_o_attendsBy a_o_coveredBy a_o_cameBy a_o_cameThen a_o_fallsBy a_o_loops a_o_ran a_o_told1 o_status o_top o_bottom o_taped o_size o_token o_from o_end o_value o_faultKind o_faultPlace o_faults o_seen o_toldParts o_depth o_counted o_becameThen o_firstCorner o_drawn o_ranSteps o_isTold o_marks o_at o_farBy) (wd_X12_wayTo E a_o a_o_at a_o_names a_o_sort a_o_trayMany a_o_trays a_o_tape a_o_text a_o_opened a_o_farBy a_o_attendsBy a_o_coveredBy a_o_cameBy a_o_cameThen a_o_fallsBy a_o_loops a_o_ran a_o_told1 o_status o_top o_bottom o_taped o_size o_token o_from o_end o_value o_faultKind o_faultPlace o_faults o_seen o_toldParts o_depth o_counted o_becameThen o_firstCorner o_drawn o_ranSteps o_isTold o_marks o_at o_farBy) u := by
  refine ctI (by decide) (Nat.le_of_ble_eq_true rfl) ?_
  intro p e s m below meth cd A ls aa QQ hq cx hP hD hS hl
  obtain ⟨⟨hx, hb, hml, hown, hts⟩, hr, hlocks, hK, hA, hX⟩ := id cx
  have hl : lv_has ls 4 [(0, .ref a_o), (1, .int v1), (2, .int v2)] := hl
  unfold X12_wayTo at hf
  refine lv_aload_n hx hb dX12_wayTo_0 rfl (lv_at hl 0 rfl) ?_
  refine va_get (D := E.1) (ci := 12) (v := .ref a_o_farBy) (C := RX12) (T := TX12) (N := 39) hx hb hts inX12 hown hK hP 0 rfl rfl 24 (by decide) (hts _ fl_X12_47) (fun _ h9 => h9) rfl dX12_wayTo_1 ?_
  refine lv_bipush (v := 8) hx hb dX12_wayTo_4 (by decide) ?_
  refine lv_iload_n hx hb dX12_wayTo_6 rfl (lv_at hl 1 rfl) ?_
  refine lv_imul hx hb dX12_wayTo_7 ?_
  refine lv_iload_n hx hb dX12_wayTo_8 rfl (lv_at hl 2 rfl) ?_
  refine lv_iadd hx hb dX12_wayTo_9 ?_
  obtain ⟨hi, hf⟩ := ck hf
  refine r_iald 2 cx hP rfl hi dX12_wayTo_10 ?_
  refine lv_ldcw (v := 1000000) hx hb hown (hts _ ki_X12_314) dX12_wayTo_11 ?_
  refine lv_icmp_lt (tgt := 19) hx hb dX12_wayTo_14 (by decide) (fun hc => ?_) (fun hc => ?_)
  · have hf := it_t hc hf
    refine lv_iconst (v := 0) hx hb dX12_wayTo_19 (by decide) ?_
    refine lv_istore_n (lv' := [(3, .int 0), (0, .ref a_o), (1, .int v1), (2, .int v2)]) hx hb dX12_wayTo_20 rfl hl (by decide) rfl (fun ls hl => ?_)
    obtain ⟨e21, hit21, hf⟩ := bd hf
    refine iter_W (b := X12_wayTo_b21 F o_at o_farBy v1 v2) (P := fun st21 => ∀ (H : Heap) (locs : List Loc) (ls : Array Slot), va_P E.1 vwCl (wd_X12_wayTo E a_o a_o_at a_o_names a_o_sort a_o_trayMany a_o_trays a_o_tape a_o_text a_o_opened a_o_farBy a_o_attendsBy a_o_coveredBy a_o_cameBy a_o_cameThen a_o_fallsBy a_o_loops a_o_ran a_o_told1 o_status o_top o_bottom o_taped o_size o_token o_from o_end o_value o_faultKind o_faultPlace o_faults o_seen o_toldParts o_depth o_counted o_becameThen o_firstCorner o_drawn o_ranSteps o_isTold o_marks o_at o_farBy) H → va_D A (wd_X12_wayTo E a_o a_o_at a_o_names a_o_sort a_o_trayMany a_o_trays a_o_tape a_o_text a_o_opened a_o_farBy a_o_attendsBy a_o_coveredBy a_o_cameBy a_o_cameThen a_o_fallsBy a_o_loops a_o_ran a_o_told1 o_status o_top o_bottom o_taped o_size o_token o_from o_end o_value o_faultKind o_faultPlace o_faults o_seen o_toldParts o_depth o_counted o_becameThen o_firstCorner o_drawn o_ranSteps o_isTold o_marks o_at o_farBy) → va_S A s.heap H locs → lv_has ls 4 [(0, .ref a_o), (1, .int v1), (2, .int v2), (3, .int st21)] → W p l e (rmd 2) s m aa below meth cd H locs 0 0 QQ (F0 m 21 ls [])) (G := (Sum.elim (fun (e21 : Int32) => ∀ (H : Heap) (locs : List Loc) (ls : Array Slot), va_P E.1 vwCl (wd_X12_wayTo E a_o a_o_at a_o_names a_o_sort a_o_trayMany a_o_trays a_o_tape a_o_text a_o_opened a_o_farBy a_o_attendsBy a_o_coveredBy a_o_cameBy a_o_cameThen a_o_fallsBy a_o_loops a_o_ran a_o_told1 o_status o_top o_bottom o_taped o_size o_token o_from o_end o_value o_faultKind o_faultPlace o_faults o_seen o_toldParts o_depth o_counted o_becameThen o_firstCorner o_drawn o_ranSteps o_isTold o_marks o_at o_farBy) H → va_D A (wd_X12_wayTo E a_o a_o_at a_o_names a_o_sort a_o_trayMany a_o_trays a_o_tape a_o_text a_o_opened a_o_farBy a_o_attendsBy a_o_coveredBy a_o_cameBy a_o_cameThen a_o_fallsBy a_o_loops a_o_ran a_o_told1 o_status o_top o_bottom o_taped o_size o_token o_from o_end o_value o_faultKind o_faultPlace o_faults o_seen o_toldParts o_depth o_counted o_becameThen o_firstCorner o_drawn o_ranSteps o_isTold o_marks o_at o_farBy) → va_S A s.heap H locs → lv_has ls 4 [(3, .int e21)] → W p l e (rmd 2) s m aa below meth cd H locs 0 0 QQ (F0 m 80 ls [])) (fun (e21 : Unit) => ∀ (H : Heap) (locs : List Loc) (ls : Array Slot), va_P E.1 vwCl (wd_X12_wayTo E a_o a_o_at a_o_names a_o_sort a_o_trayMany a_o_trays a_o_tape a_o_text a_o_opened a_o_farBy a_o_attendsBy a_o_coveredBy a_o_cameBy a_o_cameThen a_o_fallsBy a_o_loops a_o_ran a_o_told1 o_status o_top o_bottom o_taped o_size o_token o_from o_end o_value o_faultKind o_faultPlace o_faults o_seen o_toldParts o_depth o_counted o_becameThen o_firstCorner o_drawn o_ranSteps o_isTold o_marks o_at o_farBy) H → va_D A (wd_X12_wayTo E a_o a_o_at a_o_names a_o_sort a_o_trayMany a_o_trays a_o_tape a_o_text a_o_opened a_o_farBy a_o_attendsBy a_o_coveredBy a_o_cameBy a_o_cameThen a_o_fallsBy a_o_loops a_o_ran a_o_told1 o_status o_top o_bottom o_taped o_size o_token o_from o_end o_value o_faultKind o_faultPlace o_faults o_seen o_toldParts o_depth o_counted o_becameThen o_firstCorner o_drawn o_ranSteps o_isTold o_marks o_at o_farBy) → va_S A s.heap H locs → lv_has ls 4 [] → W p l e (rmd 2) s m aa below meth cd H locs 0 0 QQ (F0 m 88 ls [])))) ?_ F 0 e21 hit21 ?_ _ _ _ hP hD hS (lv_sub hl [1, 2, 3, 0] rfl)
    · intro st21 r21 hf hk21 he21 H locs ls hP hD hS hl
      have hj82 : ∀ (v3_j82 : Int32) (H : Heap) (locs : List Loc) (ls : Array Slot), X12_wayTo_j82 F o_at o_farBy v1 v2 v3_j82 = some r21 → va_P E.1 vwCl (wd_X12_wayTo E a_o a_o_at a_o_names a_o_sort a_o_trayMany a_o_trays a_o_tape a_o_text a_o_opened a_o_farBy a_o_attendsBy a_o_coveredBy a_o_cameBy a_o_cameThen a_o_fallsBy a_o_loops a_o_ran a_o_told1 o_status o_top o_bottom o_taped o_size o_token o_from o_end o_value o_faultKind o_faultPlace o_faults o_seen o_toldParts o_depth o_counted o_becameThen o_firstCorner o_drawn o_ranSteps o_isTold o_marks o_at o_farBy) H → va_D A (wd_X12_wayTo E a_o a_o_at a_o_names a_o_sort a_o_trayMany a_o_trays a_o_tape a_o_text a_o_opened a_o_farBy a_o_attendsBy a_o_coveredBy a_o_cameBy a_o_cameThen a_o_fallsBy a_o_loops a_o_ran a_o_told1 o_status o_top o_bottom o_taped o_size o_token o_from o_end o_value o_faultKind o_faultPlace o_faults o_seen o_toldParts o_depth o_counted o_becameThen o_firstCorner o_drawn o_ranSteps o_isTold o_marks o_at o_farBy) → va_S A s.heap H locs → lv_has ls 4 [(0, .ref a_o), (1, .int v1), (2, .int v2), (3, .int v3_j82)] → W p l e (rmd 2) s m aa below meth cd H locs 0 0 QQ (F0 m 82 ls []) := by
        intro v3_j82 H locs ls hf hP hD hS hl
        unfold X12_wayTo_j82 at hf
        refine lv_iinc (v := (v3_j82 + 1)) (lv' := [(3, .int (v3_j82 + 1)), (0, .ref a_o), (1, .int v1), (2, .int v2)]) hx hb dX12_wayTo_82 hl (k := 3) rfl rfl (by decide) rfl (fun ls hl => ?_)
        refine lv_goto (tgt := 21) hx hb dX12_wayTo_85 (by decide) ?_
        exact hk21 _ (Option.some.inj hf).symm _ _ _ hP hD hS (lv_sub hl [1, 2, 3, 0] rfl)
      unfold X12_wayTo_b21 at hf
      refine lv_iload_n hx hb dX12_wayTo_21 rfl (lv_at hl 3 rfl) ?_
      refine lv_aload_n hx hb dX12_wayTo_22 rfl (lv_at hl 0 rfl) ?_
      refine va_get (D := E.1) (ci := 12) (v := .ref a_o_at) (C := RX12) (T := TX12) (N := 39) hx hb hts inX12 hown hK hP 0 rfl rfl 0 (by decide) (hts _ fl_X12_7) (fun _ h9 => h9) rfl dX12_wayTo_23 ?_
      refine lv_iconst (v := 0) hx hb dX12_wayTo_26 (by decide) ?_
      obtain ⟨hi, hf⟩ := ck hf
      refine r_iald 1 cx hP rfl hi dX12_wayTo_27 ?_
      refine lv_icmp_ge (tgt := 88) hx hb dX12_wayTo_28 (by decide) (fun hc => ?_) (fun hc => ?_)
      · have hf := it_t hc hf
        exact he21 _ (Option.some.inj hf).symm _ _ _ hP hD hS (lv_sub hl [] rfl)
      · have hf := it_f hc hf
        refine lv_iload_n hx hb dX12_wayTo_31 rfl (lv_at hl 3 rfl) ?_
        refine lv_iload_n hx hb dX12_wayTo_32 rfl (lv_at hl 1 rfl) ?_
        refine lv_icmp_eq (tgt := 82) hx hb dX12_wayTo_33 (by decide) (fun hc => ?_) (fun hc => ?_)
        · have hf := it_t hc hf
          exact hj82 _ _ _ _ hf hP hD hS (lv_sub hl [0, 1, 2, 3] rfl)
        · have hf := it_f hc hf
          refine lv_aload_n hx hb dX12_wayTo_36 rfl (lv_at hl 0 rfl) ?_
          refine lv_iload_n hx hb dX12_wayTo_37 rfl (lv_at hl 1 rfl) ?_
          refine lv_iload_n hx hb dX12_wayTo_38 rfl (lv_at hl 3 rfl) ?_
          obtain ⟨u39, hu39, hf⟩ := bd hf
          refine keepVI (ct_X12_roadOf l E F a_o a_o_at a_o_names a_o_sort a_o_trayMany a_o_trays a_o_tape a_o_text a_o_opened a_o_farBy a_o_attendsBy a_o_coveredBy a_o_cameBy a_o_cameThen a_o_fallsBy a_o_loops a_o_ran a_o_told1 o_status o_top o_bottom o_taped o_size o_token o_from o_end o_value o_faultKind o_faultPlace o_faults o_seen o_toldParts o_depth o_counted o_becameThen o_firstCorner o_drawn o_ranSteps o_isTold o_marks o_at v1 st21 u39 hu39) [0, 1] cal_X12_roadOf cav_X12_roadOf lk_X12_315 cx hP hD hS hl dX12_wayTo_39 rfl rfl rfl rfl (Nat.le_of_ble_eq_true rfl) ⟨Nat.le_of_ble_eq_true rfl, Nat.le_of_ble_eq_true rfl⟩ rfl (by decide) (fun H locs hP hS => ?_)
          refine lv_ldcw (v := 1000000) hx hb hown (hts _ ki_X12_314) dX12_wayTo_42 ?_
          refine lv_icmp_ge (tgt := 82) hx hb dX12_wayTo_45 (by decide) (fun hc => ?_) (fun hc => ?_)
          · have hf := it_t hc hf
            exact hj82 _ _ _ _ hf hP hD hS (lv_sub hl [0, 1, 2, 3] rfl)
          · have hf := it_f hc hf
            refine lv_aload_n hx hb dX12_wayTo_48 rfl (lv_at hl 0 rfl) ?_
            refine lv_iload_n hx hb dX12_wayTo_49 rfl (lv_at hl 1 rfl) ?_
            refine lv_iload_n hx hb dX12_wayTo_50 rfl (lv_at hl 3 rfl) ?_
            obtain ⟨u51, hu51, hf⟩ := bd hf
            refine keepVI (ct_X12_roadOf l E F a_o a_o_at a_o_names a_o_sort a_o_trayMany a_o_trays a_o_tape a_o_text a_o_opened a_o_farBy a_o_attendsBy a_o_coveredBy a_o_cameBy a_o_cameThen a_o_fallsBy a_o_loops a_o_ran a_o_told1 o_status o_top o_bottom o_taped o_size o_token o_from o_end o_value o_faultKind o_faultPlace o_faults o_seen o_toldParts o_depth o_counted o_becameThen o_firstCorner o_drawn o_ranSteps o_isTold o_marks o_at v1 st21 u51 hu51) [0, 1] cal_X12_roadOf cav_X12_roadOf lk_X12_315 cx hP hD hS hl dX12_wayTo_51 rfl rfl rfl rfl (Nat.le_of_ble_eq_true rfl) ⟨Nat.le_of_ble_eq_true rfl, Nat.le_of_ble_eq_true rfl⟩ rfl (by decide) (fun H locs hP hS => ?_)
            refine lv_aload_n hx hb dX12_wayTo_54 rfl (lv_at hl 0 rfl) ?_
            refine va_get (D := E.1) (ci := 12) (v := .ref a_o_farBy) (C := RX12) (T := TX12) (N := 39) hx hb hts inX12 hown hK hP 0 rfl rfl 24 (by decide) (hts _ fl_X12_47) (fun _ h9 => h9) rfl dX12_wayTo_55 ?_
            refine lv_bipush (v := 8) hx hb dX12_wayTo_58 (by decide) ?_
            refine lv_iload_n hx hb dX12_wayTo_60 rfl (lv_at hl 3 rfl) ?_
            refine lv_imul hx hb dX12_wayTo_61 ?_
            refine lv_iload_n hx hb dX12_wayTo_62 rfl (lv_at hl 2 rfl) ?_
            refine lv_iadd hx hb dX12_wayTo_63 ?_
            obtain ⟨hi, hf⟩ := ck hf
            refine r_iald 2 cx hP rfl hi dX12_wayTo_64 ?_
            refine lv_iadd hx hb dX12_wayTo_65 ?_
            refine lv_aload_n hx hb dX12_wayTo_66 rfl (lv_at hl 0 rfl) ?_
            refine va_get (D := E.1) (ci := 12) (v := .ref a_o_farBy) (C := RX12) (T := TX12) (N := 39) hx hb hts inX12 hown hK hP 0 rfl rfl 24 (by decide) (hts _ fl_X12_47) (fun _ h9 => h9) rfl dX12_wayTo_67 ?_
            refine lv_bipush (v := 8) hx hb dX12_wayTo_70 (by decide) ?_
            refine lv_iload_n hx hb dX12_wayTo_72 rfl (lv_at hl 1 rfl) ?_
            refine lv_imul hx hb dX12_wayTo_73 ?_
            refine lv_iload_n hx hb dX12_wayTo_74 rfl (lv_at hl 2 rfl) ?_
            refine lv_iadd hx hb dX12_wayTo_75 ?_
            obtain ⟨hi, hf⟩ := ck hf
            refine r_iald 2 cx hP rfl hi dX12_wayTo_76 ?_
            refine lv_icmp_ne (tgt := 82) hx hb dX12_wayTo_77 (by decide) (fun hc => ?_) (fun hc => ?_)
            · have hf := it_f hc hf
              exact hj82 _ _ _ _ hf hP hD hS (lv_sub hl [0, 1, 2, 3] rfl)
            · have hf := it_t hc hf
              exact he21 _ (Option.some.inj hf).symm _ _ _ hP hD hS (lv_sub hl [3] rfl)
    · rcases e21 with e21 | e21
      · have hf := se_l hf
        refine fun H locs ls hP hD hS hl => ?_
        refine lv_iload_n hx hb dX12_wayTo_80 rfl (lv_at hl 0 rfl) ?_
        obtain rfl := Option.some.inj hf
        subst hq
        exact retI cx hP hD hS dX12_wayTo_81
      · have hf := se_r hf
        refine fun H locs ls hP hD hS hl => ?_
        refine lv_iconst (v := (-1)) hx hb dX12_wayTo_88 (by decide) ?_
        obtain rfl := Option.some.inj hf
        subst hq
        exact retI cx hP hD hS dX12_wayTo_89
  · have hf := it_f hc hf
    refine lv_iconst (v := (-1)) hx hb dX12_wayTo_17 (by decide) ?_
    obtain rfl := Option.some.inj hf
    subst hq
    exact retI cx hP hD hS dX12_wayTo_18
def X12_road_j21 (F : Nat) (o_status : Int32) (o_at : Nat → Int32) : Option (Int32 × Int32) :=
  (X12_refuse o_status (1 : Int32)).bind fun u23 =>
  some (u23.1, u23.2)
def X12_road (F : Nat) (o_status : Int32) (o_at : Nat → Int32) (v1 : Int32) (v2 : Int32) : Option (Int32 × Int32) :=
  (X12_isCorner o_at v1).bind fun u2 =>
  if u2 = 0 then
  X12_road_j21 F o_status o_at
  else
  (X12_isCorner o_at v2).bind fun u10 =>
  if u10 = 0 then
  X12_road_j21 F o_status o_at
  else
  if v1 = v2 then
  X12_road_j21 F o_status o_at
  else
  (X12_roadOf F o_at v1 v2).bind fun u30 =>
  if u30 < 1000000 then
  (X12_gives o_status u30).bind fun u52 =>
  some (u52.1, u52.2)
  else
  (X12_refuse o_status (6 : Int32)).bind fun u44 =>
  some (u44.1, u44.2)
abbrev wd_X12_road (E : vE) (a_o a_o_at a_o_names a_o_sort a_o_trayMany a_o_trays a_o_tape a_o_text a_o_opened a_o_farBy a_o_attendsBy a_o_coveredBy a_o_cameBy a_o_cameThen a_o_fallsBy a_o_loops a_o_ran a_o_told1 : Nat) (o_status : Int32) (o_top : Int64) (o_bottom : Int64) (o_taped : Int32) (o_size : Int32) (o_token : Int32) (o_from : Int32) (o_end : Int32) (o_value : Int32) (o_faultKind : Int32) (o_faultPlace : Int32) (o_faults : Int32) (o_seen : Int32) (o_toldParts : Int32) (o_depth : Int32) (o_counted : Int32) (o_becameThen : Int32) (o_firstCorner : Int32) (o_drawn : Int32) (o_ranSteps : Int32) (o_isTold : Int32) (o_marks : Int32) (o_at : Nat → Int32) : va_W := [(a_o, .inr (12, [.ref a_o_at, .ref a_o_names, .int o_status, .long o_top, .long o_bottom, .ref a_o_sort, .ref a_o_trayMany, .ref a_o_trays, .ref a_o_tape, .ref a_o_text, .int o_taped, .int o_size, .int o_token, .int o_from, .int o_end, .int o_value, .int o_faultKind, .int o_faultPlace, .int o_faults, .int o_seen, .int o_toldParts, .ref a_o_opened, .int o_depth, .int o_counted, .ref a_o_farBy, .int o_becameThen, .ref a_o_attendsBy, .ref a_o_coveredBy, .ref a_o_cameBy, .ref a_o_cameThen, .int o_firstCorner, .ref a_o_fallsBy, .int o_drawn, .int o_ranSteps, .ref a_o_loops, .ref a_o_ran, .ref a_o_told1, .int o_isTold, .int o_marks])), (a_o_at, .inl (E.2.1, 3097, .inl o_at))]
set_option maxHeartbeats 4000000 in
set_option maxRecDepth 100000 in
theorem ct_X12_road (l : Launch) (E : vE) (F : Nat) (a_o a_o_at a_o_names a_o_sort a_o_trayMany a_o_trays a_o_tape a_o_text a_o_opened a_o_farBy a_o_attendsBy a_o_coveredBy a_o_cameBy a_o_cameThen a_o_fallsBy a_o_loops a_o_ran a_o_told1 : Nat) (o_status : Int32) (o_top : Int64) (o_bottom : Int64) (o_taped : Int32) (o_size : Int32) (o_token : Int32) (o_from : Int32) (o_end : Int32) (o_value : Int32) (o_faultKind : Int32) (o_faultPlace : Int32) (o_faults : Int32) (o_seen : Int32) (o_toldParts : Int32) (o_depth : Int32) (o_counted : Int32) (o_becameThen : Int32) (o_firstCorner : Int32) (o_drawn : Int32) (o_ranSteps : Int32) (o_isTold : Int32) (o_marks : Int32) (o_at : Nat → Int32) (v1 : Int32) (v2 : Int32) (u : Int32 × Int32) (hf : X12_road F o_status o_at v1 v2 = some u) :
    CtI l yX12_road cX12_road 4 (some .int) 2 E [.ref a_o, .int v1, .int v2] (wd_X12_road E a_o a_o_at a_o_names a_o_sort a_o_trayMany a_o_trays a_o_tape a_o_text a_o_opened a_o_farBy a_o_attendsBy a_o_coveredBy a_o_cameBy a_o_cameThen a_o_fallsBy a_o_loops a_o_ran a_o_told1 o_status o_top o_bottom o_taped o_size o_token o_from o_end o_value o_faultKind o_faultPlace o_faults o_seen o_toldParts o_depth o_counted o_becameThen o_firstCorner o_drawn o_ranSteps o_isTold o_marks o_at) (wd_X12_road E a_o a_o_at a_o_names a_o_sort a_o_trayMany a_o_trays a_o_tape a_o_text a_o_opened a_o_farBy a_o_attendsBy a_o_coveredBy a_o_cameBy a_o_cameThen a_o_fallsBy a_o_loops a_o_ran a_o_told1 u.2 o_top o_bottom o_taped o_size o_token o_from o_end o_value o_faultKind o_faultPlace o_faults o_seen o_toldParts o_depth o_counted o_becameThen o_firstCorner o_drawn o_ranSteps o_isTold o_marks o_at) u.1 := by
  refine ctI (by decide) (Nat.le_of_ble_eq_true rfl) ?_
  intro p e s m below meth cd A ls aa QQ hq cx hP hD hS hl
  obtain ⟨⟨hx, hb, hml, hown, hts⟩, hr, hlocks, hK, hA, hX⟩ := id cx
  have hl : lv_has ls 4 [(0, .ref a_o), (1, .int v1), (2, .int v2)] := hl
  have hj21 : ∀ (o_status_j21 : Int32) (H : Heap) (locs : List Loc) (ls : Array Slot), X12_road_j21 F o_status_j21 o_at = some u → va_P E.1 vwCl (wd_X12_road E a_o a_o_at a_o_names a_o_sort a_o_trayMany a_o_trays a_o_tape a_o_text a_o_opened a_o_farBy a_o_attendsBy a_o_coveredBy a_o_cameBy a_o_cameThen a_o_fallsBy a_o_loops a_o_ran a_o_told1 o_status_j21 o_top o_bottom o_taped o_size o_token o_from o_end o_value o_faultKind o_faultPlace o_faults o_seen o_toldParts o_depth o_counted o_becameThen o_firstCorner o_drawn o_ranSteps o_isTold o_marks o_at) H → va_D A (wd_X12_road E a_o a_o_at a_o_names a_o_sort a_o_trayMany a_o_trays a_o_tape a_o_text a_o_opened a_o_farBy a_o_attendsBy a_o_coveredBy a_o_cameBy a_o_cameThen a_o_fallsBy a_o_loops a_o_ran a_o_told1 o_status_j21 o_top o_bottom o_taped o_size o_token o_from o_end o_value o_faultKind o_faultPlace o_faults o_seen o_toldParts o_depth o_counted o_becameThen o_firstCorner o_drawn o_ranSteps o_isTold o_marks o_at) → va_S A s.heap H locs → lv_has ls 4 [(0, .ref a_o)] → W p l e (rmd 2) s m aa below meth cd H locs 0 0 QQ (F0 m 21 ls []) := by
    intro o_status_j21 H locs ls hf hP hD hS hl
    unfold X12_road_j21 at hf
    refine lv_aload_n hx hb dX12_road_21 rfl (lv_at hl 0 rfl) ?_
    refine lv_iconst (v := 1) hx hb dX12_road_22 (by decide) ?_
    obtain ⟨u23, hu23, hf⟩ := bd hf
    refine callVI (wn := (wd_X12_road E a_o a_o_at a_o_names a_o_sort a_o_trayMany a_o_trays a_o_tape a_o_text a_o_opened a_o_farBy a_o_attendsBy a_o_coveredBy a_o_cameBy a_o_cameThen a_o_fallsBy a_o_loops a_o_ran a_o_told1 u23.2 o_top o_bottom o_taped o_size o_token o_from o_end o_value o_faultKind o_faultPlace o_faults o_seen o_toldParts o_depth o_counted o_becameThen o_firstCorner o_drawn o_ranSteps o_isTold o_marks o_at)) (n1 := 2) (ct_X12_refuse l E a_o a_o_at a_o_names a_o_sort a_o_trayMany a_o_trays a_o_tape a_o_text a_o_opened a_o_farBy a_o_attendsBy a_o_coveredBy a_o_cameBy a_o_cameThen a_o_fallsBy a_o_loops a_o_ran a_o_told1 o_status_j21 o_top o_bottom o_taped o_size o_token o_from o_end o_value o_faultKind o_faultPlace o_faults o_seen o_toldParts o_depth o_counted o_becameThen o_firstCorner o_drawn o_ranSteps o_isTold o_marks (1 : Int32) u23 hu23) [0] cal_X12_refuse cav_X12_refuse lk_X12_85 cx hP hD hS hl dX12_road_23 rfl rfl rfl rfl (Nat.le_of_ble_eq_true rfl) ⟨Nat.le_of_ble_eq_true rfl, Nat.le_of_ble_eq_true rfl⟩ rfl (by decide +kernel) rfl [some 0, none] rfl (by decide +kernel) rfl (fun H locs hP hD hS => ?_)
    obtain rfl := Option.some.inj hf
    subst hq
    exact retI cx hP hD hS dX12_road_26
  unfold X12_road at hf
  refine lv_aload_n hx hb dX12_road_0 rfl (lv_at hl 0 rfl) ?_
  refine lv_iload_n hx hb dX12_road_1 rfl (lv_at hl 1 rfl) ?_
  obtain ⟨u2, hu2, hf⟩ := bd hf
  refine keepVI (ct_X12_isCorner l E a_o a_o_at a_o_names a_o_sort a_o_trayMany a_o_trays a_o_tape a_o_text a_o_opened a_o_farBy a_o_attendsBy a_o_coveredBy a_o_cameBy a_o_cameThen a_o_fallsBy a_o_loops a_o_ran a_o_told1 o_status o_top o_bottom o_taped o_size o_token o_from o_end o_value o_faultKind o_faultPlace o_faults o_seen o_toldParts o_depth o_counted o_becameThen o_firstCorner o_drawn o_ranSteps o_isTold o_marks o_at v1 u2 hu2) [0, 1] cal_X12_isCorner cav_X12_isCorner lk_X12_311 cx hP hD hS hl dX12_road_2 rfl rfl rfl rfl (Nat.le_of_ble_eq_true rfl) ⟨Nat.le_of_ble_eq_true rfl, Nat.le_of_ble_eq_true rfl⟩ rfl (by decide) (fun H locs hP hS => ?_)
  refine lv_if_eq (tgt := 21) hx hb dX12_road_5 (by decide) (fun hc => ?_) (fun hc => ?_)
  · have hf := it_t hc hf
    exact hj21 _ _ _ _ hf hP hD hS (lv_sub hl [0] rfl)
  · have hf := it_f hc hf
    refine lv_aload_n hx hb dX12_road_8 rfl (lv_at hl 0 rfl) ?_
    refine lv_iload_n hx hb dX12_road_9 rfl (lv_at hl 2 rfl) ?_
    obtain ⟨u10, hu10, hf⟩ := bd hf
    refine keepVI (ct_X12_isCorner l E a_o a_o_at a_o_names a_o_sort a_o_trayMany a_o_trays a_o_tape a_o_text a_o_opened a_o_farBy a_o_attendsBy a_o_coveredBy a_o_cameBy a_o_cameThen a_o_fallsBy a_o_loops a_o_ran a_o_told1 o_status o_top o_bottom o_taped o_size o_token o_from o_end o_value o_faultKind o_faultPlace o_faults o_seen o_toldParts o_depth o_counted o_becameThen o_firstCorner o_drawn o_ranSteps o_isTold o_marks o_at v2 u10 hu10) [0, 1] cal_X12_isCorner cav_X12_isCorner lk_X12_311 cx hP hD hS hl dX12_road_10 rfl rfl rfl rfl (Nat.le_of_ble_eq_true rfl) ⟨Nat.le_of_ble_eq_true rfl, Nat.le_of_ble_eq_true rfl⟩ rfl (by decide) (fun H locs hP hS => ?_)
    refine lv_if_eq (tgt := 21) hx hb dX12_road_13 (by decide) (fun hc => ?_) (fun hc => ?_)
    · have hf := it_t hc hf
      exact hj21 _ _ _ _ hf hP hD hS (lv_sub hl [0] rfl)
    · have hf := it_f hc hf
      refine lv_iload_n hx hb dX12_road_16 rfl (lv_at hl 1 rfl) ?_
      refine lv_iload_n hx hb dX12_road_17 rfl (lv_at hl 2 rfl) ?_
      refine lv_icmp_ne (tgt := 27) hx hb dX12_road_18 (by decide) (fun hc => ?_) (fun hc => ?_)
      · have hf := it_f hc hf
        refine lv_aload_n hx hb dX12_road_27 rfl (lv_at hl 0 rfl) ?_
        refine lv_iload_n hx hb dX12_road_28 rfl (lv_at hl 1 rfl) ?_
        refine lv_iload_n hx hb dX12_road_29 rfl (lv_at hl 2 rfl) ?_
        obtain ⟨u30, hu30, hf⟩ := bd hf
        refine keepVI (ct_X12_roadOf l E F a_o a_o_at a_o_names a_o_sort a_o_trayMany a_o_trays a_o_tape a_o_text a_o_opened a_o_farBy a_o_attendsBy a_o_coveredBy a_o_cameBy a_o_cameThen a_o_fallsBy a_o_loops a_o_ran a_o_told1 o_status o_top o_bottom o_taped o_size o_token o_from o_end o_value o_faultKind o_faultPlace o_faults o_seen o_toldParts o_depth o_counted o_becameThen o_firstCorner o_drawn o_ranSteps o_isTold o_marks o_at v1 v2 u30 hu30) [0, 1] cal_X12_roadOf cav_X12_roadOf lk_X12_315 cx hP hD hS hl dX12_road_30 rfl rfl rfl rfl (Nat.le_of_ble_eq_true rfl) ⟨Nat.le_of_ble_eq_true rfl, Nat.le_of_ble_eq_true rfl⟩ rfl (by decide) (fun H locs hP hS => ?_)
        refine lv_istore_n (lv' := [(3, .int u30), (0, .ref a_o), (1, .int v1), (2, .int v2)]) hx hb dX12_road_33 rfl hl (by decide) rfl (fun ls hl => ?_)
        refine lv_iload_n hx hb dX12_road_34 rfl (lv_at hl 0 rfl) ?_
        refine lv_ldcw (v := 1000000) hx hb hown (hts _ ki_X12_314) dX12_road_35 ?_
        refine lv_icmp_lt (tgt := 50) hx hb dX12_road_38 (by decide) (fun hc => ?_) (fun hc => ?_)
        · have hf := it_t hc hf
          refine lv_aload_n hx hb dX12_road_50 rfl (lv_at hl 1 rfl) ?_
          refine lv_iload_n hx hb dX12_road_51 rfl (lv_at hl 0 rfl) ?_
          obtain ⟨u52, hu52, hf⟩ := bd hf
          refine callVI (wn := (wd_X12_road E a_o a_o_at a_o_names a_o_sort a_o_trayMany a_o_trays a_o_tape a_o_text a_o_opened a_o_farBy a_o_attendsBy a_o_coveredBy a_o_cameBy a_o_cameThen a_o_fallsBy a_o_loops a_o_ran a_o_told1 u52.2 o_top o_bottom o_taped o_size o_token o_from o_end o_value o_faultKind o_faultPlace o_faults o_seen o_toldParts o_depth o_counted o_becameThen o_firstCorner o_drawn o_ranSteps o_isTold o_marks o_at)) (n1 := 2) (ct_X12_gives l E a_o a_o_at a_o_names a_o_sort a_o_trayMany a_o_trays a_o_tape a_o_text a_o_opened a_o_farBy a_o_attendsBy a_o_coveredBy a_o_cameBy a_o_cameThen a_o_fallsBy a_o_loops a_o_ran a_o_told1 o_status o_top o_bottom o_taped o_size o_token o_from o_end o_value o_faultKind o_faultPlace o_faults o_seen o_toldParts o_depth o_counted o_becameThen o_firstCorner o_drawn o_ranSteps o_isTold o_marks u30 u52 hu52) [0] cal_X12_gives cav_X12_gives lk_X12_89 cx hP hD hS hl dX12_road_52 rfl rfl rfl rfl (Nat.le_of_ble_eq_true rfl) ⟨Nat.le_of_ble_eq_true rfl, Nat.le_of_ble_eq_true rfl⟩ rfl (by decide +kernel) rfl [some 0, none] rfl (by decide +kernel) rfl (fun H locs hP hD hS => ?_)
          obtain rfl := Option.some.inj hf
          subst hq
          exact retI cx hP hD hS dX12_road_55
        · have hf := it_f hc hf
          refine lv_aload_n hx hb dX12_road_41 rfl (lv_at hl 1 rfl) ?_
          refine lv_bipush (v := 6) hx hb dX12_road_42 (by decide) ?_
          obtain ⟨u44, hu44, hf⟩ := bd hf
          refine callVI (wn := (wd_X12_road E a_o a_o_at a_o_names a_o_sort a_o_trayMany a_o_trays a_o_tape a_o_text a_o_opened a_o_farBy a_o_attendsBy a_o_coveredBy a_o_cameBy a_o_cameThen a_o_fallsBy a_o_loops a_o_ran a_o_told1 u44.2 o_top o_bottom o_taped o_size o_token o_from o_end o_value o_faultKind o_faultPlace o_faults o_seen o_toldParts o_depth o_counted o_becameThen o_firstCorner o_drawn o_ranSteps o_isTold o_marks o_at)) (n1 := 2) (ct_X12_refuse l E a_o a_o_at a_o_names a_o_sort a_o_trayMany a_o_trays a_o_tape a_o_text a_o_opened a_o_farBy a_o_attendsBy a_o_coveredBy a_o_cameBy a_o_cameThen a_o_fallsBy a_o_loops a_o_ran a_o_told1 o_status o_top o_bottom o_taped o_size o_token o_from o_end o_value o_faultKind o_faultPlace o_faults o_seen o_toldParts o_depth o_counted o_becameThen o_firstCorner o_drawn o_ranSteps o_isTold o_marks (6 : Int32) u44 hu44) [0] cal_X12_refuse cav_X12_refuse lk_X12_85 cx hP hD hS hl dX12_road_44 rfl rfl rfl rfl (Nat.le_of_ble_eq_true rfl) ⟨Nat.le_of_ble_eq_true rfl, Nat.le_of_ble_eq_true rfl⟩ rfl (by decide +kernel) rfl [some 0, none] rfl (by decide +kernel) rfl (fun H locs hP hD hS => ?_)
          refine lv_goto (tgt := 55) hx hb dX12_road_47 (by decide) ?_
          obtain rfl := Option.some.inj hf
          subst hq
          exact retI cx hP hD hS dX12_road_55
      · have hf := it_t hc hf
        exact hj21 _ _ _ _ hf hP hD hS (lv_sub hl [0] rfl)
def X12_far_j16 (F : Nat) (o_status : Int32) (o_at : Nat → Int32) (o_farBy : Nat → Int32) : Option (Int32 × Int32 × (Nat → Int32)) :=
  (X12_refuse o_status (1 : Int32)).bind fun u18 =>
  some (u18.1, u18.2, o_farBy)
def X12_far (F : Nat) (o_status : Int32) (o_at : Nat → Int32) (o_farBy : Nat → Int32) (v1 : Int32) (v2 : Int32) : Option (Int32 × Int32 × (Nat → Int32)) :=
  (X12_isCorner o_at v1).bind fun u2 =>
  if u2 = 0 then
  X12_far_j16 F o_status o_at o_farBy
  else
  (X12_isCorner o_at v2).bind fun u10 =>
  if u10 = 0 then
  X12_far_j16 F o_status o_at o_farBy
  else
  (X12_laysFar F o_at o_farBy).bind fun u23 =>
  if ix ((8 * v1) + v2) 64 then
  if (jat u23 ((8 * v1) + v2)) < 1000000 then
  (X12_gives o_status (jat u23 ((8 * v1) + v2))).bind fun u56 =>
  some (u56.1, u56.2, u23)
  else
  (X12_refuse o_status (6 : Int32)).bind fun u48 =>
  some (u48.1, u48.2, u23)
  else none
abbrev wd_X12_far (E : vE) (a_o a_o_at a_o_names a_o_sort a_o_trayMany a_o_trays a_o_tape a_o_text a_o_opened a_o_farBy a_o_attendsBy a_o_coveredBy a_o_cameBy a_o_cameThen a_o_fallsBy a_o_loops a_o_ran a_o_told1 : Nat) (o_status : Int32) (o_top : Int64) (o_bottom : Int64) (o_taped : Int32) (o_size : Int32) (o_token : Int32) (o_from : Int32) (o_end : Int32) (o_value : Int32) (o_faultKind : Int32) (o_faultPlace : Int32) (o_faults : Int32) (o_seen : Int32) (o_toldParts : Int32) (o_depth : Int32) (o_counted : Int32) (o_becameThen : Int32) (o_firstCorner : Int32) (o_drawn : Int32) (o_ranSteps : Int32) (o_isTold : Int32) (o_marks : Int32) (o_at : Nat → Int32) (o_farBy : Nat → Int32) : va_W := [(a_o, .inr (12, [.ref a_o_at, .ref a_o_names, .int o_status, .long o_top, .long o_bottom, .ref a_o_sort, .ref a_o_trayMany, .ref a_o_trays, .ref a_o_tape, .ref a_o_text, .int o_taped, .int o_size, .int o_token, .int o_from, .int o_end, .int o_value, .int o_faultKind, .int o_faultPlace, .int o_faults, .int o_seen, .int o_toldParts, .ref a_o_opened, .int o_depth, .int o_counted, .ref a_o_farBy, .int o_becameThen, .ref a_o_attendsBy, .ref a_o_coveredBy, .ref a_o_cameBy, .ref a_o_cameThen, .int o_firstCorner, .ref a_o_fallsBy, .int o_drawn, .int o_ranSteps, .ref a_o_loops, .ref a_o_ran, .ref a_o_told1, .int o_isTold, .int o_marks])), (a_o_at, .inl (E.2.1, 3097, .inl o_at)), (a_o_farBy, .inl (E.2.1, 64, .inl o_farBy))]
set_option maxHeartbeats 4000000 in
set_option maxRecDepth 100000 in
theorem ct_X12_far (l : Launch) (E : vE) (F : Nat) (a_o a_o_at a_o_names a_o_sort a_o_trayMany a_o_trays a_o_tape a_o_text a_o_opened a_o_farBy a_o_attendsBy a_o_coveredBy a_o_cameBy a_o_cameThen a_o_fallsBy a_o_loops a_o_ran a_o_told1 : Nat) (o_status : Int32) (o_top : Int64) (o_bottom : Int64) (o_taped : Int32) (o_size : Int32) (o_token : Int32) (o_from : Int32) (o_end : Int32) (o_value : Int32) (o_faultKind : Int32) (o_faultPlace : Int32) (o_faults : Int32) (o_seen : Int32) (o_toldParts : Int32) (o_depth : Int32) (o_counted : Int32) (o_becameThen : Int32) (o_firstCorner : Int32) (o_drawn : Int32) (o_ranSteps : Int32) (o_isTold : Int32) (o_marks : Int32) (o_at : Nat → Int32) (o_farBy : Nat → Int32) (v1 : Int32) (v2 : Int32) (u : Int32 × Int32 × (Nat → Int32)) (hf : X12_far F o_status o_at o_farBy v1 v2 = some u) :
    CtI l yX12_far cX12_far 4 (some .int) 3 E [.ref a_o, .int v1, .int v2] (wd_X12_far E a_o a_o_at a_o_names a_o_sort a_o_trayMany a_o_trays a_o_tape a_o_text a_o_opened a_o_farBy a_o_attendsBy a_o_coveredBy a_o_cameBy a_o_cameThen a_o_fallsBy a_o_loops a_o_ran a_o_told1 o_status o_top o_bottom o_taped o_size o_token o_from o_end o_value o_faultKind o_faultPlace o_faults o_seen o_toldParts o_depth o_counted o_becameThen o_firstCorner o_drawn o_ranSteps o_isTold o_marks o_at o_farBy) (wd_X12_far E a_o a_o_at a_o_names a_o_sort a_o_trayMany a_o_trays a_o_tape a_o_text a_o_opened a_o_farBy a_o_attendsBy a_o_coveredBy a_o_cameBy a_o_cameThen a_o_fallsBy a_o_loops a_o_ran a_o_told1 u.2.1 o_top o_bottom o_taped o_size o_token o_from o_end o_value o_faultKind o_faultPlace o_faults o_seen o_toldParts o_depth o_counted o_becameThen o_firstCorner o_drawn o_ranSteps o_isTold o_marks o_at u.2.2) u.1 := by
  refine ctI (by decide) (Nat.le_of_ble_eq_true rfl) ?_
  intro p e s m below meth cd A ls aa QQ hq cx hP hD hS hl
  obtain ⟨⟨hx, hb, hml, hown, hts⟩, hr, hlocks, hK, hA, hX⟩ := id cx
  have hl : lv_has ls 4 [(0, .ref a_o), (1, .int v1), (2, .int v2)] := hl
  have hj16 : ∀ (o_status_j16 : Int32) (o_farBy_j16 : Nat → Int32) (H : Heap) (locs : List Loc) (ls : Array Slot), X12_far_j16 F o_status_j16 o_at o_farBy_j16 = some u → va_P E.1 vwCl (wd_X12_far E a_o a_o_at a_o_names a_o_sort a_o_trayMany a_o_trays a_o_tape a_o_text a_o_opened a_o_farBy a_o_attendsBy a_o_coveredBy a_o_cameBy a_o_cameThen a_o_fallsBy a_o_loops a_o_ran a_o_told1 o_status_j16 o_top o_bottom o_taped o_size o_token o_from o_end o_value o_faultKind o_faultPlace o_faults o_seen o_toldParts o_depth o_counted o_becameThen o_firstCorner o_drawn o_ranSteps o_isTold o_marks o_at o_farBy_j16) H → va_D A (wd_X12_far E a_o a_o_at a_o_names a_o_sort a_o_trayMany a_o_trays a_o_tape a_o_text a_o_opened a_o_farBy a_o_attendsBy a_o_coveredBy a_o_cameBy a_o_cameThen a_o_fallsBy a_o_loops a_o_ran a_o_told1 o_status_j16 o_top o_bottom o_taped o_size o_token o_from o_end o_value o_faultKind o_faultPlace o_faults o_seen o_toldParts o_depth o_counted o_becameThen o_firstCorner o_drawn o_ranSteps o_isTold o_marks o_at o_farBy_j16) → va_S A s.heap H locs → lv_has ls 4 [(0, .ref a_o)] → W p l e (rmd 3) s m aa below meth cd H locs 0 0 QQ (F0 m 16 ls []) := by
    intro o_status_j16 o_farBy_j16 H locs ls hf hP hD hS hl
    unfold X12_far_j16 at hf
    refine lv_aload_n hx hb dX12_far_16 rfl (lv_at hl 0 rfl) ?_
    refine lv_iconst (v := 1) hx hb dX12_far_17 (by decide) ?_
    obtain ⟨u18, hu18, hf⟩ := bd hf
    refine callVI (wn := (wd_X12_far E a_o a_o_at a_o_names a_o_sort a_o_trayMany a_o_trays a_o_tape a_o_text a_o_opened a_o_farBy a_o_attendsBy a_o_coveredBy a_o_cameBy a_o_cameThen a_o_fallsBy a_o_loops a_o_ran a_o_told1 u18.2 o_top o_bottom o_taped o_size o_token o_from o_end o_value o_faultKind o_faultPlace o_faults o_seen o_toldParts o_depth o_counted o_becameThen o_firstCorner o_drawn o_ranSteps o_isTold o_marks o_at o_farBy_j16)) (n1 := 3) (ct_X12_refuse l E a_o a_o_at a_o_names a_o_sort a_o_trayMany a_o_trays a_o_tape a_o_text a_o_opened a_o_farBy a_o_attendsBy a_o_coveredBy a_o_cameBy a_o_cameThen a_o_fallsBy a_o_loops a_o_ran a_o_told1 o_status_j16 o_top o_bottom o_taped o_size o_token o_from o_end o_value o_faultKind o_faultPlace o_faults o_seen o_toldParts o_depth o_counted o_becameThen o_firstCorner o_drawn o_ranSteps o_isTold o_marks (1 : Int32) u18 hu18) [0] cal_X12_refuse cav_X12_refuse lk_X12_85 cx hP hD hS hl dX12_far_18 rfl rfl rfl rfl (Nat.le_of_ble_eq_true rfl) ⟨Nat.le_of_ble_eq_true rfl, Nat.le_of_ble_eq_true rfl⟩ rfl (by decide +kernel) rfl [some 0, none, none] rfl (by decide +kernel) rfl (fun H locs hP hD hS => ?_)
    obtain rfl := Option.some.inj hf
    subst hq
    exact retI cx hP hD hS dX12_far_21
  unfold X12_far at hf
  refine lv_aload_n hx hb dX12_far_0 rfl (lv_at hl 0 rfl) ?_
  refine lv_iload_n hx hb dX12_far_1 rfl (lv_at hl 1 rfl) ?_
  obtain ⟨u2, hu2, hf⟩ := bd hf
  refine keepVI (ct_X12_isCorner l E a_o a_o_at a_o_names a_o_sort a_o_trayMany a_o_trays a_o_tape a_o_text a_o_opened a_o_farBy a_o_attendsBy a_o_coveredBy a_o_cameBy a_o_cameThen a_o_fallsBy a_o_loops a_o_ran a_o_told1 o_status o_top o_bottom o_taped o_size o_token o_from o_end o_value o_faultKind o_faultPlace o_faults o_seen o_toldParts o_depth o_counted o_becameThen o_firstCorner o_drawn o_ranSteps o_isTold o_marks o_at v1 u2 hu2) [0, 1] cal_X12_isCorner cav_X12_isCorner lk_X12_311 cx hP hD hS hl dX12_far_2 rfl rfl rfl rfl (Nat.le_of_ble_eq_true rfl) ⟨Nat.le_of_ble_eq_true rfl, Nat.le_of_ble_eq_true rfl⟩ rfl (by decide) (fun H locs hP hS => ?_)
  refine lv_if_eq (tgt := 16) hx hb dX12_far_5 (by decide) (fun hc => ?_) (fun hc => ?_)
  · have hf := it_t hc hf
    exact hj16 _ _ _ _ _ hf hP hD hS (lv_sub hl [0] rfl)
  · have hf := it_f hc hf
    refine lv_aload_n hx hb dX12_far_8 rfl (lv_at hl 0 rfl) ?_
    refine lv_iload_n hx hb dX12_far_9 rfl (lv_at hl 2 rfl) ?_
    obtain ⟨u10, hu10, hf⟩ := bd hf
    refine keepVI (ct_X12_isCorner l E a_o a_o_at a_o_names a_o_sort a_o_trayMany a_o_trays a_o_tape a_o_text a_o_opened a_o_farBy a_o_attendsBy a_o_coveredBy a_o_cameBy a_o_cameThen a_o_fallsBy a_o_loops a_o_ran a_o_told1 o_status o_top o_bottom o_taped o_size o_token o_from o_end o_value o_faultKind o_faultPlace o_faults o_seen o_toldParts o_depth o_counted o_becameThen o_firstCorner o_drawn o_ranSteps o_isTold o_marks o_at v2 u10 hu10) [0, 1] cal_X12_isCorner cav_X12_isCorner lk_X12_311 cx hP hD hS hl dX12_far_10 rfl rfl rfl rfl (Nat.le_of_ble_eq_true rfl) ⟨Nat.le_of_ble_eq_true rfl, Nat.le_of_ble_eq_true rfl⟩ rfl (by decide) (fun H locs hP hS => ?_)
    refine lv_if_ne (tgt := 22) hx hb dX12_far_13 (by decide) (fun hc => ?_) (fun hc => ?_)
    · have hf := it_f hc hf
      refine lv_aload_n hx hb dX12_far_22 rfl (lv_at hl 0 rfl) ?_
      obtain ⟨u23, hu23, hf⟩ := bd hf
      refine callVV (wn := (wd_X12_far E a_o a_o_at a_o_names a_o_sort a_o_trayMany a_o_trays a_o_tape a_o_text a_o_opened a_o_farBy a_o_attendsBy a_o_coveredBy a_o_cameBy a_o_cameThen a_o_fallsBy a_o_loops a_o_ran a_o_told1 o_status o_top o_bottom o_taped o_size o_token o_from o_end o_value o_faultKind o_faultPlace o_faults o_seen o_toldParts o_depth o_counted o_becameThen o_firstCorner o_drawn o_ranSteps o_isTold o_marks o_at u23)) (n1 := 3) (ct_X12_laysFar l E F a_o a_o_at a_o_names a_o_sort a_o_trayMany a_o_trays a_o_tape a_o_text a_o_opened a_o_farBy a_o_attendsBy a_o_coveredBy a_o_cameBy a_o_cameThen a_o_fallsBy a_o_loops a_o_ran a_o_told1 o_status o_top o_bottom o_taped o_size o_token o_from o_end o_value o_faultKind o_faultPlace o_faults o_seen o_toldParts o_depth o_counted o_becameThen o_firstCorner o_drawn o_ranSteps o_isTold o_marks o_at o_farBy u23 hu23) [0, 1, 2] cal_X12_laysFar cav_X12_laysFar lk_X12_318 cx hP hD hS hl dX12_far_23 rfl rfl rfl rfl (Nat.le_of_ble_eq_true rfl) ⟨Nat.le_of_ble_eq_true rfl, Nat.le_of_ble_eq_true rfl⟩ rfl (by decide +kernel) rfl [some 0, some 1, some 2] rfl (by decide +kernel) rfl (fun H locs hP hD hS => ?_)
      refine lv_aload_n hx hb dX12_far_26 rfl (lv_at hl 0 rfl) ?_
      refine va_get (D := E.1) (ci := 12) (v := .ref a_o_farBy) (C := RX12) (T := TX12) (N := 39) hx hb hts inX12 hown hK hP 0 rfl rfl 24 (by decide) (hts _ fl_X12_47) (fun _ h9 => h9) rfl dX12_far_27 ?_
      refine lv_bipush (v := 8) hx hb dX12_far_30 (by decide) ?_
      refine lv_iload_n hx hb dX12_far_32 rfl (lv_at hl 1 rfl) ?_
      refine lv_imul hx hb dX12_far_33 ?_
      refine lv_iload_n hx hb dX12_far_34 rfl (lv_at hl 2 rfl) ?_
      refine lv_iadd hx hb dX12_far_35 ?_
      obtain ⟨hi, hf⟩ := ck hf
      refine r_iald 2 cx hP rfl hi dX12_far_36 ?_
      refine lv_istore_n (lv' := [(3, .int (jat u23 ((8 * v1) + v2))), (0, .ref a_o), (1, .int v1), (2, .int v2)]) hx hb dX12_far_37 rfl hl (by decide) rfl (fun ls hl => ?_)
      refine lv_iload_n hx hb dX12_far_38 rfl (lv_at hl 0 rfl) ?_
      refine lv_ldcw (v := 1000000) hx hb hown (hts _ ki_X12_314) dX12_far_39 ?_
      refine lv_icmp_lt (tgt := 54) hx hb dX12_far_42 (by decide) (fun hc => ?_) (fun hc => ?_)
      · have hf := it_t hc hf
        refine lv_aload_n hx hb dX12_far_54 rfl (lv_at hl 1 rfl) ?_
        refine lv_iload_n hx hb dX12_far_55 rfl (lv_at hl 0 rfl) ?_
        obtain ⟨u56, hu56, hf⟩ := bd hf
        refine callVI (wn := (wd_X12_far E a_o a_o_at a_o_names a_o_sort a_o_trayMany a_o_trays a_o_tape a_o_text a_o_opened a_o_farBy a_o_attendsBy a_o_coveredBy a_o_cameBy a_o_cameThen a_o_fallsBy a_o_loops a_o_ran a_o_told1 u56.2 o_top o_bottom o_taped o_size o_token o_from o_end o_value o_faultKind o_faultPlace o_faults o_seen o_toldParts o_depth o_counted o_becameThen o_firstCorner o_drawn o_ranSteps o_isTold o_marks o_at u23)) (n1 := 3) (ct_X12_gives l E a_o a_o_at a_o_names a_o_sort a_o_trayMany a_o_trays a_o_tape a_o_text a_o_opened a_o_farBy a_o_attendsBy a_o_coveredBy a_o_cameBy a_o_cameThen a_o_fallsBy a_o_loops a_o_ran a_o_told1 o_status o_top o_bottom o_taped o_size o_token o_from o_end o_value o_faultKind o_faultPlace o_faults o_seen o_toldParts o_depth o_counted o_becameThen o_firstCorner o_drawn o_ranSteps o_isTold o_marks (jat u23 ((8 * v1) + v2)) u56 hu56) [0] cal_X12_gives cav_X12_gives lk_X12_89 cx hP hD hS hl dX12_far_56 rfl rfl rfl rfl (Nat.le_of_ble_eq_true rfl) ⟨Nat.le_of_ble_eq_true rfl, Nat.le_of_ble_eq_true rfl⟩ rfl (by decide +kernel) rfl [some 0, none, none] rfl (by decide +kernel) rfl (fun H locs hP hD hS => ?_)
        obtain rfl := Option.some.inj hf
        subst hq
        exact retI cx hP hD hS dX12_far_59
      · have hf := it_f hc hf
        refine lv_aload_n hx hb dX12_far_45 rfl (lv_at hl 1 rfl) ?_
        refine lv_bipush (v := 6) hx hb dX12_far_46 (by decide) ?_
        obtain ⟨u48, hu48, hf⟩ := bd hf
        refine callVI (wn := (wd_X12_far E a_o a_o_at a_o_names a_o_sort a_o_trayMany a_o_trays a_o_tape a_o_text a_o_opened a_o_farBy a_o_attendsBy a_o_coveredBy a_o_cameBy a_o_cameThen a_o_fallsBy a_o_loops a_o_ran a_o_told1 u48.2 o_top o_bottom o_taped o_size o_token o_from o_end o_value o_faultKind o_faultPlace o_faults o_seen o_toldParts o_depth o_counted o_becameThen o_firstCorner o_drawn o_ranSteps o_isTold o_marks o_at u23)) (n1 := 3) (ct_X12_refuse l E a_o a_o_at a_o_names a_o_sort a_o_trayMany a_o_trays a_o_tape a_o_text a_o_opened a_o_farBy a_o_attendsBy a_o_coveredBy a_o_cameBy a_o_cameThen a_o_fallsBy a_o_loops a_o_ran a_o_told1 o_status o_top o_bottom o_taped o_size o_token o_from o_end o_value o_faultKind o_faultPlace o_faults o_seen o_toldParts o_depth o_counted o_becameThen o_firstCorner o_drawn o_ranSteps o_isTold o_marks (6 : Int32) u48 hu48) [0] cal_X12_refuse cav_X12_refuse lk_X12_85 cx hP hD hS hl dX12_far_48 rfl rfl rfl rfl (Nat.le_of_ble_eq_true rfl) ⟨Nat.le_of_ble_eq_true rfl, Nat.le_of_ble_eq_true rfl⟩ rfl (by decide +kernel) rfl [some 0, none, none] rfl (by decide +kernel) rfl (fun H locs hP hD hS => ?_)
        refine lv_goto (tgt := 59) hx hb dX12_far_51 (by decide) ?_
        obtain rfl := Option.some.inj hf
        subst hq
        exact retI cx hP hD hS dX12_far_59
    · have hf := it_t hc hf
      exact hj16 _ _ _ _ _ hf hP hD hS (lv_sub hl [0] rfl)
