def X12_way_j16 (F : Nat) (o_status : Int32) (o_at : Nat → Int32) (o_farBy : Nat → Int32) : Option (Int32 × Int32 × (Nat → Int32)) :=
  (X12_refuse o_status (1 : Int32)).bind fun u18 =>
  some (u18.1, u18.2, o_farBy)
def X12_way (F : Nat) (o_status : Int32) (o_at : Nat → Int32) (o_farBy : Nat → Int32) (v1 : Int32) (v2 : Int32) : Option (Int32 × Int32 × (Nat → Int32)) :=
  (X12_isCorner o_at v1).bind fun u2 =>
  if u2 = 0 then
  X12_way_j16 F o_status o_at o_farBy
  else
  (X12_isCorner o_at v2).bind fun u10 =>
  if u10 = 0 then
  X12_way_j16 F o_status o_at o_farBy
  else
  if v1 = v2 then
  (X12_refuse o_status (7 : Int32)).bind fun u30 =>
  some (u30.1, u30.2, o_farBy)
  else
  (X12_laysFar F o_at o_farBy).bind fun u35 =>
  (X12_wayTo F o_at u35 v1 v2).bind fun u42 =>
  (X12_orNone o_status u42).bind fun u45 =>
  some (u45.1, u45.2, u35)
abbrev wd_X12_way (E : vE) (a_o a_o_at a_o_names a_o_sort a_o_trayMany a_o_trays a_o_tape a_o_text a_o_opened a_o_farBy a_o_attendsBy a_o_coveredBy a_o_cameBy a_o_cameThen a_o_fallsBy a_o_loops a_o_ran a_o_told1 : Nat) (o_status : Int32) (o_top : Int64) (o_bottom : Int64) (o_taped : Int32) (o_size : Int32) (o_token : Int32) (o_from : Int32) (o_end : Int32) (o_value : Int32) (o_faultKind : Int32) (o_faultPlace : Int32) (o_faults : Int32) (o_seen : Int32) (o_toldParts : Int32) (o_depth : Int32) (o_counted : Int32) (o_becameThen : Int32) (o_firstCorner : Int32) (o_drawn : Int32) (o_ranSteps : Int32) (o_isTold : Int32) (o_marks : Int32) (o_at : Nat → Int32) (o_farBy : Nat → Int32) : va_W := [(a_o, .inr (12, [.ref a_o_at, .ref a_o_names, .int o_status, .long o_top, .long o_bottom, .ref a_o_sort, .ref a_o_trayMany, .ref a_o_trays, .ref a_o_tape, .ref a_o_text, .int o_taped, .int o_size, .int o_token, .int o_from, .int o_end, .int o_value, .int o_faultKind, .int o_faultPlace, .int o_faults, .int o_seen, .int o_toldParts, .ref a_o_opened, .int o_depth, .int o_counted, .ref a_o_farBy, .int o_becameThen, .ref a_o_attendsBy, .ref a_o_coveredBy, .ref a_o_cameBy, .ref a_o_cameThen, .int o_firstCorner, .ref a_o_fallsBy, .int o_drawn, .int o_ranSteps, .ref a_o_loops, .ref a_o_ran, .ref a_o_told1, .int o_isTold, .int o_marks])), (a_o_at, .inl (E.2.1, 3097, .inl o_at)), (a_o_farBy, .inl (E.2.1, 64, .inl o_farBy))]
set_option maxHeartbeats 4000000 in
set_option maxRecDepth 100000 in
theorem ct_X12_way (l : Launch) (E : vE) (F : Nat) (a_o a_o_at a_o_names a_o_sort a_o_trayMany a_o_trays a_o_tape a_o_text a_o_opened a_o_farBy a_o_attendsBy a_o_coveredBy a_o_cameBy a_o_cameThen a_o_fallsBy a_o_loops a_o_ran a_o_told1 : Nat) (o_status : Int32) (o_top : Int64) (o_bottom : Int64) (o_taped : Int32) (o_size : Int32) (o_token : Int32) (o_from : Int32) (o_end : Int32) (o_value : Int32) (o_faultKind : Int32) (o_faultPlace : Int32) (o_faults : Int32) (o_seen : Int32) (o_toldParts : Int32) (o_depth : Int32) (o_counted : Int32) (o_becameThen : Int32) (o_firstCorner : Int32) (o_drawn : Int32) (o_ranSteps : Int32) (o_isTold : Int32) (o_marks : Int32) (o_at : Nat → Int32) (o_farBy : Nat → Int32) (v1 : Int32) (v2 : Int32) (u : Int32 × Int32 × (Nat → Int32)) (hf : X12_way F o_status o_at o_farBy v1 v2 = some u) :
    CtI l yX12_way cX12_way 3 (some .int) 3 E [.ref a_o, .int v1, .int v2] (wd_X12_way E a_o a_o_at a_o_names a_o_sort a_o_trayMany a_o_trays a_o_tape a_o_text a_o_opened a_o_farBy a_o_attendsBy a_o_coveredBy a_o_cameBy a_o_cameThen a_o_fallsBy a_o_loops a_o_ran a_o_told1 o_status o_top o_bottom o_taped o_size o_token o_from o_end o_value o_faultKind o_faultPlace o_faults o_seen o_toldParts o_depth o_counted o_becameThen o_firstCorner o_drawn o_ranSteps o_isTold o_marks o_at o_farBy) (wd_X12_way E a_o a_o_at a_o_names a_o_sort a_o_trayMany a_o_trays a_o_tape a_o_text a_o_opened a_o_farBy a_o_attendsBy a_o_coveredBy a_o_cameBy a_o_cameThen a_o_fallsBy a_o_loops a_o_ran a_o_told1 u.2.1 o_top o_bottom o_taped o_size o_token o_from o_end o_value o_faultKind o_faultPlace o_faults o_seen o_toldParts o_depth o_counted o_becameThen o_firstCorner o_drawn o_ranSteps o_isTold o_marks o_at u.2.2) u.1 := by
  refine ctI (by decide) (Nat.le_of_ble_eq_true rfl) ?_
  intro p e s m below meth cd A ls aa QQ hq cx hP hD hS hl
  obtain ⟨⟨hx, hb, hml, hown, hts⟩, hr, hlocks, hK, hA, hX⟩ := id cx
  have hl : lv_has ls 3 [(0, .ref a_o), (1, .int v1), (2, .int v2)] := hl
  have hj16 : ∀ (o_status_j16 : Int32) (o_farBy_j16 : Nat → Int32) (H : Heap) (locs : List Loc) (ls : Array Slot), X12_way_j16 F o_status_j16 o_at o_farBy_j16 = some u → va_P E.1 vwCl (wd_X12_way E a_o a_o_at a_o_names a_o_sort a_o_trayMany a_o_trays a_o_tape a_o_text a_o_opened a_o_farBy a_o_attendsBy a_o_coveredBy a_o_cameBy a_o_cameThen a_o_fallsBy a_o_loops a_o_ran a_o_told1 o_status_j16 o_top o_bottom o_taped o_size o_token o_from o_end o_value o_faultKind o_faultPlace o_faults o_seen o_toldParts o_depth o_counted o_becameThen o_firstCorner o_drawn o_ranSteps o_isTold o_marks o_at o_farBy_j16) H → va_D A (wd_X12_way E a_o a_o_at a_o_names a_o_sort a_o_trayMany a_o_trays a_o_tape a_o_text a_o_opened a_o_farBy a_o_attendsBy a_o_coveredBy a_o_cameBy a_o_cameThen a_o_fallsBy a_o_loops a_o_ran a_o_told1 o_status_j16 o_top o_bottom o_taped o_size o_token o_from o_end o_value o_faultKind o_faultPlace o_faults o_seen o_toldParts o_depth o_counted o_becameThen o_firstCorner o_drawn o_ranSteps o_isTold o_marks o_at o_farBy_j16) → va_S A s.heap H locs → lv_has ls 3 [(0, .ref a_o)] → W p l e (rmd 3) s m aa below meth cd H locs 0 0 QQ (F0 m 16 ls []) := by
    intro o_status_j16 o_farBy_j16 H locs ls hf hP hD hS hl
    unfold X12_way_j16 at hf
    refine lv_aload_n hx hb dX12_way_16 rfl (lv_at hl 0 rfl) ?_
    refine lv_iconst (v := 1) hx hb dX12_way_17 (by decide) ?_
    obtain ⟨u18, hu18, hf⟩ := bd hf
    refine callVI (wn := (wd_X12_way E a_o a_o_at a_o_names a_o_sort a_o_trayMany a_o_trays a_o_tape a_o_text a_o_opened a_o_farBy a_o_attendsBy a_o_coveredBy a_o_cameBy a_o_cameThen a_o_fallsBy a_o_loops a_o_ran a_o_told1 u18.2 o_top o_bottom o_taped o_size o_token o_from o_end o_value o_faultKind o_faultPlace o_faults o_seen o_toldParts o_depth o_counted o_becameThen o_firstCorner o_drawn o_ranSteps o_isTold o_marks o_at o_farBy_j16)) (n1 := 3) (ct_X12_refuse l E a_o a_o_at a_o_names a_o_sort a_o_trayMany a_o_trays a_o_tape a_o_text a_o_opened a_o_farBy a_o_attendsBy a_o_coveredBy a_o_cameBy a_o_cameThen a_o_fallsBy a_o_loops a_o_ran a_o_told1 o_status_j16 o_top o_bottom o_taped o_size o_token o_from o_end o_value o_faultKind o_faultPlace o_faults o_seen o_toldParts o_depth o_counted o_becameThen o_firstCorner o_drawn o_ranSteps o_isTold o_marks (1 : Int32) u18 hu18) [0] cal_X12_refuse cav_X12_refuse lk_X12_85 cx hP hD hS hl dX12_way_18 rfl rfl rfl rfl (Nat.le_of_ble_eq_true rfl) ⟨Nat.le_of_ble_eq_true rfl, Nat.le_of_ble_eq_true rfl⟩ rfl (by decide +kernel) rfl [some 0, none, none] rfl (by decide +kernel) rfl (fun H locs hP hD hS => ?_)
    obtain rfl := Option.some.inj hf
    subst hq
    exact retI cx hP hD hS dX12_way_21
  unfold X12_way at hf
  refine lv_aload_n hx hb dX12_way_0 rfl (lv_at hl 0 rfl) ?_
  refine lv_iload_n hx hb dX12_way_1 rfl (lv_at hl 1 rfl) ?_
  obtain ⟨u2, hu2, hf⟩ := bd hf
  refine keepVI (ct_X12_isCorner l E a_o a_o_at a_o_names a_o_sort a_o_trayMany a_o_trays a_o_tape a_o_text a_o_opened a_o_farBy a_o_attendsBy a_o_coveredBy a_o_cameBy a_o_cameThen a_o_fallsBy a_o_loops a_o_ran a_o_told1 o_status o_top o_bottom o_taped o_size o_token o_from o_end o_value o_faultKind o_faultPlace o_faults o_seen o_toldParts o_depth o_counted o_becameThen o_firstCorner o_drawn o_ranSteps o_isTold o_marks o_at v1 u2 hu2) [0, 1] cal_X12_isCorner cav_X12_isCorner lk_X12_311 cx hP hD hS hl dX12_way_2 rfl rfl rfl rfl (Nat.le_of_ble_eq_true rfl) ⟨Nat.le_of_ble_eq_true rfl, Nat.le_of_ble_eq_true rfl⟩ rfl (by decide) (fun H locs hP hS => ?_)
  refine lv_if_eq (tgt := 16) hx hb dX12_way_5 (by decide) (fun hc => ?_) (fun hc => ?_)
  · have hf := it_t hc hf
    exact hj16 _ _ _ _ _ hf hP hD hS (lv_sub hl [0] rfl)
  · have hf := it_f hc hf
    refine lv_aload_n hx hb dX12_way_8 rfl (lv_at hl 0 rfl) ?_
    refine lv_iload_n hx hb dX12_way_9 rfl (lv_at hl 2 rfl) ?_
    obtain ⟨u10, hu10, hf⟩ := bd hf
    refine keepVI (ct_X12_isCorner l E a_o a_o_at a_o_names a_o_sort a_o_trayMany a_o_trays a_o_tape a_o_text a_o_opened a_o_farBy a_o_attendsBy a_o_coveredBy a_o_cameBy a_o_cameThen a_o_fallsBy a_o_loops a_o_ran a_o_told1 o_status o_top o_bottom o_taped o_size o_token o_from o_end o_value o_faultKind o_faultPlace o_faults o_seen o_toldParts o_depth o_counted o_becameThen o_firstCorner o_drawn o_ranSteps o_isTold o_marks o_at v2 u10 hu10) [0, 1] cal_X12_isCorner cav_X12_isCorner lk_X12_311 cx hP hD hS hl dX12_way_10 rfl rfl rfl rfl (Nat.le_of_ble_eq_true rfl) ⟨Nat.le_of_ble_eq_true rfl, Nat.le_of_ble_eq_true rfl⟩ rfl (by decide) (fun H locs hP hS => ?_)
    refine lv_if_ne (tgt := 22) hx hb dX12_way_13 (by decide) (fun hc => ?_) (fun hc => ?_)
    · have hf := it_f hc hf
      refine lv_iload_n hx hb dX12_way_22 rfl (lv_at hl 1 rfl) ?_
      refine lv_iload_n hx hb dX12_way_23 rfl (lv_at hl 2 rfl) ?_
      refine lv_icmp_ne (tgt := 34) hx hb dX12_way_24 (by decide) (fun hc => ?_) (fun hc => ?_)
      · have hf := it_f hc hf
        refine lv_aload_n hx hb dX12_way_34 rfl (lv_at hl 0 rfl) ?_
        obtain ⟨u35, hu35, hf⟩ := bd hf
        refine callVV (wn := (wd_X12_way E a_o a_o_at a_o_names a_o_sort a_o_trayMany a_o_trays a_o_tape a_o_text a_o_opened a_o_farBy a_o_attendsBy a_o_coveredBy a_o_cameBy a_o_cameThen a_o_fallsBy a_o_loops a_o_ran a_o_told1 o_status o_top o_bottom o_taped o_size o_token o_from o_end o_value o_faultKind o_faultPlace o_faults o_seen o_toldParts o_depth o_counted o_becameThen o_firstCorner o_drawn o_ranSteps o_isTold o_marks o_at u35)) (n1 := 3) (ct_X12_laysFar l E F a_o a_o_at a_o_names a_o_sort a_o_trayMany a_o_trays a_o_tape a_o_text a_o_opened a_o_farBy a_o_attendsBy a_o_coveredBy a_o_cameBy a_o_cameThen a_o_fallsBy a_o_loops a_o_ran a_o_told1 o_status o_top o_bottom o_taped o_size o_token o_from o_end o_value o_faultKind o_faultPlace o_faults o_seen o_toldParts o_depth o_counted o_becameThen o_firstCorner o_drawn o_ranSteps o_isTold o_marks o_at o_farBy u35 hu35) [0, 1, 2] cal_X12_laysFar cav_X12_laysFar lk_X12_318 cx hP hD hS hl dX12_way_35 rfl rfl rfl rfl (Nat.le_of_ble_eq_true rfl) ⟨Nat.le_of_ble_eq_true rfl, Nat.le_of_ble_eq_true rfl⟩ rfl (by decide +kernel) rfl [some 0, some 1, some 2] rfl (by decide +kernel) rfl (fun H locs hP hD hS => ?_)
        refine lv_aload_n hx hb dX12_way_38 rfl (lv_at hl 0 rfl) ?_
        refine lv_aload_n hx hb dX12_way_39 rfl (lv_at hl 0 rfl) ?_
        refine lv_iload_n hx hb dX12_way_40 rfl (lv_at hl 1 rfl) ?_
        refine lv_iload_n hx hb dX12_way_41 rfl (lv_at hl 2 rfl) ?_
        obtain ⟨u42, hu42, hf⟩ := bd hf
        refine keepVI (ct_X12_wayTo l E F a_o a_o_at a_o_names a_o_sort a_o_trayMany a_o_trays a_o_tape a_o_text a_o_opened a_o_farBy a_o_attendsBy a_o_coveredBy a_o_cameBy a_o_cameThen a_o_fallsBy a_o_loops a_o_ran a_o_told1 o_status o_top o_bottom o_taped o_size o_token o_from o_end o_value o_faultKind o_faultPlace o_faults o_seen o_toldParts o_depth o_counted o_becameThen o_firstCorner o_drawn o_ranSteps o_isTold o_marks o_at u35 v1 v2 u42 hu42) [0, 1, 2] cal_X12_wayTo cav_X12_wayTo lk_X12_321 cx hP hD hS hl dX12_way_42 rfl rfl rfl rfl (Nat.le_of_ble_eq_true rfl) ⟨Nat.le_of_ble_eq_true rfl, Nat.le_of_ble_eq_true rfl⟩ rfl (by decide) (fun H locs hP hS => ?_)
        obtain ⟨u45, hu45, hf⟩ := bd hf
        refine callVI (wn := (wd_X12_way E a_o a_o_at a_o_names a_o_sort a_o_trayMany a_o_trays a_o_tape a_o_text a_o_opened a_o_farBy a_o_attendsBy a_o_coveredBy a_o_cameBy a_o_cameThen a_o_fallsBy a_o_loops a_o_ran a_o_told1 u45.2 o_top o_bottom o_taped o_size o_token o_from o_end o_value o_faultKind o_faultPlace o_faults o_seen o_toldParts o_depth o_counted o_becameThen o_firstCorner o_drawn o_ranSteps o_isTold o_marks o_at u35)) (n1 := 3) (ct_X12_orNone l E a_o a_o_at a_o_names a_o_sort a_o_trayMany a_o_trays a_o_tape a_o_text a_o_opened a_o_farBy a_o_attendsBy a_o_coveredBy a_o_cameBy a_o_cameThen a_o_fallsBy a_o_loops a_o_ran a_o_told1 o_status o_top o_bottom o_taped o_size o_token o_from o_end o_value o_faultKind o_faultPlace o_faults o_seen o_toldParts o_depth o_counted o_becameThen o_firstCorner o_drawn o_ranSteps o_isTold o_marks u42 u45 hu45) [0] cal_X12_orNone cav_X12_orNone lk_X12_324 cx hP hD hS hl dX12_way_45 rfl rfl rfl rfl (Nat.le_of_ble_eq_true rfl) ⟨Nat.le_of_ble_eq_true rfl, Nat.le_of_ble_eq_true rfl⟩ rfl (by decide +kernel) rfl [some 0, none, none] rfl (by decide +kernel) rfl (fun H locs hP hD hS => ?_)
        obtain rfl := Option.some.inj hf
        subst hq
        exact retI cx hP hD hS dX12_way_48
      · have hf := it_t hc hf
        refine lv_aload_n hx hb dX12_way_27 rfl (lv_at hl 0 rfl) ?_
        refine lv_bipush (v := 7) hx hb dX12_way_28 (by decide) ?_
        obtain ⟨u30, hu30, hf⟩ := bd hf
        refine callVI (wn := (wd_X12_way E a_o a_o_at a_o_names a_o_sort a_o_trayMany a_o_trays a_o_tape a_o_text a_o_opened a_o_farBy a_o_attendsBy a_o_coveredBy a_o_cameBy a_o_cameThen a_o_fallsBy a_o_loops a_o_ran a_o_told1 u30.2 o_top o_bottom o_taped o_size o_token o_from o_end o_value o_faultKind o_faultPlace o_faults o_seen o_toldParts o_depth o_counted o_becameThen o_firstCorner o_drawn o_ranSteps o_isTold o_marks o_at o_farBy)) (n1 := 3) (ct_X12_refuse l E a_o a_o_at a_o_names a_o_sort a_o_trayMany a_o_trays a_o_tape a_o_text a_o_opened a_o_farBy a_o_attendsBy a_o_coveredBy a_o_cameBy a_o_cameThen a_o_fallsBy a_o_loops a_o_ran a_o_told1 o_status o_top o_bottom o_taped o_size o_token o_from o_end o_value o_faultKind o_faultPlace o_faults o_seen o_toldParts o_depth o_counted o_becameThen o_firstCorner o_drawn o_ranSteps o_isTold o_marks (7 : Int32) u30 hu30) [0] cal_X12_refuse cav_X12_refuse lk_X12_85 cx hP hD hS hl dX12_way_30 rfl rfl rfl rfl (Nat.le_of_ble_eq_true rfl) ⟨Nat.le_of_ble_eq_true rfl, Nat.le_of_ble_eq_true rfl⟩ rfl (by decide +kernel) rfl [some 0, none, none] rfl (by decide +kernel) rfl (fun H locs hP hD hS => ?_)
        obtain rfl := Option.some.inj hf
        subst hq
        exact retI cx hP hD hS dX12_way_33
    · have hf := it_t hc hf
      exact hj16 _ _ _ _ _ hf hP hD hS (lv_sub hl [0] rfl)
def X12_centre_j82 (F : Nat) (o_status : Int32) (o_at : Nat → Int32) (o_farBy : Nat → Int32) (v1 : Int32) (v2 : Int32) (v3 : Int32) : Option ((Int32 × Int32 × Int32) ⊕ ((Int32))) :=
  some (.inl (v1, v2, (v3 + 1)))
def X12_centre_b28 (F : Nat) (o_status : Int32) (o_at : Nat → Int32) (o_farBy : Nat → Int32) (v1 : Int32) (v2 : Int32) (v3 : Int32) (st28 : Int32 × Int32) : Option ((Int32 × Int32) ⊕ ((Int32))) :=
  if ix 0 3097 then
  if (jat o_at 0) ≤ st28.2 then
  some (.inr st28.1)
  else
  if ix ((8 * v3) + st28.2) 64 then
  some (.inl ((jmin (1000000 : Int32) (st28.1 + (jat o_farBy ((8 * v3) + st28.2)))), (st28.2 + 1)))
  else none
  else none
def X12_centre_b12 (F : Nat) (o_status : Int32) (o_at : Nat → Int32) (o_farBy : Nat → Int32) (st12 : Int32 × Int32 × Int32) : Option ((Int32 × Int32 × Int32) ⊕ ((Int32))) :=
  if ix 0 3097 then
  if (jat o_at 0) ≤ st12.2.2 then
  some (.inr st12.1)
  else
  (iter (X12_centre_b28 F o_status o_at o_farBy st12.1 st12.2.1 st12.2.2) F (0, 0)).bind (fun (e28 : Int32) =>
    if e28 < st12.2.1 then
  X12_centre_j82 F o_status o_at o_farBy st12.2.2 e28 st12.2.2
  else
  X12_centre_j82 F o_status o_at o_farBy st12.1 st12.2.1 st12.2.2)
  else none
def X12_centre (F : Nat) (o_status : Int32) (o_at : Nat → Int32) (o_farBy : Nat → Int32) : Option (Int32 × Int32 × (Nat → Int32)) :=
  (X12_laysFar F o_at o_farBy).bind fun u1 =>
  (iter (X12_centre_b12 F o_status o_at u1) F ((-1), 1000000, 0)).bind (fun (e12 : Int32) =>
    (X12_orNone o_status e12).bind fun u90 =>
  some (u90.1, u90.2, u1))
abbrev wd_X12_centre (E : vE) (a_o a_o_at a_o_names a_o_sort a_o_trayMany a_o_trays a_o_tape a_o_text a_o_opened a_o_farBy a_o_attendsBy a_o_coveredBy a_o_cameBy a_o_cameThen a_o_fallsBy a_o_loops a_o_ran a_o_told1 : Nat) (o_status : Int32) (o_top : Int64) (o_bottom : Int64) (o_taped : Int32) (o_size : Int32) (o_token : Int32) (o_from : Int32) (o_end : Int32) (o_value : Int32) (o_faultKind : Int32) (o_faultPlace : Int32) (o_faults : Int32) (o_seen : Int32) (o_toldParts : Int32) (o_depth : Int32) (o_counted : Int32) (o_becameThen : Int32) (o_firstCorner : Int32) (o_drawn : Int32) (o_ranSteps : Int32) (o_isTold : Int32) (o_marks : Int32) (o_at : Nat → Int32) (o_farBy : Nat → Int32) : va_W := [(a_o, .inr (12, [.ref a_o_at, .ref a_o_names, .int o_status, .long o_top, .long o_bottom, .ref a_o_sort, .ref a_o_trayMany, .ref a_o_trays, .ref a_o_tape, .ref a_o_text, .int o_taped, .int o_size, .int o_token, .int o_from, .int o_end, .int o_value, .int o_faultKind, .int o_faultPlace, .int o_faults, .int o_seen, .int o_toldParts, .ref a_o_opened, .int o_depth, .int o_counted, .ref a_o_farBy, .int o_becameThen, .ref a_o_attendsBy, .ref a_o_coveredBy, .ref a_o_cameBy, .ref a_o_cameThen, .int o_firstCorner, .ref a_o_fallsBy, .int o_drawn, .int o_ranSteps, .ref a_o_loops, .ref a_o_ran, .ref a_o_told1, .int o_isTold, .int o_marks])), (a_o_at, .inl (E.2.1, 3097, .inl o_at)), (a_o_farBy, .inl (E.2.1, 64, .inl o_farBy))]
set_option maxHeartbeats 4000000 in
set_option maxRecDepth 100000 in
theorem ct_X12_centre (l : Launch) (E : vE) (F : Nat) (a_o a_o_at a_o_names a_o_sort a_o_trayMany a_o_trays a_o_tape a_o_text a_o_opened a_o_farBy a_o_attendsBy a_o_coveredBy a_o_cameBy a_o_cameThen a_o_fallsBy a_o_loops a_o_ran a_o_told1 : Nat) (o_status : Int32) (o_top : Int64) (o_bottom : Int64) (o_taped : Int32) (o_size : Int32) (o_token : Int32) (o_from : Int32) (o_end : Int32) (o_value : Int32) (o_faultKind : Int32) (o_faultPlace : Int32) (o_faults : Int32) (o_seen : Int32) (o_toldParts : Int32) (o_depth : Int32) (o_counted : Int32) (o_becameThen : Int32) (o_firstCorner : Int32) (o_drawn : Int32) (o_ranSteps : Int32) (o_isTold : Int32) (o_marks : Int32) (o_at : Nat → Int32) (o_farBy : Nat → Int32) (u : Int32 × Int32 × (Nat → Int32)) (hf : X12_centre F o_status o_at o_farBy = some u) :
    CtI l yX12_centre cX12_centre 6 (some .int) 3 E [.ref a_o] (wd_X12_centre E a_o a_o_at a_o_names a_o_sort a_o_trayMany a_o_trays a_o_tape a_o_text a_o_opened a_o_farBy a_o_attendsBy a_o_coveredBy a_o_cameBy a_o_cameThen a_o_fallsBy a_o_loops a_o_ran a_o_told1 o_status o_top o_bottom o_taped o_size o_token o_from o_end o_value o_faultKind o_faultPlace o_faults o_seen o_toldParts o_depth o_counted o_becameThen o_firstCorner o_drawn o_ranSteps o_isTold o_marks o_at o_farBy) (wd_X12_centre E a_o a_o_at a_o_names a_o_sort a_o_trayMany a_o_trays a_o_tape a_o_text a_o_opened a_o_farBy a_o_attendsBy a_o_coveredBy a_o_cameBy a_o_cameThen a_o_fallsBy a_o_loops a_o_ran a_o_told1 u.2.1 o_top o_bottom o_taped o_size o_token o_from o_end o_value o_faultKind o_faultPlace o_faults o_seen o_toldParts o_depth o_counted o_becameThen o_firstCorner o_drawn o_ranSteps o_isTold o_marks o_at u.2.2) u.1 := by
  refine ctI (by decide) (Nat.le_of_ble_eq_true rfl) ?_
  intro p e s m below meth cd A ls aa QQ hq cx hP hD hS hl
  obtain ⟨⟨hx, hb, hml, hown, hts⟩, hr, hlocks, hK, hA, hX⟩ := id cx
  have hl : lv_has ls 6 [(0, .ref a_o)] := hl
  unfold X12_centre at hf
  refine lv_aload_n hx hb dX12_centre_0 rfl (lv_at hl 0 rfl) ?_
  obtain ⟨u1, hu1, hf⟩ := bd hf
  refine callVV (wn := (wd_X12_centre E a_o a_o_at a_o_names a_o_sort a_o_trayMany a_o_trays a_o_tape a_o_text a_o_opened a_o_farBy a_o_attendsBy a_o_coveredBy a_o_cameBy a_o_cameThen a_o_fallsBy a_o_loops a_o_ran a_o_told1 o_status o_top o_bottom o_taped o_size o_token o_from o_end o_value o_faultKind o_faultPlace o_faults o_seen o_toldParts o_depth o_counted o_becameThen o_firstCorner o_drawn o_ranSteps o_isTold o_marks o_at u1)) (n1 := 3) (ct_X12_laysFar l E F a_o a_o_at a_o_names a_o_sort a_o_trayMany a_o_trays a_o_tape a_o_text a_o_opened a_o_farBy a_o_attendsBy a_o_coveredBy a_o_cameBy a_o_cameThen a_o_fallsBy a_o_loops a_o_ran a_o_told1 o_status o_top o_bottom o_taped o_size o_token o_from o_end o_value o_faultKind o_faultPlace o_faults o_seen o_toldParts o_depth o_counted o_becameThen o_firstCorner o_drawn o_ranSteps o_isTold o_marks o_at o_farBy u1 hu1) [0, 1, 2] cal_X12_laysFar cav_X12_laysFar lk_X12_318 cx hP hD hS hl dX12_centre_1 rfl rfl rfl rfl (Nat.le_of_ble_eq_true rfl) ⟨Nat.le_of_ble_eq_true rfl, Nat.le_of_ble_eq_true rfl⟩ rfl (by decide +kernel) rfl [some 0, some 1, some 2] rfl (by decide +kernel) rfl (fun H locs hP hD hS => ?_)
  refine lv_iconst (v := (-1)) hx hb dX12_centre_4 (by decide) ?_
  refine lv_istore_n (lv' := [(1, .int (-1)), (0, .ref a_o)]) hx hb dX12_centre_5 rfl hl (by decide) rfl (fun ls hl => ?_)
  refine lv_ldcw (v := 1000000) hx hb hown (hts _ ki_X12_314) dX12_centre_6 ?_
  refine lv_istore_n (lv' := [(2, .int 1000000), (1, .int (-1)), (0, .ref a_o)]) hx hb dX12_centre_9 rfl hl (by decide) rfl (fun ls hl => ?_)
  refine lv_iconst (v := 0) hx hb dX12_centre_10 (by decide) ?_
  refine lv_istore_n (lv' := [(3, .int 0), (2, .int 1000000), (1, .int (-1)), (0, .ref a_o)]) hx hb dX12_centre_11 rfl hl (by decide) rfl (fun ls hl => ?_)
  obtain ⟨e12, hit12, hf⟩ := bd hf
  refine iter_W (b := X12_centre_b12 F o_status o_at u1) (P := fun st12 => ∀ (H : Heap) (locs : List Loc) (ls : Array Slot), va_P E.1 vwCl (wd_X12_centre E a_o a_o_at a_o_names a_o_sort a_o_trayMany a_o_trays a_o_tape a_o_text a_o_opened a_o_farBy a_o_attendsBy a_o_coveredBy a_o_cameBy a_o_cameThen a_o_fallsBy a_o_loops a_o_ran a_o_told1 o_status o_top o_bottom o_taped o_size o_token o_from o_end o_value o_faultKind o_faultPlace o_faults o_seen o_toldParts o_depth o_counted o_becameThen o_firstCorner o_drawn o_ranSteps o_isTold o_marks o_at u1) H → va_D A (wd_X12_centre E a_o a_o_at a_o_names a_o_sort a_o_trayMany a_o_trays a_o_tape a_o_text a_o_opened a_o_farBy a_o_attendsBy a_o_coveredBy a_o_cameBy a_o_cameThen a_o_fallsBy a_o_loops a_o_ran a_o_told1 o_status o_top o_bottom o_taped o_size o_token o_from o_end o_value o_faultKind o_faultPlace o_faults o_seen o_toldParts o_depth o_counted o_becameThen o_firstCorner o_drawn o_ranSteps o_isTold o_marks o_at u1) → va_S A s.heap H locs → lv_has ls 6 [(0, .ref a_o), (1, .int st12.1), (2, .int st12.2.1), (3, .int st12.2.2)] → W p l e (rmd 3) s m aa below meth cd H locs 0 0 QQ (F0 m 12 ls [])) (G := (fun (e12 : Int32) => ∀ (H : Heap) (locs : List Loc) (ls : Array Slot), va_P E.1 vwCl (wd_X12_centre E a_o a_o_at a_o_names a_o_sort a_o_trayMany a_o_trays a_o_tape a_o_text a_o_opened a_o_farBy a_o_attendsBy a_o_coveredBy a_o_cameBy a_o_cameThen a_o_fallsBy a_o_loops a_o_ran a_o_told1 o_status o_top o_bottom o_taped o_size o_token o_from o_end o_value o_faultKind o_faultPlace o_faults o_seen o_toldParts o_depth o_counted o_becameThen o_firstCorner o_drawn o_ranSteps o_isTold o_marks o_at u1) H → va_D A (wd_X12_centre E a_o a_o_at a_o_names a_o_sort a_o_trayMany a_o_trays a_o_tape a_o_text a_o_opened a_o_farBy a_o_attendsBy a_o_coveredBy a_o_cameBy a_o_cameThen a_o_fallsBy a_o_loops a_o_ran a_o_told1 o_status o_top o_bottom o_taped o_size o_token o_from o_end o_value o_faultKind o_faultPlace o_faults o_seen o_toldParts o_depth o_counted o_becameThen o_firstCorner o_drawn o_ranSteps o_isTold o_marks o_at u1) → va_S A s.heap H locs → lv_has ls 6 [(0, .ref a_o), (1, .int e12)] → W p l e (rmd 3) s m aa below meth cd H locs 0 0 QQ (F0 m 88 ls []))) ?_ F ((-1), 1000000, 0) e12 hit12 ?_ _ _ _ hP hD hS (lv_sub hl [3, 2, 1, 0] rfl)
  · intro st12 r12 hf hk12 he12 H locs ls hP hD hS hl
    have hj82 : ∀ (v1_j82 : Int32) (v2_j82 : Int32) (v3_j82 : Int32) (H : Heap) (locs : List Loc) (ls : Array Slot), X12_centre_j82 F o_status o_at u1 v1_j82 v2_j82 v3_j82 = some r12 → va_P E.1 vwCl (wd_X12_centre E a_o a_o_at a_o_names a_o_sort a_o_trayMany a_o_trays a_o_tape a_o_text a_o_opened a_o_farBy a_o_attendsBy a_o_coveredBy a_o_cameBy a_o_cameThen a_o_fallsBy a_o_loops a_o_ran a_o_told1 o_status o_top o_bottom o_taped o_size o_token o_from o_end o_value o_faultKind o_faultPlace o_faults o_seen o_toldParts o_depth o_counted o_becameThen o_firstCorner o_drawn o_ranSteps o_isTold o_marks o_at u1) H → va_D A (wd_X12_centre E a_o a_o_at a_o_names a_o_sort a_o_trayMany a_o_trays a_o_tape a_o_text a_o_opened a_o_farBy a_o_attendsBy a_o_coveredBy a_o_cameBy a_o_cameThen a_o_fallsBy a_o_loops a_o_ran a_o_told1 o_status o_top o_bottom o_taped o_size o_token o_from o_end o_value o_faultKind o_faultPlace o_faults o_seen o_toldParts o_depth o_counted o_becameThen o_firstCorner o_drawn o_ranSteps o_isTold o_marks o_at u1) → va_S A s.heap H locs → lv_has ls 6 [(0, .ref a_o), (1, .int v1_j82), (2, .int v2_j82), (3, .int v3_j82)] → W p l e (rmd 3) s m aa below meth cd H locs 0 0 QQ (F0 m 82 ls []) := by
      intro v1_j82 v2_j82 v3_j82 H locs ls hf hP hD hS hl
      unfold X12_centre_j82 at hf
      refine lv_iinc (v := (v3_j82 + 1)) (lv' := [(3, .int (v3_j82 + 1)), (0, .ref a_o), (1, .int v1_j82), (2, .int v2_j82)]) hx hb dX12_centre_82 hl (k := 3) rfl rfl (by decide) rfl (fun ls hl => ?_)
      refine lv_goto (tgt := 12) hx hb dX12_centre_85 (by decide) ?_
      exact hk12 _ (Option.some.inj hf).symm _ _ _ hP hD hS (lv_sub hl [1, 2, 3, 0] rfl)
    unfold X12_centre_b12 at hf
    refine lv_iload_n hx hb dX12_centre_12 rfl (lv_at hl 3 rfl) ?_
    refine lv_aload_n hx hb dX12_centre_13 rfl (lv_at hl 0 rfl) ?_
    refine va_get (D := E.1) (ci := 12) (v := .ref a_o_at) (C := RX12) (T := TX12) (N := 39) hx hb hts inX12 hown hK hP 0 rfl rfl 0 (by decide) (hts _ fl_X12_7) (fun _ h9 => h9) rfl dX12_centre_14 ?_
    refine lv_iconst (v := 0) hx hb dX12_centre_17 (by decide) ?_
    obtain ⟨hi, hf⟩ := ck hf
    refine r_iald 1 cx hP rfl hi dX12_centre_18 ?_
    refine lv_icmp_ge (tgt := 88) hx hb dX12_centre_19 (by decide) (fun hc => ?_) (fun hc => ?_)
    · have hf := it_t hc hf
      exact he12 _ (Option.some.inj hf).symm _ _ _ hP hD hS (lv_sub hl [0, 1] rfl)
    · have hf := it_f hc hf
      refine lv_iconst (v := 0) hx hb dX12_centre_22 (by decide) ?_
      refine lv_istore (lv' := [(4, .int 0), (0, .ref a_o), (1, .int st12.1), (2, .int st12.2.1), (3, .int st12.2.2)]) hx hb dX12_centre_23 hl (by decide) rfl (fun ls hl => ?_)
      refine lv_iconst (v := 0) hx hb dX12_centre_25 (by decide) ?_
      refine lv_istore (lv' := [(5, .int 0), (4, .int 0), (0, .ref a_o), (1, .int st12.1), (2, .int st12.2.1), (3, .int st12.2.2)]) hx hb dX12_centre_26 hl (by decide) rfl (fun ls hl => ?_)
      obtain ⟨e28, hit28, hf⟩ := bd hf
      refine iter_W (b := X12_centre_b28 F o_status o_at u1 st12.1 st12.2.1 st12.2.2) (P := fun st28 => ∀ (H : Heap) (locs : List Loc) (ls : Array Slot), va_P E.1 vwCl (wd_X12_centre E a_o a_o_at a_o_names a_o_sort a_o_trayMany a_o_trays a_o_tape a_o_text a_o_opened a_o_farBy a_o_attendsBy a_o_coveredBy a_o_cameBy a_o_cameThen a_o_fallsBy a_o_loops a_o_ran a_o_told1 o_status o_top o_bottom o_taped o_size o_token o_from o_end o_value o_faultKind o_faultPlace o_faults o_seen o_toldParts o_depth o_counted o_becameThen o_firstCorner o_drawn o_ranSteps o_isTold o_marks o_at u1) H → va_D A (wd_X12_centre E a_o a_o_at a_o_names a_o_sort a_o_trayMany a_o_trays a_o_tape a_o_text a_o_opened a_o_farBy a_o_attendsBy a_o_coveredBy a_o_cameBy a_o_cameThen a_o_fallsBy a_o_loops a_o_ran a_o_told1 o_status o_top o_bottom o_taped o_size o_token o_from o_end o_value o_faultKind o_faultPlace o_faults o_seen o_toldParts o_depth o_counted o_becameThen o_firstCorner o_drawn o_ranSteps o_isTold o_marks o_at u1) → va_S A s.heap H locs → lv_has ls 6 [(0, .ref a_o), (1, .int st12.1), (2, .int st12.2.1), (3, .int st12.2.2), (4, .int st28.1), (5, .int st28.2)] → W p l e (rmd 3) s m aa below meth cd H locs 0 0 QQ (F0 m 28 ls [])) (G := (fun (e28 : Int32) => ∀ (H : Heap) (locs : List Loc) (ls : Array Slot), va_P E.1 vwCl (wd_X12_centre E a_o a_o_at a_o_names a_o_sort a_o_trayMany a_o_trays a_o_tape a_o_text a_o_opened a_o_farBy a_o_attendsBy a_o_coveredBy a_o_cameBy a_o_cameThen a_o_fallsBy a_o_loops a_o_ran a_o_told1 o_status o_top o_bottom o_taped o_size o_token o_from o_end o_value o_faultKind o_faultPlace o_faults o_seen o_toldParts o_depth o_counted o_becameThen o_firstCorner o_drawn o_ranSteps o_isTold o_marks o_at u1) H → va_D A (wd_X12_centre E a_o a_o_at a_o_names a_o_sort a_o_trayMany a_o_trays a_o_tape a_o_text a_o_opened a_o_farBy a_o_attendsBy a_o_coveredBy a_o_cameBy a_o_cameThen a_o_fallsBy a_o_loops a_o_ran a_o_told1 o_status o_top o_bottom o_taped o_size o_token o_from o_end o_value o_faultKind o_faultPlace o_faults o_seen o_toldParts o_depth o_counted o_becameThen o_firstCorner o_drawn o_ranSteps o_isTold o_marks o_at u1) → va_S A s.heap H locs → lv_has ls 6 [(0, .ref a_o), (1, .int st12.1), (2, .int st12.2.1), (3, .int st12.2.2), (4, .int e28)] → W p l e (rmd 3) s m aa below meth cd H locs 0 0 QQ (F0 m 68 ls []))) ?_ F (0, 0) e28 hit28 ?_ _ _ _ hP hD hS (lv_sub hl [2, 3, 4, 5, 1, 0] rfl)
      · intro st28 r28 hf hk28 he28 H locs ls hP hD hS hl
        unfold X12_centre_b28 at hf
        refine lv_iload hx hb dX12_centre_28 (lv_at hl 5 rfl) ?_
        refine lv_aload_n hx hb dX12_centre_30 rfl (lv_at hl 0 rfl) ?_
        refine va_get (D := E.1) (ci := 12) (v := .ref a_o_at) (C := RX12) (T := TX12) (N := 39) hx hb hts inX12 hown hK hP 0 rfl rfl 0 (by decide) (hts _ fl_X12_7) (fun _ h9 => h9) rfl dX12_centre_31 ?_
        refine lv_iconst (v := 0) hx hb dX12_centre_34 (by decide) ?_
        obtain ⟨hi, hf⟩ := ck hf
        refine r_iald 1 cx hP rfl hi dX12_centre_35 ?_
        refine lv_icmp_ge (tgt := 68) hx hb dX12_centre_36 (by decide) (fun hc => ?_) (fun hc => ?_)
        · have hf := it_t hc hf
          exact he28 _ (Option.some.inj hf).symm _ _ _ hP hD hS (lv_sub hl [0, 1, 2, 3, 4] rfl)
        · have hf := it_f hc hf
          refine lv_ldcw (v := 1000000) hx hb hown (hts _ ki_X12_314) dX12_centre_39 ?_
          refine lv_iload hx hb dX12_centre_42 (lv_at hl 4 rfl) ?_
          refine lv_aload_n hx hb dX12_centre_44 rfl (lv_at hl 0 rfl) ?_
          refine va_get (D := E.1) (ci := 12) (v := .ref a_o_farBy) (C := RX12) (T := TX12) (N := 39) hx hb hts inX12 hown hK hP 0 rfl rfl 24 (by decide) (hts _ fl_X12_47) (fun _ h9 => h9) rfl dX12_centre_45 ?_
          refine lv_bipush (v := 8) hx hb dX12_centre_48 (by decide) ?_
          refine lv_iload_n hx hb dX12_centre_50 rfl (lv_at hl 3 rfl) ?_
          refine lv_imul hx hb dX12_centre_51 ?_
          refine lv_iload hx hb dX12_centre_52 (lv_at hl 5 rfl) ?_
          refine lv_iadd hx hb dX12_centre_54 ?_
          obtain ⟨hi, hf⟩ := ck hf
          refine r_iald 2 cx hP rfl hi dX12_centre_55 ?_
          refine lv_iadd hx hb dX12_centre_56 ?_
          refine r_mmin cx hl lk_X12_140 mt_min (Nat.le_of_ble_eq_true rfl) (Nat.le_of_ble_eq_true rfl) dX12_centre_57 ?_
          refine lv_istore (lv' := [(4, .int (jmin (1000000 : Int32) (st28.1 + (jat u1 ((8 * st12.2.2) + st28.2))))), (0, .ref a_o), (1, .int st12.1), (2, .int st12.2.1), (3, .int st12.2.2), (5, .int st28.2)]) hx hb dX12_centre_60 hl (by decide) rfl (fun ls hl => ?_)
          refine lv_iinc (v := (st28.2 + 1)) (lv' := [(5, .int (st28.2 + 1)), (4, .int (jmin (1000000 : Int32) (st28.1 + (jat u1 ((8 * st12.2.2) + st28.2))))), (0, .ref a_o), (1, .int st12.1), (2, .int st12.2.1), (3, .int st12.2.2)]) hx hb dX12_centre_62 hl (k := 5) rfl rfl (by decide) rfl (fun ls hl => ?_)
          refine lv_goto (tgt := 28) hx hb dX12_centre_65 (by decide) ?_
          exact hk28 _ (Option.some.inj hf).symm _ _ _ hP hD hS (lv_sub hl [2, 3, 4, 5, 1, 0] rfl)
      · refine fun H locs ls hP hD hS hl => ?_
        refine lv_iload hx hb dX12_centre_68 (lv_at hl 4 rfl) ?_
        refine lv_iload_n hx hb dX12_centre_70 rfl (lv_at hl 2 rfl) ?_
        refine lv_icmp_lt (tgt := 77) hx hb dX12_centre_71 (by decide) (fun hc => ?_) (fun hc => ?_)
        · have hf := it_t hc hf
          refine lv_iload hx hb dX12_centre_77 (lv_at hl 4 rfl) ?_
          refine lv_istore_n (lv' := [(2, .int e28), (0, .ref a_o), (1, .int st12.1), (3, .int st12.2.2), (4, .int e28)]) hx hb dX12_centre_79 rfl hl (by decide) rfl (fun ls hl => ?_)
          refine lv_iload_n hx hb dX12_centre_80 rfl (lv_at hl 3 rfl) ?_
          refine lv_istore_n (lv' := [(1, .int st12.2.2), (2, .int e28), (0, .ref a_o), (3, .int st12.2.2), (4, .int e28)]) hx hb dX12_centre_81 rfl hl (by decide) rfl (fun ls hl => ?_)
          exact hj82 _ _ _ _ _ _ hf hP hD hS (lv_sub hl [2, 0, 1, 3] rfl)
        · have hf := it_f hc hf
          refine lv_goto (tgt := 82) hx hb dX12_centre_74 (by decide) ?_
          exact hj82 _ _ _ _ _ _ hf hP hD hS (lv_sub hl [0, 1, 2, 3] rfl)
  · refine fun H locs ls hP hD hS hl => ?_
    refine lv_aload_n hx hb dX12_centre_88 rfl (lv_at hl 0 rfl) ?_
    refine lv_iload_n hx hb dX12_centre_89 rfl (lv_at hl 1 rfl) ?_
    obtain ⟨u90, hu90, hf⟩ := bd hf
    refine callVI (wn := (wd_X12_centre E a_o a_o_at a_o_names a_o_sort a_o_trayMany a_o_trays a_o_tape a_o_text a_o_opened a_o_farBy a_o_attendsBy a_o_coveredBy a_o_cameBy a_o_cameThen a_o_fallsBy a_o_loops a_o_ran a_o_told1 u90.2 o_top o_bottom o_taped o_size o_token o_from o_end o_value o_faultKind o_faultPlace o_faults o_seen o_toldParts o_depth o_counted o_becameThen o_firstCorner o_drawn o_ranSteps o_isTold o_marks o_at u1)) (n1 := 3) (ct_X12_orNone l E a_o a_o_at a_o_names a_o_sort a_o_trayMany a_o_trays a_o_tape a_o_text a_o_opened a_o_farBy a_o_attendsBy a_o_coveredBy a_o_cameBy a_o_cameThen a_o_fallsBy a_o_loops a_o_ran a_o_told1 o_status o_top o_bottom o_taped o_size o_token o_from o_end o_value o_faultKind o_faultPlace o_faults o_seen o_toldParts o_depth o_counted o_becameThen o_firstCorner o_drawn o_ranSteps o_isTold o_marks e12 u90 hu90) [0] cal_X12_orNone cav_X12_orNone lk_X12_324 cx hP hD hS hl dX12_centre_90 rfl rfl rfl rfl (Nat.le_of_ble_eq_true rfl) ⟨Nat.le_of_ble_eq_true rfl, Nat.le_of_ble_eq_true rfl⟩ rfl (by decide +kernel) rfl [some 0, none, none] rfl (by decide +kernel) rfl (fun H locs hP hD hS => ?_)
    obtain rfl := Option.some.inj hf
    subst hq
    exact retI cx hP hD hS dX12_centre_93
def X12_isOpen_j83 (F : Nat) (o_at : Nat → Int32) (v2 : Int32) (v3 : Int32) (v4 : Int32) (v5 : Int32) (v6 : Int32) : Option ((Int32 × Int32) ⊕ ((Int32))) :=
  some (.inl (v4, (v6 + 1)))
def X12_isOpen_b18 (F : Nat) (o_at : Nat → Int32) (v2 : Int32) (v3 : Int32) (v5 : Int32) (st18 : Int32 × Int32) : Option ((Int32 × Int32) ⊕ ((Int32))) :=
  if ix 1 3097 then
  if (jat o_at 1) ≤ st18.2 then
  some (.inr st18.1)
  else
  (X12_roadRow st18.2).bind fun u36 =>
  if ix u36 3097 then
  (X12_roadRow st18.2).bind fun u48 =>
  if ix (u48 + 1) 3097 then
  (X12_isIn v3 st18.2).bind fun u62 =>
  if u62 = 0 then
  if (st18.1 &&& ((jshl 1 (jat o_at u36)) ||| (jshl 1 (jat o_at (u48 + 1))))) = 0 then
  X12_isOpen_j83 F o_at v2 v3 st18.1 v5 st18.2
  else
  X12_isOpen_j83 F o_at v2 v3 (st18.1 ||| ((jshl 1 (jat o_at u36)) ||| (jshl 1 (jat o_at (u48 + 1))))) v5 st18.2
  else
  X12_isOpen_j83 F o_at v2 v3 st18.1 v5 st18.2
  else none
  else none
  else none
def X12_isOpen_b8 (F : Nat) (o_at : Nat → Int32) (v2 : Int32) (v3 : Int32) (st8 : Int32 × Int32) : Option ((Int32 × Int32) ⊕ ((Int32))) :=
  if (8 : Int32) ≤ st8.2 then
  some (.inr st8.1)
  else
  (iter (X12_isOpen_b18 F o_at v2 v3 st8.2) F (st8.1, 0)).bind (fun (e18 : Int32) =>
    some (.inl (e18, (st8.2 + 1))))
def X12_isOpen (F : Nat) (o_at : Nat → Int32) (v1 : Int32) (v2 : Int32) (v3 : Int32) : Option (Int32) :=
  (iter (X12_isOpen_b8 F o_at v2 v3) F ((jshl 1 v1), 0)).bind (fun (e8 : Int32) =>
    (X12_isIn e8 v2).bind fun u99 =>
  if isZ u99 then some u99 else none)
abbrev wd_X12_isOpen (E : vE) (a_o a_o_at a_o_names a_o_sort a_o_trayMany a_o_trays a_o_tape a_o_text a_o_opened a_o_farBy a_o_attendsBy a_o_coveredBy a_o_cameBy a_o_cameThen a_o_fallsBy a_o_loops a_o_ran a_o_told1 : Nat) (o_status : Int32) (o_top : Int64) (o_bottom : Int64) (o_taped : Int32) (o_size : Int32) (o_token : Int32) (o_from : Int32) (o_end : Int32) (o_value : Int32) (o_faultKind : Int32) (o_faultPlace : Int32) (o_faults : Int32) (o_seen : Int32) (o_toldParts : Int32) (o_depth : Int32) (o_counted : Int32) (o_becameThen : Int32) (o_firstCorner : Int32) (o_drawn : Int32) (o_ranSteps : Int32) (o_isTold : Int32) (o_marks : Int32) (o_at : Nat → Int32) : va_W := [(a_o, .inr (12, [.ref a_o_at, .ref a_o_names, .int o_status, .long o_top, .long o_bottom, .ref a_o_sort, .ref a_o_trayMany, .ref a_o_trays, .ref a_o_tape, .ref a_o_text, .int o_taped, .int o_size, .int o_token, .int o_from, .int o_end, .int o_value, .int o_faultKind, .int o_faultPlace, .int o_faults, .int o_seen, .int o_toldParts, .ref a_o_opened, .int o_depth, .int o_counted, .ref a_o_farBy, .int o_becameThen, .ref a_o_attendsBy, .ref a_o_coveredBy, .ref a_o_cameBy, .ref a_o_cameThen, .int o_firstCorner, .ref a_o_fallsBy, .int o_drawn, .int o_ranSteps, .ref a_o_loops, .ref a_o_ran, .ref a_o_told1, .int o_isTold, .int o_marks])), (a_o_at, .inl (E.2.1, 3097, .inl o_at))]
set_option maxHeartbeats 4000000 in
set_option maxRecDepth 100000 in
theorem ct_X12_isOpen (l : Launch) (E : vE) (F : Nat) (a_o a_o_at a_o_names a_o_sort a_o_trayMany a_o_trays a_o_tape a_o_text a_o_opened a_o_farBy a_o_attendsBy a_o_coveredBy a_o_cameBy a_o_cameThen a_o_fallsBy a_o_loops a_o_ran a_o_told1 : Nat) (o_status : Int32) (o_top : Int64) (o_bottom : Int64) (o_taped : Int32) (o_size : Int32) (o_token : Int32) (o_from : Int32) (o_end : Int32) (o_value : Int32) (o_faultKind : Int32) (o_faultPlace : Int32) (o_faults : Int32) (o_seen : Int32) (o_toldParts : Int32) (o_depth : Int32) (o_counted : Int32) (o_becameThen : Int32) (o_firstCorner : Int32) (o_drawn : Int32) (o_ranSteps : Int32) (o_isTold : Int32) (o_marks : Int32) (o_at : Nat → Int32) (v1 : Int32) (v2 : Int32) (v3 : Int32) (u : Int32) (hf : X12_isOpen F o_at v1 v2 v3 = some u) :
    CtI l yX12_isOpen cX12_isOpen 8 (some .boolean) 1 E [.ref a_o, .int v1, .int v2, .int v3] (wd_X12_isOpen E a_o a_o_at a_o_names a_o_sort a_o_trayMany a_o_trays a_o_tape a_o_text a_o_opened a_o_farBy a_o_attendsBy a_o_coveredBy a_o_cameBy a_o_cameThen a_o_fallsBy a_o_loops a_o_ran a_o_told1 o_status o_top o_bottom o_taped o_size o_token o_from o_end o_value o_faultKind o_faultPlace o_faults o_seen o_toldParts o_depth o_counted o_becameThen o_firstCorner o_drawn o_ranSteps o_isTold o_marks o_at) (wd_X12_isOpen E a_o a_o_at a_o_names a_o_sort a_o_trayMany a_o_trays a_o_tape a_o_text a_o_opened a_o_farBy a_o_attendsBy a_o_coveredBy a_o_cameBy a_o_cameThen a_o_fallsBy a_o_loops a_o_ran a_o_told1 o_status o_top o_bottom o_taped o_size o_token o_from o_end o_value o_faultKind o_faultPlace o_faults o_seen o_toldParts o_depth o_counted o_becameThen o_firstCorner o_drawn o_ranSteps o_isTold o_marks o_at) u := by
  refine ctI (by decide) (Nat.le_of_ble_eq_true rfl) ?_
  intro p e s m below meth cd A ls aa QQ hq cx hP hD hS hl
  obtain ⟨⟨hx, hb, hml, hown, hts⟩, hr, hlocks, hK, hA, hX⟩ := id cx
  have hl : lv_has ls 8 [(0, .ref a_o), (1, .int v1), (2, .int v2), (3, .int v3)] := hl
  unfold X12_isOpen at hf
  refine lv_iconst (v := 1) hx hb dX12_isOpen_0 (by decide) ?_
  refine lv_iload_n hx hb dX12_isOpen_1 rfl (lv_at hl 1 rfl) ?_
  refine r_ishl hx hb dX12_isOpen_2 ?_
  refine lv_istore (lv' := [(4, .int (jshl 1 v1)), (0, .ref a_o), (1, .int v1), (2, .int v2), (3, .int v3)]) hx hb dX12_isOpen_3 hl (by decide) rfl (fun ls hl => ?_)
  refine lv_iconst (v := 0) hx hb dX12_isOpen_5 (by decide) ?_
  refine lv_istore (lv' := [(5, .int 0), (4, .int (jshl 1 v1)), (0, .ref a_o), (1, .int v1), (2, .int v2), (3, .int v3)]) hx hb dX12_isOpen_6 hl (by decide) rfl (fun ls hl => ?_)
  obtain ⟨e8, hit8, hf⟩ := bd hf
  refine iter_W (b := X12_isOpen_b8 F o_at v2 v3) (P := fun st8 => ∀ (H : Heap) (locs : List Loc) (ls : Array Slot), va_P E.1 vwCl (wd_X12_isOpen E a_o a_o_at a_o_names a_o_sort a_o_trayMany a_o_trays a_o_tape a_o_text a_o_opened a_o_farBy a_o_attendsBy a_o_coveredBy a_o_cameBy a_o_cameThen a_o_fallsBy a_o_loops a_o_ran a_o_told1 o_status o_top o_bottom o_taped o_size o_token o_from o_end o_value o_faultKind o_faultPlace o_faults o_seen o_toldParts o_depth o_counted o_becameThen o_firstCorner o_drawn o_ranSteps o_isTold o_marks o_at) H → va_D A (wd_X12_isOpen E a_o a_o_at a_o_names a_o_sort a_o_trayMany a_o_trays a_o_tape a_o_text a_o_opened a_o_farBy a_o_attendsBy a_o_coveredBy a_o_cameBy a_o_cameThen a_o_fallsBy a_o_loops a_o_ran a_o_told1 o_status o_top o_bottom o_taped o_size o_token o_from o_end o_value o_faultKind o_faultPlace o_faults o_seen o_toldParts o_depth o_counted o_becameThen o_firstCorner o_drawn o_ranSteps o_isTold o_marks o_at) → va_S A s.heap H locs → lv_has ls 8 [(0, .ref a_o), (2, .int v2), (3, .int v3), (4, .int st8.1), (5, .int st8.2)] → W p l e (rmd 1) s m aa below meth cd H locs 0 0 QQ (F0 m 8 ls [])) (G := (fun (e8 : Int32) => ∀ (H : Heap) (locs : List Loc) (ls : Array Slot), va_P E.1 vwCl (wd_X12_isOpen E a_o a_o_at a_o_names a_o_sort a_o_trayMany a_o_trays a_o_tape a_o_text a_o_opened a_o_farBy a_o_attendsBy a_o_coveredBy a_o_cameBy a_o_cameThen a_o_fallsBy a_o_loops a_o_ran a_o_told1 o_status o_top o_bottom o_taped o_size o_token o_from o_end o_value o_faultKind o_faultPlace o_faults o_seen o_toldParts o_depth o_counted o_becameThen o_firstCorner o_drawn o_ranSteps o_isTold o_marks o_at) H → va_D A (wd_X12_isOpen E a_o a_o_at a_o_names a_o_sort a_o_trayMany a_o_trays a_o_tape a_o_text a_o_opened a_o_farBy a_o_attendsBy a_o_coveredBy a_o_cameBy a_o_cameThen a_o_fallsBy a_o_loops a_o_ran a_o_told1 o_status o_top o_bottom o_taped o_size o_token o_from o_end o_value o_faultKind o_faultPlace o_faults o_seen o_toldParts o_depth o_counted o_becameThen o_firstCorner o_drawn o_ranSteps o_isTold o_marks o_at) → va_S A s.heap H locs → lv_has ls 8 [(0, .ref a_o), (2, .int v2), (4, .int e8)] → W p l e (rmd 1) s m aa below meth cd H locs 0 0 QQ (F0 m 95 ls []))) ?_ F ((jshl 1 v1), 0) e8 hit8 ?_ _ _ _ hP hD hS (lv_sub hl [2, 4, 5, 1, 0] rfl)
  · intro st8 r8 hf hk8 he8 H locs ls hP hD hS hl
    unfold X12_isOpen_b8 at hf
    refine lv_iload hx hb dX12_isOpen_8 (lv_at hl 4 rfl) ?_
    refine lv_bipush (v := 8) hx hb dX12_isOpen_10 (by decide) ?_
    refine lv_icmp_ge (tgt := 95) hx hb dX12_isOpen_12 (by decide) (fun hc => ?_) (fun hc => ?_)
    · have hf := it_t hc hf
      exact he8 _ (Option.some.inj hf).symm _ _ _ hP hD hS (lv_sub hl [0, 1, 3] rfl)
    · have hf := it_f hc hf
      refine lv_iconst (v := 0) hx hb dX12_isOpen_15 (by decide) ?_
      refine lv_istore (lv' := [(6, .int 0), (0, .ref a_o), (2, .int v2), (3, .int v3), (4, .int st8.1), (5, .int st8.2)]) hx hb dX12_isOpen_16 hl (by decide) rfl (fun ls hl => ?_)
      obtain ⟨e18, hit18, hf⟩ := bd hf
      refine iter_W (b := X12_isOpen_b18 F o_at v2 v3 st8.2) (P := fun st18 => ∀ (H : Heap) (locs : List Loc) (ls : Array Slot), va_P E.1 vwCl (wd_X12_isOpen E a_o a_o_at a_o_names a_o_sort a_o_trayMany a_o_trays a_o_tape a_o_text a_o_opened a_o_farBy a_o_attendsBy a_o_coveredBy a_o_cameBy a_o_cameThen a_o_fallsBy a_o_loops a_o_ran a_o_told1 o_status o_top o_bottom o_taped o_size o_token o_from o_end o_value o_faultKind o_faultPlace o_faults o_seen o_toldParts o_depth o_counted o_becameThen o_firstCorner o_drawn o_ranSteps o_isTold o_marks o_at) H → va_D A (wd_X12_isOpen E a_o a_o_at a_o_names a_o_sort a_o_trayMany a_o_trays a_o_tape a_o_text a_o_opened a_o_farBy a_o_attendsBy a_o_coveredBy a_o_cameBy a_o_cameThen a_o_fallsBy a_o_loops a_o_ran a_o_told1 o_status o_top o_bottom o_taped o_size o_token o_from o_end o_value o_faultKind o_faultPlace o_faults o_seen o_toldParts o_depth o_counted o_becameThen o_firstCorner o_drawn o_ranSteps o_isTold o_marks o_at) → va_S A s.heap H locs → lv_has ls 8 [(0, .ref a_o), (2, .int v2), (3, .int v3), (4, .int st18.1), (5, .int st8.2), (6, .int st18.2)] → W p l e (rmd 1) s m aa below meth cd H locs 0 0 QQ (F0 m 18 ls [])) (G := (fun (e18 : Int32) => ∀ (H : Heap) (locs : List Loc) (ls : Array Slot), va_P E.1 vwCl (wd_X12_isOpen E a_o a_o_at a_o_names a_o_sort a_o_trayMany a_o_trays a_o_tape a_o_text a_o_opened a_o_farBy a_o_attendsBy a_o_coveredBy a_o_cameBy a_o_cameThen a_o_fallsBy a_o_loops a_o_ran a_o_told1 o_status o_top o_bottom o_taped o_size o_token o_from o_end o_value o_faultKind o_faultPlace o_faults o_seen o_toldParts o_depth o_counted o_becameThen o_firstCorner o_drawn o_ranSteps o_isTold o_marks o_at) H → va_D A (wd_X12_isOpen E a_o a_o_at a_o_names a_o_sort a_o_trayMany a_o_trays a_o_tape a_o_text a_o_opened a_o_farBy a_o_attendsBy a_o_coveredBy a_o_cameBy a_o_cameThen a_o_fallsBy a_o_loops a_o_ran a_o_told1 o_status o_top o_bottom o_taped o_size o_token o_from o_end o_value o_faultKind o_faultPlace o_faults o_seen o_toldParts o_depth o_counted o_becameThen o_firstCorner o_drawn o_ranSteps o_isTold o_marks o_at) → va_S A s.heap H locs → lv_has ls 8 [(0, .ref a_o), (2, .int v2), (3, .int v3), (4, .int e18), (5, .int st8.2)] → W p l e (rmd 1) s m aa below meth cd H locs 0 0 QQ (F0 m 89 ls []))) ?_ F (st8.1, 0) e18 hit18 ?_ _ _ _ hP hD hS (lv_sub hl [1, 2, 3, 4, 5, 0] rfl)
      · intro st18 r18 hf hk18 he18 H locs ls hP hD hS hl
        have hj83 : ∀ (v4_j83 : Int32) (v6_j83 : Int32) (H : Heap) (locs : List Loc) (ls : Array Slot), X12_isOpen_j83 F o_at v2 v3 v4_j83 st8.2 v6_j83 = some r18 → va_P E.1 vwCl (wd_X12_isOpen E a_o a_o_at a_o_names a_o_sort a_o_trayMany a_o_trays a_o_tape a_o_text a_o_opened a_o_farBy a_o_attendsBy a_o_coveredBy a_o_cameBy a_o_cameThen a_o_fallsBy a_o_loops a_o_ran a_o_told1 o_status o_top o_bottom o_taped o_size o_token o_from o_end o_value o_faultKind o_faultPlace o_faults o_seen o_toldParts o_depth o_counted o_becameThen o_firstCorner o_drawn o_ranSteps o_isTold o_marks o_at) H → va_D A (wd_X12_isOpen E a_o a_o_at a_o_names a_o_sort a_o_trayMany a_o_trays a_o_tape a_o_text a_o_opened a_o_farBy a_o_attendsBy a_o_coveredBy a_o_cameBy a_o_cameThen a_o_fallsBy a_o_loops a_o_ran a_o_told1 o_status o_top o_bottom o_taped o_size o_token o_from o_end o_value o_faultKind o_faultPlace o_faults o_seen o_toldParts o_depth o_counted o_becameThen o_firstCorner o_drawn o_ranSteps o_isTold o_marks o_at) → va_S A s.heap H locs → lv_has ls 8 [(0, .ref a_o), (2, .int v2), (3, .int v3), (4, .int v4_j83), (5, .int st8.2), (6, .int v6_j83)] → W p l e (rmd 1) s m aa below meth cd H locs 0 0 QQ (F0 m 83 ls []) := by
          intro v4_j83 v6_j83 H locs ls hf hP hD hS hl
          unfold X12_isOpen_j83 at hf
          refine lv_iinc (v := (v6_j83 + 1)) (lv' := [(6, .int (v6_j83 + 1)), (0, .ref a_o), (2, .int v2), (3, .int v3), (4, .int v4_j83), (5, .int st8.2)]) hx hb dX12_isOpen_83 hl (k := 5) rfl rfl (by decide) rfl (fun ls hl => ?_)
          refine lv_goto (tgt := 18) hx hb dX12_isOpen_86 (by decide) ?_
          exact hk18 _ (Option.some.inj hf).symm _ _ _ hP hD hS (lv_sub hl [1, 2, 3, 4, 5, 0] rfl)
        unfold X12_isOpen_b18 at hf
        refine lv_iload hx hb dX12_isOpen_18 (lv_at hl 5 rfl) ?_
        refine lv_aload_n hx hb dX12_isOpen_20 rfl (lv_at hl 0 rfl) ?_
        refine va_get (D := E.1) (ci := 12) (v := .ref a_o_at) (C := RX12) (T := TX12) (N := 39) hx hb hts inX12 hown hK hP 0 rfl rfl 0 (by decide) (hts _ fl_X12_7) (fun _ h9 => h9) rfl dX12_isOpen_21 ?_
        refine lv_iconst (v := 1) hx hb dX12_isOpen_24 (by decide) ?_
        obtain ⟨hi, hf⟩ := ck hf
        refine r_iald 1 cx hP rfl hi dX12_isOpen_25 ?_
        refine lv_icmp_ge (tgt := 89) hx hb dX12_isOpen_26 (by decide) (fun hc => ?_) (fun hc => ?_)
        · have hf := it_t hc hf
          exact he18 _ (Option.some.inj hf).symm _ _ _ hP hD hS (lv_sub hl [0, 1, 2, 3, 4] rfl)
        · have hf := it_f hc hf
          refine lv_iconst (v := 1) hx hb dX12_isOpen_29 (by decide) ?_
          refine lv_aload_n hx hb dX12_isOpen_30 rfl (lv_at hl 0 rfl) ?_
          refine va_get (D := E.1) (ci := 12) (v := .ref a_o_at) (C := RX12) (T := TX12) (N := 39) hx hb hts inX12 hown hK hP 0 rfl rfl 0 (by decide) (hts _ fl_X12_7) (fun _ h9 => h9) rfl dX12_isOpen_31 ?_
          refine lv_iload hx hb dX12_isOpen_34 (lv_at hl 5 rfl) ?_
          obtain ⟨u36, hu36, hf⟩ := bd hf
          refine keepSI (ct_X12_roadRow l E st18.2 u36 hu36) [] cal_X12_roadRow sta_X12_roadRow lk_X12_198 cx hP hD hS hl dX12_isOpen_36 rfl rfl (Nat.le_of_ble_eq_true rfl) ⟨Nat.le_of_ble_eq_true rfl, Nat.le_of_ble_eq_true rfl⟩ rfl (by decide) (fun H locs hP hS => ?_)
          obtain ⟨hi, hf⟩ := ck hf
          refine r_iald 1 cx hP rfl hi dX12_isOpen_39 ?_
          refine r_ishl hx hb dX12_isOpen_40 ?_
          refine lv_iconst (v := 1) hx hb dX12_isOpen_41 (by decide) ?_
          refine lv_aload_n hx hb dX12_isOpen_42 rfl (lv_at hl 0 rfl) ?_
          refine va_get (D := E.1) (ci := 12) (v := .ref a_o_at) (C := RX12) (T := TX12) (N := 39) hx hb hts inX12 hown hK hP 0 rfl rfl 0 (by decide) (hts _ fl_X12_7) (fun _ h9 => h9) rfl dX12_isOpen_43 ?_
          refine lv_iload hx hb dX12_isOpen_46 (lv_at hl 5 rfl) ?_
          obtain ⟨u48, hu48, hf⟩ := bd hf
          refine keepSI (ct_X12_roadRow l E st18.2 u48 hu48) [] cal_X12_roadRow sta_X12_roadRow lk_X12_198 cx hP hD hS hl dX12_isOpen_48 rfl rfl (Nat.le_of_ble_eq_true rfl) ⟨Nat.le_of_ble_eq_true rfl, Nat.le_of_ble_eq_true rfl⟩ rfl (by decide) (fun H locs hP hS => ?_)
          refine lv_iconst (v := 1) hx hb dX12_isOpen_51 (by decide) ?_
          refine lv_iadd hx hb dX12_isOpen_52 ?_
          obtain ⟨hi, hf⟩ := ck hf
          refine r_iald 1 cx hP rfl hi dX12_isOpen_53 ?_
          refine r_ishl hx hb dX12_isOpen_54 ?_
          refine lv_ior hx hb dX12_isOpen_55 ?_
          refine lv_istore (lv' := [(7, .int ((jshl 1 (jat o_at u36)) ||| (jshl 1 (jat o_at (u48 + 1))))), (0, .ref a_o), (2, .int v2), (3, .int v3), (4, .int st18.1), (5, .int st8.2), (6, .int st18.2)]) hx hb dX12_isOpen_56 hl (by decide) rfl (fun ls hl => ?_)
          refine lv_aload_n hx hb dX12_isOpen_58 rfl (lv_at hl 1 rfl) ?_
          refine lv_iload_n hx hb dX12_isOpen_59 rfl (lv_at hl 3 rfl) ?_
          refine lv_iload hx hb dX12_isOpen_60 (lv_at hl 6 rfl) ?_
          obtain ⟨u62, hu62, hf⟩ := bd hf
          refine keepVI (ct_X12_isIn l E a_o a_o_at a_o_names a_o_sort a_o_trayMany a_o_trays a_o_tape a_o_text a_o_opened a_o_farBy a_o_attendsBy a_o_coveredBy a_o_cameBy a_o_cameThen a_o_fallsBy a_o_loops a_o_ran a_o_told1 o_status o_top o_bottom o_taped o_size o_token o_from o_end o_value o_faultKind o_faultPlace o_faults o_seen o_toldParts o_depth o_counted o_becameThen o_firstCorner o_drawn o_ranSteps o_isTold o_marks v3 st18.2 u62 hu62) [0] cal_X12_isIn cav_X12_isIn lk_X12_327 cx hP hD hS hl dX12_isOpen_62 rfl rfl rfl rfl (Nat.le_of_ble_eq_true rfl) ⟨Nat.le_of_ble_eq_true rfl, Nat.le_of_ble_eq_true rfl⟩ rfl (by decide) (fun H locs hP hS => ?_)
          refine lv_if_ne (tgt := 83) hx hb dX12_isOpen_65 (by decide) (fun hc => ?_) (fun hc => ?_)
          · have hf := it_f hc hf
            exact hj83 _ _ _ _ _ hf hP hD hS (lv_sub hl [1, 2, 3, 4, 5, 6] rfl)
          · have hf := it_t hc hf
            refine lv_iload hx hb dX12_isOpen_68 (lv_at hl 4 rfl) ?_
            refine lv_iload hx hb dX12_isOpen_70 (lv_at hl 0 rfl) ?_
            refine lv_iand hx hb dX12_isOpen_72 ?_
            refine lv_if_eq (tgt := 83) hx hb dX12_isOpen_73 (by decide) (fun hc => ?_) (fun hc => ?_)
            · have hf := it_t hc hf
              exact hj83 _ _ _ _ _ hf hP hD hS (lv_sub hl [1, 2, 3, 4, 5, 6] rfl)
            · have hf := it_f hc hf
              refine lv_iload hx hb dX12_isOpen_76 (lv_at hl 4 rfl) ?_
              refine lv_iload hx hb dX12_isOpen_78 (lv_at hl 0 rfl) ?_
              refine lv_ior hx hb dX12_isOpen_80 ?_
              refine lv_istore (lv' := [(4, .int (st18.1 ||| ((jshl 1 (jat o_at u36)) ||| (jshl 1 (jat o_at (u48 + 1)))))), (7, .int ((jshl 1 (jat o_at u36)) ||| (jshl 1 (jat o_at (u48 + 1))))), (0, .ref a_o), (2, .int v2), (3, .int v3), (5, .int st8.2), (6, .int st18.2)]) hx hb dX12_isOpen_81 hl (by decide) rfl (fun ls hl => ?_)
              exact hj83 _ _ _ _ _ hf hP hD hS (lv_sub hl [2, 3, 4, 0, 5, 6] rfl)
      · refine fun H locs ls hP hD hS hl => ?_
        refine lv_iinc (v := (st8.2 + 1)) (lv' := [(5, .int (st8.2 + 1)), (0, .ref a_o), (2, .int v2), (3, .int v3), (4, .int e18)]) hx hb dX12_isOpen_89 hl (k := 4) rfl rfl (by decide) rfl (fun ls hl => ?_)
        refine lv_goto (tgt := 8) hx hb dX12_isOpen_92 (by decide) ?_
        exact hk8 _ (Option.some.inj hf).symm _ _ _ hP hD hS (lv_sub hl [1, 2, 3, 4, 0] rfl)
  · refine fun H locs ls hP hD hS hl => ?_
    refine lv_aload_n hx hb dX12_isOpen_95 rfl (lv_at hl 0 rfl) ?_
    refine lv_iload hx hb dX12_isOpen_96 (lv_at hl 2 rfl) ?_
    refine lv_iload_n hx hb dX12_isOpen_98 rfl (lv_at hl 1 rfl) ?_
    obtain ⟨u99, hu99, hf⟩ := bd hf
    refine keepVI (ct_X12_isIn l E a_o a_o_at a_o_names a_o_sort a_o_trayMany a_o_trays a_o_tape a_o_text a_o_opened a_o_farBy a_o_attendsBy a_o_coveredBy a_o_cameBy a_o_cameThen a_o_fallsBy a_o_loops a_o_ran a_o_told1 o_status o_top o_bottom o_taped o_size o_token o_from o_end o_value o_faultKind o_faultPlace o_faults o_seen o_toldParts o_depth o_counted o_becameThen o_firstCorner o_drawn o_ranSteps o_isTold o_marks e8 v2 u99 hu99) [0] cal_X12_isIn cav_X12_isIn lk_X12_327 cx hP hD hS hl dX12_isOpen_99 rfl rfl rfl rfl (Nat.le_of_ble_eq_true rfl) ⟨Nat.le_of_ble_eq_true rfl, Nat.le_of_ble_eq_true rfl⟩ rfl (by decide) (fun H locs hP hS => ?_)
    obtain ⟨hz, hf⟩ := ck hf
    obtain rfl := Option.some.inj hf
    subst hq
    exact retZ cx hz hP hD hS dX12_isOpen_102
def X12_cut_j16 (F : Nat) (o_status : Int32) (o_at : Nat → Int32) : Option (Int32 × Int32) :=
  (X12_refuse o_status (1 : Int32)).bind fun u18 =>
  some (u18.1, u18.2)
def X12_cut_j80 (F : Nat) (o_status : Int32) (o_at : Nat → Int32) (v1 : Int32) (v2 : Int32) (v3 : Int32) (v4 : Int32) : Option ((Int32 × Int32) ⊕ ((Int32))) :=
  some (.inl (v3, (v4 + 1)))
def X12_cut_b41 (F : Nat) (o_status : Int32) (o_at : Nat → Int32) (v1 : Int32) (v2 : Int32) (st41 : Int32 × Int32) : Option ((Int32 × Int32) ⊕ ((Int32))) :=
  if ix 1 3097 then
  if (jshl 1 (jat o_at 1)) ≤ st41.2 then
  some (.inr st41.1)
  else
  (X12_bits F st41.2).bind fun u56 =>
  if st41.1 ≤ u56 then
  X12_cut_j80 F o_status o_at v1 v2 st41.1 st41.2
  else
  (X12_isOpen F o_at v1 v2 st41.2).bind fun u68 =>
  if u68 = 0 then
  (X12_bits F st41.2).bind fun u76 =>
  X12_cut_j80 F o_status o_at v1 v2 u76 st41.2
  else
  X12_cut_j80 F o_status o_at v1 v2 st41.1 st41.2
  else none
def X12_cut (F : Nat) (o_status : Int32) (o_at : Nat → Int32) (v1 : Int32) (v2 : Int32) : Option (Int32 × Int32) :=
  (X12_isCorner o_at v1).bind fun u2 =>
  if u2 = 0 then
  X12_cut_j16 F o_status o_at
  else
  (X12_isCorner o_at v2).bind fun u10 =>
  if u10 = 0 then
  X12_cut_j16 F o_status o_at
  else
  if v1 = v2 then
  (X12_refuse o_status (7 : Int32)).bind fun u30 =>
  some (u30.1, u30.2)
  else
  (iter (X12_cut_b41 F o_status o_at v1 v2) F (1000000, 0)).bind (fun (e41 : Int32) =>
    (X12_gives o_status e41).bind fun u88 =>
  some (u88.1, u88.2))
abbrev wd_X12_cut (E : vE) (a_o a_o_at a_o_names a_o_sort a_o_trayMany a_o_trays a_o_tape a_o_text a_o_opened a_o_farBy a_o_attendsBy a_o_coveredBy a_o_cameBy a_o_cameThen a_o_fallsBy a_o_loops a_o_ran a_o_told1 : Nat) (o_status : Int32) (o_top : Int64) (o_bottom : Int64) (o_taped : Int32) (o_size : Int32) (o_token : Int32) (o_from : Int32) (o_end : Int32) (o_value : Int32) (o_faultKind : Int32) (o_faultPlace : Int32) (o_faults : Int32) (o_seen : Int32) (o_toldParts : Int32) (o_depth : Int32) (o_counted : Int32) (o_becameThen : Int32) (o_firstCorner : Int32) (o_drawn : Int32) (o_ranSteps : Int32) (o_isTold : Int32) (o_marks : Int32) (o_at : Nat → Int32) : va_W := [(a_o, .inr (12, [.ref a_o_at, .ref a_o_names, .int o_status, .long o_top, .long o_bottom, .ref a_o_sort, .ref a_o_trayMany, .ref a_o_trays, .ref a_o_tape, .ref a_o_text, .int o_taped, .int o_size, .int o_token, .int o_from, .int o_end, .int o_value, .int o_faultKind, .int o_faultPlace, .int o_faults, .int o_seen, .int o_toldParts, .ref a_o_opened, .int o_depth, .int o_counted, .ref a_o_farBy, .int o_becameThen, .ref a_o_attendsBy, .ref a_o_coveredBy, .ref a_o_cameBy, .ref a_o_cameThen, .int o_firstCorner, .ref a_o_fallsBy, .int o_drawn, .int o_ranSteps, .ref a_o_loops, .ref a_o_ran, .ref a_o_told1, .int o_isTold, .int o_marks])), (a_o_at, .inl (E.2.1, 3097, .inl o_at))]
set_option maxHeartbeats 4000000 in
set_option maxRecDepth 100000 in
theorem ct_X12_cut (l : Launch) (E : vE) (F : Nat) (a_o a_o_at a_o_names a_o_sort a_o_trayMany a_o_trays a_o_tape a_o_text a_o_opened a_o_farBy a_o_attendsBy a_o_coveredBy a_o_cameBy a_o_cameThen a_o_fallsBy a_o_loops a_o_ran a_o_told1 : Nat) (o_status : Int32) (o_top : Int64) (o_bottom : Int64) (o_taped : Int32) (o_size : Int32) (o_token : Int32) (o_from : Int32) (o_end : Int32) (o_value : Int32) (o_faultKind : Int32) (o_faultPlace : Int32) (o_faults : Int32) (o_seen : Int32) (o_toldParts : Int32) (o_depth : Int32) (o_counted : Int32) (o_becameThen : Int32) (o_firstCorner : Int32) (o_drawn : Int32) (o_ranSteps : Int32) (o_isTold : Int32) (o_marks : Int32) (o_at : Nat → Int32) (v1 : Int32) (v2 : Int32) (u : Int32 × Int32) (hf : X12_cut F o_status o_at v1 v2 = some u) :
    CtI l yX12_cut cX12_cut 5 (some .int) 2 E [.ref a_o, .int v1, .int v2] (wd_X12_cut E a_o a_o_at a_o_names a_o_sort a_o_trayMany a_o_trays a_o_tape a_o_text a_o_opened a_o_farBy a_o_attendsBy a_o_coveredBy a_o_cameBy a_o_cameThen a_o_fallsBy a_o_loops a_o_ran a_o_told1 o_status o_top o_bottom o_taped o_size o_token o_from o_end o_value o_faultKind o_faultPlace o_faults o_seen o_toldParts o_depth o_counted o_becameThen o_firstCorner o_drawn o_ranSteps o_isTold o_marks o_at) (wd_X12_cut E a_o a_o_at a_o_names a_o_sort a_o_trayMany a_o_trays a_o_tape a_o_text a_o_opened a_o_farBy a_o_attendsBy a_o_coveredBy a_o_cameBy a_o_cameThen a_o_fallsBy a_o_loops a_o_ran a_o_told1 u.2 o_top o_bottom o_taped o_size o_token o_from o_end o_value o_faultKind o_faultPlace o_faults o_seen o_toldParts o_depth o_counted o_becameThen o_firstCorner o_drawn o_ranSteps o_isTold o_marks o_at) u.1 := by
  refine ctI (by decide) (Nat.le_of_ble_eq_true rfl) ?_
  intro p e s m below meth cd A ls aa QQ hq cx hP hD hS hl
  obtain ⟨⟨hx, hb, hml, hown, hts⟩, hr, hlocks, hK, hA, hX⟩ := id cx
  have hl : lv_has ls 5 [(0, .ref a_o), (1, .int v1), (2, .int v2)] := hl
  have hj16 : ∀ (o_status_j16 : Int32) (H : Heap) (locs : List Loc) (ls : Array Slot), X12_cut_j16 F o_status_j16 o_at = some u → va_P E.1 vwCl (wd_X12_cut E a_o a_o_at a_o_names a_o_sort a_o_trayMany a_o_trays a_o_tape a_o_text a_o_opened a_o_farBy a_o_attendsBy a_o_coveredBy a_o_cameBy a_o_cameThen a_o_fallsBy a_o_loops a_o_ran a_o_told1 o_status_j16 o_top o_bottom o_taped o_size o_token o_from o_end o_value o_faultKind o_faultPlace o_faults o_seen o_toldParts o_depth o_counted o_becameThen o_firstCorner o_drawn o_ranSteps o_isTold o_marks o_at) H → va_D A (wd_X12_cut E a_o a_o_at a_o_names a_o_sort a_o_trayMany a_o_trays a_o_tape a_o_text a_o_opened a_o_farBy a_o_attendsBy a_o_coveredBy a_o_cameBy a_o_cameThen a_o_fallsBy a_o_loops a_o_ran a_o_told1 o_status_j16 o_top o_bottom o_taped o_size o_token o_from o_end o_value o_faultKind o_faultPlace o_faults o_seen o_toldParts o_depth o_counted o_becameThen o_firstCorner o_drawn o_ranSteps o_isTold o_marks o_at) → va_S A s.heap H locs → lv_has ls 5 [(0, .ref a_o)] → W p l e (rmd 2) s m aa below meth cd H locs 0 0 QQ (F0 m 16 ls []) := by
    intro o_status_j16 H locs ls hf hP hD hS hl
    unfold X12_cut_j16 at hf
    refine lv_aload_n hx hb dX12_cut_16 rfl (lv_at hl 0 rfl) ?_
    refine lv_iconst (v := 1) hx hb dX12_cut_17 (by decide) ?_
    obtain ⟨u18, hu18, hf⟩ := bd hf
    refine callVI (wn := (wd_X12_cut E a_o a_o_at a_o_names a_o_sort a_o_trayMany a_o_trays a_o_tape a_o_text a_o_opened a_o_farBy a_o_attendsBy a_o_coveredBy a_o_cameBy a_o_cameThen a_o_fallsBy a_o_loops a_o_ran a_o_told1 u18.2 o_top o_bottom o_taped o_size o_token o_from o_end o_value o_faultKind o_faultPlace o_faults o_seen o_toldParts o_depth o_counted o_becameThen o_firstCorner o_drawn o_ranSteps o_isTold o_marks o_at)) (n1 := 2) (ct_X12_refuse l E a_o a_o_at a_o_names a_o_sort a_o_trayMany a_o_trays a_o_tape a_o_text a_o_opened a_o_farBy a_o_attendsBy a_o_coveredBy a_o_cameBy a_o_cameThen a_o_fallsBy a_o_loops a_o_ran a_o_told1 o_status_j16 o_top o_bottom o_taped o_size o_token o_from o_end o_value o_faultKind o_faultPlace o_faults o_seen o_toldParts o_depth o_counted o_becameThen o_firstCorner o_drawn o_ranSteps o_isTold o_marks (1 : Int32) u18 hu18) [0] cal_X12_refuse cav_X12_refuse lk_X12_85 cx hP hD hS hl dX12_cut_18 rfl rfl rfl rfl (Nat.le_of_ble_eq_true rfl) ⟨Nat.le_of_ble_eq_true rfl, Nat.le_of_ble_eq_true rfl⟩ rfl (by decide +kernel) rfl [some 0, none] rfl (by decide +kernel) rfl (fun H locs hP hD hS => ?_)
    obtain rfl := Option.some.inj hf
    subst hq
    exact retI cx hP hD hS dX12_cut_21
  unfold X12_cut at hf
  refine lv_aload_n hx hb dX12_cut_0 rfl (lv_at hl 0 rfl) ?_
  refine lv_iload_n hx hb dX12_cut_1 rfl (lv_at hl 1 rfl) ?_
  obtain ⟨u2, hu2, hf⟩ := bd hf
  refine keepVI (ct_X12_isCorner l E a_o a_o_at a_o_names a_o_sort a_o_trayMany a_o_trays a_o_tape a_o_text a_o_opened a_o_farBy a_o_attendsBy a_o_coveredBy a_o_cameBy a_o_cameThen a_o_fallsBy a_o_loops a_o_ran a_o_told1 o_status o_top o_bottom o_taped o_size o_token o_from o_end o_value o_faultKind o_faultPlace o_faults o_seen o_toldParts o_depth o_counted o_becameThen o_firstCorner o_drawn o_ranSteps o_isTold o_marks o_at v1 u2 hu2) [0, 1] cal_X12_isCorner cav_X12_isCorner lk_X12_311 cx hP hD hS hl dX12_cut_2 rfl rfl rfl rfl (Nat.le_of_ble_eq_true rfl) ⟨Nat.le_of_ble_eq_true rfl, Nat.le_of_ble_eq_true rfl⟩ rfl (by decide) (fun H locs hP hS => ?_)
  refine lv_if_eq (tgt := 16) hx hb dX12_cut_5 (by decide) (fun hc => ?_) (fun hc => ?_)
  · have hf := it_t hc hf
    exact hj16 _ _ _ _ hf hP hD hS (lv_sub hl [0] rfl)
  · have hf := it_f hc hf
    refine lv_aload_n hx hb dX12_cut_8 rfl (lv_at hl 0 rfl) ?_
    refine lv_iload_n hx hb dX12_cut_9 rfl (lv_at hl 2 rfl) ?_
    obtain ⟨u10, hu10, hf⟩ := bd hf
    refine keepVI (ct_X12_isCorner l E a_o a_o_at a_o_names a_o_sort a_o_trayMany a_o_trays a_o_tape a_o_text a_o_opened a_o_farBy a_o_attendsBy a_o_coveredBy a_o_cameBy a_o_cameThen a_o_fallsBy a_o_loops a_o_ran a_o_told1 o_status o_top o_bottom o_taped o_size o_token o_from o_end o_value o_faultKind o_faultPlace o_faults o_seen o_toldParts o_depth o_counted o_becameThen o_firstCorner o_drawn o_ranSteps o_isTold o_marks o_at v2 u10 hu10) [0, 1] cal_X12_isCorner cav_X12_isCorner lk_X12_311 cx hP hD hS hl dX12_cut_10 rfl rfl rfl rfl (Nat.le_of_ble_eq_true rfl) ⟨Nat.le_of_ble_eq_true rfl, Nat.le_of_ble_eq_true rfl⟩ rfl (by decide) (fun H locs hP hS => ?_)
    refine lv_if_ne (tgt := 22) hx hb dX12_cut_13 (by decide) (fun hc => ?_) (fun hc => ?_)
    · have hf := it_f hc hf
      refine lv_iload_n hx hb dX12_cut_22 rfl (lv_at hl 1 rfl) ?_
      refine lv_iload_n hx hb dX12_cut_23 rfl (lv_at hl 2 rfl) ?_
      refine lv_icmp_ne (tgt := 34) hx hb dX12_cut_24 (by decide) (fun hc => ?_) (fun hc => ?_)
      · have hf := it_f hc hf
        refine lv_ldcw (v := 1000000) hx hb hown (hts _ ki_X12_314) dX12_cut_34 ?_
        refine lv_istore_n (lv' := [(3, .int 1000000), (0, .ref a_o), (1, .int v1), (2, .int v2)]) hx hb dX12_cut_37 rfl hl (by decide) rfl (fun ls hl => ?_)
        refine lv_iconst (v := 0) hx hb dX12_cut_38 (by decide) ?_
        refine lv_istore (lv' := [(4, .int 0), (3, .int 1000000), (0, .ref a_o), (1, .int v1), (2, .int v2)]) hx hb dX12_cut_39 hl (by decide) rfl (fun ls hl => ?_)
        obtain ⟨e41, hit41, hf⟩ := bd hf
        refine iter_W (b := X12_cut_b41 F o_status o_at v1 v2) (P := fun st41 => ∀ (H : Heap) (locs : List Loc) (ls : Array Slot), va_P E.1 vwCl (wd_X12_cut E a_o a_o_at a_o_names a_o_sort a_o_trayMany a_o_trays a_o_tape a_o_text a_o_opened a_o_farBy a_o_attendsBy a_o_coveredBy a_o_cameBy a_o_cameThen a_o_fallsBy a_o_loops a_o_ran a_o_told1 o_status o_top o_bottom o_taped o_size o_token o_from o_end o_value o_faultKind o_faultPlace o_faults o_seen o_toldParts o_depth o_counted o_becameThen o_firstCorner o_drawn o_ranSteps o_isTold o_marks o_at) H → va_D A (wd_X12_cut E a_o a_o_at a_o_names a_o_sort a_o_trayMany a_o_trays a_o_tape a_o_text a_o_opened a_o_farBy a_o_attendsBy a_o_coveredBy a_o_cameBy a_o_cameThen a_o_fallsBy a_o_loops a_o_ran a_o_told1 o_status o_top o_bottom o_taped o_size o_token o_from o_end o_value o_faultKind o_faultPlace o_faults o_seen o_toldParts o_depth o_counted o_becameThen o_firstCorner o_drawn o_ranSteps o_isTold o_marks o_at) → va_S A s.heap H locs → lv_has ls 5 [(0, .ref a_o), (1, .int v1), (2, .int v2), (3, .int st41.1), (4, .int st41.2)] → W p l e (rmd 2) s m aa below meth cd H locs 0 0 QQ (F0 m 41 ls [])) (G := (fun (e41 : Int32) => ∀ (H : Heap) (locs : List Loc) (ls : Array Slot), va_P E.1 vwCl (wd_X12_cut E a_o a_o_at a_o_names a_o_sort a_o_trayMany a_o_trays a_o_tape a_o_text a_o_opened a_o_farBy a_o_attendsBy a_o_coveredBy a_o_cameBy a_o_cameThen a_o_fallsBy a_o_loops a_o_ran a_o_told1 o_status o_top o_bottom o_taped o_size o_token o_from o_end o_value o_faultKind o_faultPlace o_faults o_seen o_toldParts o_depth o_counted o_becameThen o_firstCorner o_drawn o_ranSteps o_isTold o_marks o_at) H → va_D A (wd_X12_cut E a_o a_o_at a_o_names a_o_sort a_o_trayMany a_o_trays a_o_tape a_o_text a_o_opened a_o_farBy a_o_attendsBy a_o_coveredBy a_o_cameBy a_o_cameThen a_o_fallsBy a_o_loops a_o_ran a_o_told1 o_status o_top o_bottom o_taped o_size o_token o_from o_end o_value o_faultKind o_faultPlace o_faults o_seen o_toldParts o_depth o_counted o_becameThen o_firstCorner o_drawn o_ranSteps o_isTold o_marks o_at) → va_S A s.heap H locs → lv_has ls 5 [(0, .ref a_o), (3, .int e41)] → W p l e (rmd 2) s m aa below meth cd H locs 0 0 QQ (F0 m 86 ls []))) ?_ F (1000000, 0) e41 hit41 ?_ _ _ _ hP hD hS (lv_sub hl [2, 3, 4, 1, 0] rfl)
        · intro st41 r41 hf hk41 he41 H locs ls hP hD hS hl
          have hj80 : ∀ (v3_j80 : Int32) (v4_j80 : Int32) (H : Heap) (locs : List Loc) (ls : Array Slot), X12_cut_j80 F o_status o_at v1 v2 v3_j80 v4_j80 = some r41 → va_P E.1 vwCl (wd_X12_cut E a_o a_o_at a_o_names a_o_sort a_o_trayMany a_o_trays a_o_tape a_o_text a_o_opened a_o_farBy a_o_attendsBy a_o_coveredBy a_o_cameBy a_o_cameThen a_o_fallsBy a_o_loops a_o_ran a_o_told1 o_status o_top o_bottom o_taped o_size o_token o_from o_end o_value o_faultKind o_faultPlace o_faults o_seen o_toldParts o_depth o_counted o_becameThen o_firstCorner o_drawn o_ranSteps o_isTold o_marks o_at) H → va_D A (wd_X12_cut E a_o a_o_at a_o_names a_o_sort a_o_trayMany a_o_trays a_o_tape a_o_text a_o_opened a_o_farBy a_o_attendsBy a_o_coveredBy a_o_cameBy a_o_cameThen a_o_fallsBy a_o_loops a_o_ran a_o_told1 o_status o_top o_bottom o_taped o_size o_token o_from o_end o_value o_faultKind o_faultPlace o_faults o_seen o_toldParts o_depth o_counted o_becameThen o_firstCorner o_drawn o_ranSteps o_isTold o_marks o_at) → va_S A s.heap H locs → lv_has ls 5 [(0, .ref a_o), (1, .int v1), (2, .int v2), (3, .int v3_j80), (4, .int v4_j80)] → W p l e (rmd 2) s m aa below meth cd H locs 0 0 QQ (F0 m 80 ls []) := by
            intro v3_j80 v4_j80 H locs ls hf hP hD hS hl
            unfold X12_cut_j80 at hf
            refine lv_iinc (v := (v4_j80 + 1)) (lv' := [(4, .int (v4_j80 + 1)), (0, .ref a_o), (1, .int v1), (2, .int v2), (3, .int v3_j80)]) hx hb dX12_cut_80 hl (k := 4) rfl rfl (by decide) rfl (fun ls hl => ?_)
            refine lv_goto (tgt := 41) hx hb dX12_cut_83 (by decide) ?_
            exact hk41 _ (Option.some.inj hf).symm _ _ _ hP hD hS (lv_sub hl [1, 2, 3, 4, 0] rfl)
          unfold X12_cut_b41 at hf
          refine lv_iload hx hb dX12_cut_41 (lv_at hl 4 rfl) ?_
          refine lv_iconst (v := 1) hx hb dX12_cut_43 (by decide) ?_
          refine lv_aload_n hx hb dX12_cut_44 rfl (lv_at hl 0 rfl) ?_
          refine va_get (D := E.1) (ci := 12) (v := .ref a_o_at) (C := RX12) (T := TX12) (N := 39) hx hb hts inX12 hown hK hP 0 rfl rfl 0 (by decide) (hts _ fl_X12_7) (fun _ h9 => h9) rfl dX12_cut_45 ?_
          refine lv_iconst (v := 1) hx hb dX12_cut_48 (by decide) ?_
          obtain ⟨hi, hf⟩ := ck hf
          refine r_iald 1 cx hP rfl hi dX12_cut_49 ?_
          refine r_ishl hx hb dX12_cut_50 ?_
          refine lv_icmp_ge (tgt := 86) hx hb dX12_cut_51 (by decide) (fun hc => ?_) (fun hc => ?_)
          · have hf := it_t hc hf
            exact he41 _ (Option.some.inj hf).symm _ _ _ hP hD hS (lv_sub hl [0, 3] rfl)
          · have hf := it_f hc hf
            refine lv_iload hx hb dX12_cut_54 (lv_at hl 4 rfl) ?_
            obtain ⟨u56, hu56, hf⟩ := bd hf
            refine keepSI (ct_X12_bits l E F st41.2 u56 hu56) [] cal_X12_bits sta_X12_bits lk_X12_302 cx hP hD hS hl dX12_cut_56 rfl rfl (Nat.le_of_ble_eq_true rfl) ⟨Nat.le_of_ble_eq_true rfl, Nat.le_of_ble_eq_true rfl⟩ rfl (by decide) (fun H locs hP hS => ?_)
            refine lv_iload_n hx hb dX12_cut_59 rfl (lv_at hl 3 rfl) ?_
            refine lv_icmp_ge (tgt := 80) hx hb dX12_cut_60 (by decide) (fun hc => ?_) (fun hc => ?_)
            · have hf := it_t hc hf
              exact hj80 _ _ _ _ _ hf hP hD hS (lv_sub hl [0, 1, 2, 3, 4] rfl)
            · have hf := it_f hc hf
              refine lv_aload_n hx hb dX12_cut_63 rfl (lv_at hl 0 rfl) ?_
              refine lv_iload_n hx hb dX12_cut_64 rfl (lv_at hl 1 rfl) ?_
              refine lv_iload_n hx hb dX12_cut_65 rfl (lv_at hl 2 rfl) ?_
              refine lv_iload hx hb dX12_cut_66 (lv_at hl 4 rfl) ?_
              obtain ⟨u68, hu68, hf⟩ := bd hf
              refine keepVI (ct_X12_isOpen l E F a_o a_o_at a_o_names a_o_sort a_o_trayMany a_o_trays a_o_tape a_o_text a_o_opened a_o_farBy a_o_attendsBy a_o_coveredBy a_o_cameBy a_o_cameThen a_o_fallsBy a_o_loops a_o_ran a_o_told1 o_status o_top o_bottom o_taped o_size o_token o_from o_end o_value o_faultKind o_faultPlace o_faults o_seen o_toldParts o_depth o_counted o_becameThen o_firstCorner o_drawn o_ranSteps o_isTold o_marks o_at v1 v2 st41.2 u68 hu68) [0, 1] cal_X12_isOpen cav_X12_isOpen lk_X12_330 cx hP hD hS hl dX12_cut_68 rfl rfl rfl rfl (Nat.le_of_ble_eq_true rfl) ⟨Nat.le_of_ble_eq_true rfl, Nat.le_of_ble_eq_true rfl⟩ rfl (by decide) (fun H locs hP hS => ?_)
              refine lv_if_ne (tgt := 80) hx hb dX12_cut_71 (by decide) (fun hc => ?_) (fun hc => ?_)
              · have hf := it_f hc hf
                exact hj80 _ _ _ _ _ hf hP hD hS (lv_sub hl [0, 1, 2, 3, 4] rfl)
              · have hf := it_t hc hf
                refine lv_iload hx hb dX12_cut_74 (lv_at hl 4 rfl) ?_
                obtain ⟨u76, hu76, hf⟩ := bd hf
                refine keepSI (ct_X12_bits l E F st41.2 u76 hu76) [] cal_X12_bits sta_X12_bits lk_X12_302 cx hP hD hS hl dX12_cut_76 rfl rfl (Nat.le_of_ble_eq_true rfl) ⟨Nat.le_of_ble_eq_true rfl, Nat.le_of_ble_eq_true rfl⟩ rfl (by decide) (fun H locs hP hS => ?_)
                refine lv_istore_n (lv' := [(3, .int u76), (0, .ref a_o), (1, .int v1), (2, .int v2), (4, .int st41.2)]) hx hb dX12_cut_79 rfl hl (by decide) rfl (fun ls hl => ?_)
                exact hj80 _ _ _ _ _ hf hP hD hS (lv_sub hl [1, 2, 3, 0, 4] rfl)
        · refine fun H locs ls hP hD hS hl => ?_
          refine lv_aload_n hx hb dX12_cut_86 rfl (lv_at hl 0 rfl) ?_
          refine lv_iload_n hx hb dX12_cut_87 rfl (lv_at hl 1 rfl) ?_
          obtain ⟨u88, hu88, hf⟩ := bd hf
          refine callVI (wn := (wd_X12_cut E a_o a_o_at a_o_names a_o_sort a_o_trayMany a_o_trays a_o_tape a_o_text a_o_opened a_o_farBy a_o_attendsBy a_o_coveredBy a_o_cameBy a_o_cameThen a_o_fallsBy a_o_loops a_o_ran a_o_told1 u88.2 o_top o_bottom o_taped o_size o_token o_from o_end o_value o_faultKind o_faultPlace o_faults o_seen o_toldParts o_depth o_counted o_becameThen o_firstCorner o_drawn o_ranSteps o_isTold o_marks o_at)) (n1 := 2) (ct_X12_gives l E a_o a_o_at a_o_names a_o_sort a_o_trayMany a_o_trays a_o_tape a_o_text a_o_opened a_o_farBy a_o_attendsBy a_o_coveredBy a_o_cameBy a_o_cameThen a_o_fallsBy a_o_loops a_o_ran a_o_told1 o_status o_top o_bottom o_taped o_size o_token o_from o_end o_value o_faultKind o_faultPlace o_faults o_seen o_toldParts o_depth o_counted o_becameThen o_firstCorner o_drawn o_ranSteps o_isTold o_marks e41 u88 hu88) [0] cal_X12_gives cav_X12_gives lk_X12_89 cx hP hD hS hl dX12_cut_88 rfl rfl rfl rfl (Nat.le_of_ble_eq_true rfl) ⟨Nat.le_of_ble_eq_true rfl, Nat.le_of_ble_eq_true rfl⟩ rfl (by decide +kernel) rfl [some 0, none] rfl (by decide +kernel) rfl (fun H locs hP hD hS => ?_)
          obtain rfl := Option.some.inj hf
          subst hq
          exact retI cx hP hD hS dX12_cut_91
      · have hf := it_t hc hf
        refine lv_aload_n hx hb dX12_cut_27 rfl (lv_at hl 0 rfl) ?_
        refine lv_bipush (v := 7) hx hb dX12_cut_28 (by decide) ?_
        obtain ⟨u30, hu30, hf⟩ := bd hf
        refine callVI (wn := (wd_X12_cut E a_o a_o_at a_o_names a_o_sort a_o_trayMany a_o_trays a_o_tape a_o_text a_o_opened a_o_farBy a_o_attendsBy a_o_coveredBy a_o_cameBy a_o_cameThen a_o_fallsBy a_o_loops a_o_ran a_o_told1 u30.2 o_top o_bottom o_taped o_size o_token o_from o_end o_value o_faultKind o_faultPlace o_faults o_seen o_toldParts o_depth o_counted o_becameThen o_firstCorner o_drawn o_ranSteps o_isTold o_marks o_at)) (n1 := 2) (ct_X12_refuse l E a_o a_o_at a_o_names a_o_sort a_o_trayMany a_o_trays a_o_tape a_o_text a_o_opened a_o_farBy a_o_attendsBy a_o_coveredBy a_o_cameBy a_o_cameThen a_o_fallsBy a_o_loops a_o_ran a_o_told1 o_status o_top o_bottom o_taped o_size o_token o_from o_end o_value o_faultKind o_faultPlace o_faults o_seen o_toldParts o_depth o_counted o_becameThen o_firstCorner o_drawn o_ranSteps o_isTold o_marks (7 : Int32) u30 hu30) [0] cal_X12_refuse cav_X12_refuse lk_X12_85 cx hP hD hS hl dX12_cut_30 rfl rfl rfl rfl (Nat.le_of_ble_eq_true rfl) ⟨Nat.le_of_ble_eq_true rfl, Nat.le_of_ble_eq_true rfl⟩ rfl (by decide +kernel) rfl [some 0, none] rfl (by decide +kernel) rfl (fun H locs hP hD hS => ?_)
        obtain rfl := Option.some.inj hf
        subst hq
        exact retI cx hP hD hS dX12_cut_33
    · have hf := it_t hc hf
      exact hj16 _ _ _ _ hf hP hD hS (lv_sub hl [0] rfl)
def X12_isToCome (o_at : Nat → Int32) (v1 : Int32) : Option (Int32) :=
  (X12_happeningOf o_at v1 (3 : Int32)).bind fun u3 =>
  if u3 = 0 then
  some 1
  else
  some 0
abbrev wd_X12_isToCome (E : vE) (a_o a_o_at a_o_names a_o_sort a_o_trayMany a_o_trays a_o_tape a_o_text a_o_opened a_o_farBy a_o_attendsBy a_o_coveredBy a_o_cameBy a_o_cameThen a_o_fallsBy a_o_loops a_o_ran a_o_told1 : Nat) (o_status : Int32) (o_top : Int64) (o_bottom : Int64) (o_taped : Int32) (o_size : Int32) (o_token : Int32) (o_from : Int32) (o_end : Int32) (o_value : Int32) (o_faultKind : Int32) (o_faultPlace : Int32) (o_faults : Int32) (o_seen : Int32) (o_toldParts : Int32) (o_depth : Int32) (o_counted : Int32) (o_becameThen : Int32) (o_firstCorner : Int32) (o_drawn : Int32) (o_ranSteps : Int32) (o_isTold : Int32) (o_marks : Int32) (o_at : Nat → Int32) : va_W := [(a_o, .inr (12, [.ref a_o_at, .ref a_o_names, .int o_status, .long o_top, .long o_bottom, .ref a_o_sort, .ref a_o_trayMany, .ref a_o_trays, .ref a_o_tape, .ref a_o_text, .int o_taped, .int o_size, .int o_token, .int o_from, .int o_end, .int o_value, .int o_faultKind, .int o_faultPlace, .int o_faults, .int o_seen, .int o_toldParts, .ref a_o_opened, .int o_depth, .int o_counted, .ref a_o_farBy, .int o_becameThen, .ref a_o_attendsBy, .ref a_o_coveredBy, .ref a_o_cameBy, .ref a_o_cameThen, .int o_firstCorner, .ref a_o_fallsBy, .int o_drawn, .int o_ranSteps, .ref a_o_loops, .ref a_o_ran, .ref a_o_told1, .int o_isTold, .int o_marks])), (a_o_at, .inl (E.2.1, 3097, .inl o_at))]
set_option maxHeartbeats 4000000 in
set_option maxRecDepth 100000 in
theorem ct_X12_isToCome (l : Launch) (E : vE) (a_o a_o_at a_o_names a_o_sort a_o_trayMany a_o_trays a_o_tape a_o_text a_o_opened a_o_farBy a_o_attendsBy a_o_coveredBy a_o_cameBy a_o_cameThen a_o_fallsBy a_o_loops a_o_ran a_o_told1 : Nat) (o_status : Int32) (o_top : Int64) (o_bottom : Int64) (o_taped : Int32) (o_size : Int32) (o_token : Int32) (o_from : Int32) (o_end : Int32) (o_value : Int32) (o_faultKind : Int32) (o_faultPlace : Int32) (o_faults : Int32) (o_seen : Int32) (o_toldParts : Int32) (o_depth : Int32) (o_counted : Int32) (o_becameThen : Int32) (o_firstCorner : Int32) (o_drawn : Int32) (o_ranSteps : Int32) (o_isTold : Int32) (o_marks : Int32) (o_at : Nat → Int32) (v1 : Int32) (u : Int32) (hf : X12_isToCome o_at v1 = some u) :
    CtI l yX12_isToCome cX12_isToCome 2 (some .boolean) 2 E [.ref a_o, .int v1] (wd_X12_isToCome E a_o a_o_at a_o_names a_o_sort a_o_trayMany a_o_trays a_o_tape a_o_text a_o_opened a_o_farBy a_o_attendsBy a_o_coveredBy a_o_cameBy a_o_cameThen a_o_fallsBy a_o_loops a_o_ran a_o_told1 o_status o_top o_bottom o_taped o_size o_token o_from o_end o_value o_faultKind o_faultPlace o_faults o_seen o_toldParts o_depth o_counted o_becameThen o_firstCorner o_drawn o_ranSteps o_isTold o_marks o_at) (wd_X12_isToCome E a_o a_o_at a_o_names a_o_sort a_o_trayMany a_o_trays a_o_tape a_o_text a_o_opened a_o_farBy a_o_attendsBy a_o_coveredBy a_o_cameBy a_o_cameThen a_o_fallsBy a_o_loops a_o_ran a_o_told1 o_status o_top o_bottom o_taped o_size o_token o_from o_end o_value o_faultKind o_faultPlace o_faults o_seen o_toldParts o_depth o_counted o_becameThen o_firstCorner o_drawn o_ranSteps o_isTold o_marks o_at) u := by
  refine ctI (by decide) (Nat.le_of_ble_eq_true rfl) ?_
  intro p e s m below meth cd A ls aa QQ hq cx hP hD hS hl
  obtain ⟨⟨hx, hb, hml, hown, hts⟩, hr, hlocks, hK, hA, hX⟩ := id cx
  have hl : lv_has ls 2 [(0, .ref a_o), (1, .int v1)] := hl
  unfold X12_isToCome at hf
  refine lv_aload_n hx hb dX12_isToCome_0 rfl (lv_at hl 0 rfl) ?_
  refine lv_iload_n hx hb dX12_isToCome_1 rfl (lv_at hl 1 rfl) ?_
  refine lv_iconst (v := 3) hx hb dX12_isToCome_2 (by decide) ?_
  obtain ⟨u3, hu3, hf⟩ := bd hf
  refine keepVI (ct_X12_happeningOf l E a_o a_o_at a_o_names a_o_sort a_o_trayMany a_o_trays a_o_tape a_o_text a_o_opened a_o_farBy a_o_attendsBy a_o_coveredBy a_o_cameBy a_o_cameThen a_o_fallsBy a_o_loops a_o_ran a_o_told1 o_status o_top o_bottom o_taped o_size o_token o_from o_end o_value o_faultKind o_faultPlace o_faults o_seen o_toldParts o_depth o_counted o_becameThen o_firstCorner o_drawn o_ranSteps o_isTold o_marks o_at v1 (3 : Int32) u3 hu3) [0, 1] cal_X12_happeningOf cav_X12_happeningOf lk_X12_278 cx hP hD hS hl dX12_isToCome_3 rfl rfl rfl rfl (Nat.le_of_ble_eq_true rfl) ⟨Nat.le_of_ble_eq_true rfl, Nat.le_of_ble_eq_true rfl⟩ rfl (by decide) (fun H locs hP hS => ?_)
  refine lv_if_ne (tgt := 13) hx hb dX12_isToCome_6 (by decide) (fun hc => ?_) (fun hc => ?_)
  · have hf := it_f hc hf
    refine lv_iconst (v := 0) hx hb dX12_isToCome_13 (by decide) ?_
    obtain rfl := Option.some.inj hf
    subst hq
    exact retZ cx rfl hP hD hS dX12_isToCome_14
  · have hf := it_t hc hf
    refine lv_iconst (v := 1) hx hb dX12_isToCome_9 (by decide) ?_
    refine lv_goto (tgt := 14) hx hb dX12_isToCome_10 (by decide) ?_
    obtain rfl := Option.some.inj hf
    subst hq
    exact retZ cx rfl hP hD hS dX12_isToCome_14
def X12_soonestOf_j53 (F : Nat) (o_at : Nat → Int32) (v1 : Int32) (v2 : Int32) (v3 : Int32) : Option ((Int32 × Int32) ⊕ ((Int32))) :=
  some (.inl (v2, (v3 + 1)))
def X12_soonestOf_j51 (F : Nat) (o_at : Nat → Int32) (v1 : Int32) (v3 : Int32) : Option ((Int32 × Int32) ⊕ ((Int32))) :=
  X12_soonestOf_j53 F o_at v1 v3 v3
def X12_soonestOf_b4 (F : Nat) (o_at : Nat → Int32) (v1 : Int32) (st4 : Int32 × Int32) : Option ((Int32 × Int32) ⊕ ((Int32))) :=
  if ix 3 3097 then
  if (jat o_at 3) ≤ st4.2 then
  some (.inr st4.1)
  else
  (X12_isIn v1 st4.2).bind fun u17 =>
  if u17 = 0 then
  X12_soonestOf_j53 F o_at v1 st4.1 st4.2
  else
  (X12_isToCome o_at st4.2).bind fun u25 =>
  if u25 = 0 then
  X12_soonestOf_j53 F o_at v1 st4.1 st4.2
  else
  if st4.1 = (-1) then
  X12_soonestOf_j51 F o_at v1 st4.2
  else
  (X12_happeningOf o_at st4.2 (1 : Int32)).bind fun u39 =>
  (X12_happeningOf o_at st4.1 (1 : Int32)).bind fun u45 =>
  if u45 ≤ u39 then
  X12_soonestOf_j53 F o_at v1 st4.1 st4.2
  else
  X12_soonestOf_j51 F o_at v1 st4.2
  else none
def X12_soonestOf (F : Nat) (o_at : Nat → Int32) (v1 : Int32) : Option (Int32) :=
  (iter (X12_soonestOf_b4 F o_at v1) F ((-1), 0)).bind (fun (e4 : Int32) =>
    some e4)
abbrev wd_X12_soonestOf (E : vE) (a_o a_o_at a_o_names a_o_sort a_o_trayMany a_o_trays a_o_tape a_o_text a_o_opened a_o_farBy a_o_attendsBy a_o_coveredBy a_o_cameBy a_o_cameThen a_o_fallsBy a_o_loops a_o_ran a_o_told1 : Nat) (o_status : Int32) (o_top : Int64) (o_bottom : Int64) (o_taped : Int32) (o_size : Int32) (o_token : Int32) (o_from : Int32) (o_end : Int32) (o_value : Int32) (o_faultKind : Int32) (o_faultPlace : Int32) (o_faults : Int32) (o_seen : Int32) (o_toldParts : Int32) (o_depth : Int32) (o_counted : Int32) (o_becameThen : Int32) (o_firstCorner : Int32) (o_drawn : Int32) (o_ranSteps : Int32) (o_isTold : Int32) (o_marks : Int32) (o_at : Nat → Int32) : va_W := [(a_o, .inr (12, [.ref a_o_at, .ref a_o_names, .int o_status, .long o_top, .long o_bottom, .ref a_o_sort, .ref a_o_trayMany, .ref a_o_trays, .ref a_o_tape, .ref a_o_text, .int o_taped, .int o_size, .int o_token, .int o_from, .int o_end, .int o_value, .int o_faultKind, .int o_faultPlace, .int o_faults, .int o_seen, .int o_toldParts, .ref a_o_opened, .int o_depth, .int o_counted, .ref a_o_farBy, .int o_becameThen, .ref a_o_attendsBy, .ref a_o_coveredBy, .ref a_o_cameBy, .ref a_o_cameThen, .int o_firstCorner, .ref a_o_fallsBy, .int o_drawn, .int o_ranSteps, .ref a_o_loops, .ref a_o_ran, .ref a_o_told1, .int o_isTold, .int o_marks])), (a_o_at, .inl (E.2.1, 3097, .inl o_at))]
set_option maxHeartbeats 4000000 in
set_option maxRecDepth 100000 in
theorem ct_X12_soonestOf (l : Launch) (E : vE) (F : Nat) (a_o a_o_at a_o_names a_o_sort a_o_trayMany a_o_trays a_o_tape a_o_text a_o_opened a_o_farBy a_o_attendsBy a_o_coveredBy a_o_cameBy a_o_cameThen a_o_fallsBy a_o_loops a_o_ran a_o_told1 : Nat) (o_status : Int32) (o_top : Int64) (o_bottom : Int64) (o_taped : Int32) (o_size : Int32) (o_token : Int32) (o_from : Int32) (o_end : Int32) (o_value : Int32) (o_faultKind : Int32) (o_faultPlace : Int32) (o_faults : Int32) (o_seen : Int32) (o_toldParts : Int32) (o_depth : Int32) (o_counted : Int32) (o_becameThen : Int32) (o_firstCorner : Int32) (o_drawn : Int32) (o_ranSteps : Int32) (o_isTold : Int32) (o_marks : Int32) (o_at : Nat → Int32) (v1 : Int32) (u : Int32) (hf : X12_soonestOf F o_at v1 = some u) :
    CtI l yX12_soonestOf cX12_soonestOf 4 (some .int) 3 E [.ref a_o, .int v1] (wd_X12_soonestOf E a_o a_o_at a_o_names a_o_sort a_o_trayMany a_o_trays a_o_tape a_o_text a_o_opened a_o_farBy a_o_attendsBy a_o_coveredBy a_o_cameBy a_o_cameThen a_o_fallsBy a_o_loops a_o_ran a_o_told1 o_status o_top o_bottom o_taped o_size o_token o_from o_end o_value o_faultKind o_faultPlace o_faults o_seen o_toldParts o_depth o_counted o_becameThen o_firstCorner o_drawn o_ranSteps o_isTold o_marks o_at) (wd_X12_soonestOf E a_o a_o_at a_o_names a_o_sort a_o_trayMany a_o_trays a_o_tape a_o_text a_o_opened a_o_farBy a_o_attendsBy a_o_coveredBy a_o_cameBy a_o_cameThen a_o_fallsBy a_o_loops a_o_ran a_o_told1 o_status o_top o_bottom o_taped o_size o_token o_from o_end o_value o_faultKind o_faultPlace o_faults o_seen o_toldParts o_depth o_counted o_becameThen o_firstCorner o_drawn o_ranSteps o_isTold o_marks o_at) u := by
  refine ctI (by decide) (Nat.le_of_ble_eq_true rfl) ?_
  intro p e s m below meth cd A ls aa QQ hq cx hP hD hS hl
  obtain ⟨⟨hx, hb, hml, hown, hts⟩, hr, hlocks, hK, hA, hX⟩ := id cx
  have hl : lv_has ls 4 [(0, .ref a_o), (1, .int v1)] := hl
  unfold X12_soonestOf at hf
  refine lv_iconst (v := (-1)) hx hb dX12_soonestOf_0 (by decide) ?_
  refine lv_istore_n (lv' := [(2, .int (-1)), (0, .ref a_o), (1, .int v1)]) hx hb dX12_soonestOf_1 rfl hl (by decide) rfl (fun ls hl => ?_)
  refine lv_iconst (v := 0) hx hb dX12_soonestOf_2 (by decide) ?_
  refine lv_istore_n (lv' := [(3, .int 0), (2, .int (-1)), (0, .ref a_o), (1, .int v1)]) hx hb dX12_soonestOf_3 rfl hl (by decide) rfl (fun ls hl => ?_)
  obtain ⟨e4, hit4, hf⟩ := bd hf
  refine iter_W (b := X12_soonestOf_b4 F o_at v1) (P := fun st4 => ∀ (H : Heap) (locs : List Loc) (ls : Array Slot), va_P E.1 vwCl (wd_X12_soonestOf E a_o a_o_at a_o_names a_o_sort a_o_trayMany a_o_trays a_o_tape a_o_text a_o_opened a_o_farBy a_o_attendsBy a_o_coveredBy a_o_cameBy a_o_cameThen a_o_fallsBy a_o_loops a_o_ran a_o_told1 o_status o_top o_bottom o_taped o_size o_token o_from o_end o_value o_faultKind o_faultPlace o_faults o_seen o_toldParts o_depth o_counted o_becameThen o_firstCorner o_drawn o_ranSteps o_isTold o_marks o_at) H → va_D A (wd_X12_soonestOf E a_o a_o_at a_o_names a_o_sort a_o_trayMany a_o_trays a_o_tape a_o_text a_o_opened a_o_farBy a_o_attendsBy a_o_coveredBy a_o_cameBy a_o_cameThen a_o_fallsBy a_o_loops a_o_ran a_o_told1 o_status o_top o_bottom o_taped o_size o_token o_from o_end o_value o_faultKind o_faultPlace o_faults o_seen o_toldParts o_depth o_counted o_becameThen o_firstCorner o_drawn o_ranSteps o_isTold o_marks o_at) → va_S A s.heap H locs → lv_has ls 4 [(0, .ref a_o), (1, .int v1), (2, .int st4.1), (3, .int st4.2)] → W p l e (rmd 3) s m aa below meth cd H locs 0 0 QQ (F0 m 4 ls [])) (G := (fun (e4 : Int32) => ∀ (H : Heap) (locs : List Loc) (ls : Array Slot), va_P E.1 vwCl (wd_X12_soonestOf E a_o a_o_at a_o_names a_o_sort a_o_trayMany a_o_trays a_o_tape a_o_text a_o_opened a_o_farBy a_o_attendsBy a_o_coveredBy a_o_cameBy a_o_cameThen a_o_fallsBy a_o_loops a_o_ran a_o_told1 o_status o_top o_bottom o_taped o_size o_token o_from o_end o_value o_faultKind o_faultPlace o_faults o_seen o_toldParts o_depth o_counted o_becameThen o_firstCorner o_drawn o_ranSteps o_isTold o_marks o_at) H → va_D A (wd_X12_soonestOf E a_o a_o_at a_o_names a_o_sort a_o_trayMany a_o_trays a_o_tape a_o_text a_o_opened a_o_farBy a_o_attendsBy a_o_coveredBy a_o_cameBy a_o_cameThen a_o_fallsBy a_o_loops a_o_ran a_o_told1 o_status o_top o_bottom o_taped o_size o_token o_from o_end o_value o_faultKind o_faultPlace o_faults o_seen o_toldParts o_depth o_counted o_becameThen o_firstCorner o_drawn o_ranSteps o_isTold o_marks o_at) → va_S A s.heap H locs → lv_has ls 4 [(2, .int e4)] → W p l e (rmd 3) s m aa below meth cd H locs 0 0 QQ (F0 m 59 ls []))) ?_ F ((-1), 0) e4 hit4 ?_ _ _ _ hP hD hS (lv_sub hl [2, 3, 1, 0] rfl)
  · intro st4 r4 hf hk4 he4 H locs ls hP hD hS hl
    have hj53 : ∀ (v2_j53 : Int32) (v3_j53 : Int32) (H : Heap) (locs : List Loc) (ls : Array Slot), X12_soonestOf_j53 F o_at v1 v2_j53 v3_j53 = some r4 → va_P E.1 vwCl (wd_X12_soonestOf E a_o a_o_at a_o_names a_o_sort a_o_trayMany a_o_trays a_o_tape a_o_text a_o_opened a_o_farBy a_o_attendsBy a_o_coveredBy a_o_cameBy a_o_cameThen a_o_fallsBy a_o_loops a_o_ran a_o_told1 o_status o_top o_bottom o_taped o_size o_token o_from o_end o_value o_faultKind o_faultPlace o_faults o_seen o_toldParts o_depth o_counted o_becameThen o_firstCorner o_drawn o_ranSteps o_isTold o_marks o_at) H → va_D A (wd_X12_soonestOf E a_o a_o_at a_o_names a_o_sort a_o_trayMany a_o_trays a_o_tape a_o_text a_o_opened a_o_farBy a_o_attendsBy a_o_coveredBy a_o_cameBy a_o_cameThen a_o_fallsBy a_o_loops a_o_ran a_o_told1 o_status o_top o_bottom o_taped o_size o_token o_from o_end o_value o_faultKind o_faultPlace o_faults o_seen o_toldParts o_depth o_counted o_becameThen o_firstCorner o_drawn o_ranSteps o_isTold o_marks o_at) → va_S A s.heap H locs → lv_has ls 4 [(0, .ref a_o), (1, .int v1), (2, .int v2_j53), (3, .int v3_j53)] → W p l e (rmd 3) s m aa below meth cd H locs 0 0 QQ (F0 m 53 ls []) := by
      intro v2_j53 v3_j53 H locs ls hf hP hD hS hl
      unfold X12_soonestOf_j53 at hf
      refine lv_iinc (v := (v3_j53 + 1)) (lv' := [(3, .int (v3_j53 + 1)), (0, .ref a_o), (1, .int v1), (2, .int v2_j53)]) hx hb dX12_soonestOf_53 hl (k := 3) rfl rfl (by decide) rfl (fun ls hl => ?_)
      refine lv_goto (tgt := 4) hx hb dX12_soonestOf_56 (by decide) ?_
      exact hk4 _ (Option.some.inj hf).symm _ _ _ hP hD hS (lv_sub hl [1, 2, 3, 0] rfl)
    have hj51 : ∀ (v3_j51 : Int32) (H : Heap) (locs : List Loc) (ls : Array Slot), X12_soonestOf_j51 F o_at v1 v3_j51 = some r4 → va_P E.1 vwCl (wd_X12_soonestOf E a_o a_o_at a_o_names a_o_sort a_o_trayMany a_o_trays a_o_tape a_o_text a_o_opened a_o_farBy a_o_attendsBy a_o_coveredBy a_o_cameBy a_o_cameThen a_o_fallsBy a_o_loops a_o_ran a_o_told1 o_status o_top o_bottom o_taped o_size o_token o_from o_end o_value o_faultKind o_faultPlace o_faults o_seen o_toldParts o_depth o_counted o_becameThen o_firstCorner o_drawn o_ranSteps o_isTold o_marks o_at) H → va_D A (wd_X12_soonestOf E a_o a_o_at a_o_names a_o_sort a_o_trayMany a_o_trays a_o_tape a_o_text a_o_opened a_o_farBy a_o_attendsBy a_o_coveredBy a_o_cameBy a_o_cameThen a_o_fallsBy a_o_loops a_o_ran a_o_told1 o_status o_top o_bottom o_taped o_size o_token o_from o_end o_value o_faultKind o_faultPlace o_faults o_seen o_toldParts o_depth o_counted o_becameThen o_firstCorner o_drawn o_ranSteps o_isTold o_marks o_at) → va_S A s.heap H locs → lv_has ls 4 [(0, .ref a_o), (1, .int v1), (3, .int v3_j51)] → W p l e (rmd 3) s m aa below meth cd H locs 0 0 QQ (F0 m 51 ls []) := by
      intro v3_j51 H locs ls hf hP hD hS hl
      unfold X12_soonestOf_j51 at hf
      refine lv_iload_n hx hb dX12_soonestOf_51 rfl (lv_at hl 2 rfl) ?_
      refine lv_istore_n (lv' := [(2, .int v3_j51), (0, .ref a_o), (1, .int v1), (3, .int v3_j51)]) hx hb dX12_soonestOf_52 rfl hl (by decide) rfl (fun ls hl => ?_)
      exact hj53 _ _ _ _ _ hf hP hD hS (lv_sub hl [1, 2, 0, 3] rfl)
    unfold X12_soonestOf_b4 at hf
    refine lv_iload_n hx hb dX12_soonestOf_4 rfl (lv_at hl 3 rfl) ?_
    refine lv_aload_n hx hb dX12_soonestOf_5 rfl (lv_at hl 0 rfl) ?_
    refine va_get (D := E.1) (ci := 12) (v := .ref a_o_at) (C := RX12) (T := TX12) (N := 39) hx hb hts inX12 hown hK hP 0 rfl rfl 0 (by decide) (hts _ fl_X12_7) (fun _ h9 => h9) rfl dX12_soonestOf_6 ?_
    refine lv_iconst (v := 3) hx hb dX12_soonestOf_9 (by decide) ?_
    obtain ⟨hi, hf⟩ := ck hf
    refine r_iald 1 cx hP rfl hi dX12_soonestOf_10 ?_
    refine lv_icmp_ge (tgt := 59) hx hb dX12_soonestOf_11 (by decide) (fun hc => ?_) (fun hc => ?_)
    · have hf := it_t hc hf
      exact he4 _ (Option.some.inj hf).symm _ _ _ hP hD hS (lv_sub hl [2] rfl)
    · have hf := it_f hc hf
      refine lv_aload_n hx hb dX12_soonestOf_14 rfl (lv_at hl 0 rfl) ?_
      refine lv_iload_n hx hb dX12_soonestOf_15 rfl (lv_at hl 1 rfl) ?_
      refine lv_iload_n hx hb dX12_soonestOf_16 rfl (lv_at hl 3 rfl) ?_
      obtain ⟨u17, hu17, hf⟩ := bd hf
      refine keepVI (ct_X12_isIn l E a_o a_o_at a_o_names a_o_sort a_o_trayMany a_o_trays a_o_tape a_o_text a_o_opened a_o_farBy a_o_attendsBy a_o_coveredBy a_o_cameBy a_o_cameThen a_o_fallsBy a_o_loops a_o_ran a_o_told1 o_status o_top o_bottom o_taped o_size o_token o_from o_end o_value o_faultKind o_faultPlace o_faults o_seen o_toldParts o_depth o_counted o_becameThen o_firstCorner o_drawn o_ranSteps o_isTold o_marks v1 st4.2 u17 hu17) [0] cal_X12_isIn cav_X12_isIn lk_X12_327 cx hP hD hS hl dX12_soonestOf_17 rfl rfl rfl rfl (Nat.le_of_ble_eq_true rfl) ⟨Nat.le_of_ble_eq_true rfl, Nat.le_of_ble_eq_true rfl⟩ rfl (by decide) (fun H locs hP hS => ?_)
      refine lv_if_eq (tgt := 53) hx hb dX12_soonestOf_20 (by decide) (fun hc => ?_) (fun hc => ?_)
      · have hf := it_t hc hf
        exact hj53 _ _ _ _ _ hf hP hD hS (lv_sub hl [0, 1, 2, 3] rfl)
      · have hf := it_f hc hf
        refine lv_aload_n hx hb dX12_soonestOf_23 rfl (lv_at hl 0 rfl) ?_
        refine lv_iload_n hx hb dX12_soonestOf_24 rfl (lv_at hl 3 rfl) ?_
        obtain ⟨u25, hu25, hf⟩ := bd hf
        refine keepVI (ct_X12_isToCome l E a_o a_o_at a_o_names a_o_sort a_o_trayMany a_o_trays a_o_tape a_o_text a_o_opened a_o_farBy a_o_attendsBy a_o_coveredBy a_o_cameBy a_o_cameThen a_o_fallsBy a_o_loops a_o_ran a_o_told1 o_status o_top o_bottom o_taped o_size o_token o_from o_end o_value o_faultKind o_faultPlace o_faults o_seen o_toldParts o_depth o_counted o_becameThen o_firstCorner o_drawn o_ranSteps o_isTold o_marks o_at st4.2 u25 hu25) [0, 1] cal_X12_isToCome cav_X12_isToCome lk_X12_333 cx hP hD hS hl dX12_soonestOf_25 rfl rfl rfl rfl (Nat.le_of_ble_eq_true rfl) ⟨Nat.le_of_ble_eq_true rfl, Nat.le_of_ble_eq_true rfl⟩ rfl (by decide) (fun H locs hP hS => ?_)
        refine lv_if_eq (tgt := 53) hx hb dX12_soonestOf_28 (by decide) (fun hc => ?_) (fun hc => ?_)
        · have hf := it_t hc hf
          exact hj53 _ _ _ _ _ hf hP hD hS (lv_sub hl [0, 1, 2, 3] rfl)
        · have hf := it_f hc hf
          refine lv_iload_n hx hb dX12_soonestOf_31 rfl (lv_at hl 2 rfl) ?_
          refine lv_iconst (v := (-1)) hx hb dX12_soonestOf_32 (by decide) ?_
          refine lv_icmp_eq (tgt := 51) hx hb dX12_soonestOf_33 (by decide) (fun hc => ?_) (fun hc => ?_)
          · have hf := it_t hc hf
            exact hj51 _ _ _ _ hf hP hD hS (lv_sub hl [0, 1, 3] rfl)
          · have hf := it_f hc hf
            refine lv_aload_n hx hb dX12_soonestOf_36 rfl (lv_at hl 0 rfl) ?_
            refine lv_iload_n hx hb dX12_soonestOf_37 rfl (lv_at hl 3 rfl) ?_
            refine lv_iconst (v := 1) hx hb dX12_soonestOf_38 (by decide) ?_
            obtain ⟨u39, hu39, hf⟩ := bd hf
            refine keepVI (ct_X12_happeningOf l E a_o a_o_at a_o_names a_o_sort a_o_trayMany a_o_trays a_o_tape a_o_text a_o_opened a_o_farBy a_o_attendsBy a_o_coveredBy a_o_cameBy a_o_cameThen a_o_fallsBy a_o_loops a_o_ran a_o_told1 o_status o_top o_bottom o_taped o_size o_token o_from o_end o_value o_faultKind o_faultPlace o_faults o_seen o_toldParts o_depth o_counted o_becameThen o_firstCorner o_drawn o_ranSteps o_isTold o_marks o_at st4.2 (1 : Int32) u39 hu39) [0, 1] cal_X12_happeningOf cav_X12_happeningOf lk_X12_278 cx hP hD hS hl dX12_soonestOf_39 rfl rfl rfl rfl (Nat.le_of_ble_eq_true rfl) ⟨Nat.le_of_ble_eq_true rfl, Nat.le_of_ble_eq_true rfl⟩ rfl (by decide) (fun H locs hP hS => ?_)
            refine lv_aload_n hx hb dX12_soonestOf_42 rfl (lv_at hl 0 rfl) ?_
            refine lv_iload_n hx hb dX12_soonestOf_43 rfl (lv_at hl 2 rfl) ?_
            refine lv_iconst (v := 1) hx hb dX12_soonestOf_44 (by decide) ?_
            obtain ⟨u45, hu45, hf⟩ := bd hf
            refine keepVI (ct_X12_happeningOf l E a_o a_o_at a_o_names a_o_sort a_o_trayMany a_o_trays a_o_tape a_o_text a_o_opened a_o_farBy a_o_attendsBy a_o_coveredBy a_o_cameBy a_o_cameThen a_o_fallsBy a_o_loops a_o_ran a_o_told1 o_status o_top o_bottom o_taped o_size o_token o_from o_end o_value o_faultKind o_faultPlace o_faults o_seen o_toldParts o_depth o_counted o_becameThen o_firstCorner o_drawn o_ranSteps o_isTold o_marks o_at st4.1 (1 : Int32) u45 hu45) [0, 1] cal_X12_happeningOf cav_X12_happeningOf lk_X12_278 cx hP hD hS hl dX12_soonestOf_45 rfl rfl rfl rfl (Nat.le_of_ble_eq_true rfl) ⟨Nat.le_of_ble_eq_true rfl, Nat.le_of_ble_eq_true rfl⟩ rfl (by decide) (fun H locs hP hS => ?_)
            refine lv_icmp_ge (tgt := 53) hx hb dX12_soonestOf_48 (by decide) (fun hc => ?_) (fun hc => ?_)
            · have hf := it_t hc hf
              exact hj53 _ _ _ _ _ hf hP hD hS (lv_sub hl [0, 1, 2, 3] rfl)
            · have hf := it_f hc hf
              exact hj51 _ _ _ _ hf hP hD hS (lv_sub hl [0, 1, 3] rfl)
  · refine fun H locs ls hP hD hS hl => ?_
    refine lv_iload_n hx hb dX12_soonestOf_59 rfl (lv_at hl 0 rfl) ?_
    obtain rfl := Option.some.inj hf
    subst hq
    exact retI cx hP hD hS dX12_soonestOf_60
def X12_goalOf (F : Nat) (o_at : Nat → Int32) (v1 : Int32) : Option (Int32) :=
  (X12_extraOf o_at v1 (2 : Int32)).bind fun u4 =>
  (X12_soonestOf F o_at u4).bind fun u7 =>
  some u7
abbrev wd_X12_goalOf (E : vE) (a_o a_o_at a_o_names a_o_sort a_o_trayMany a_o_trays a_o_tape a_o_text a_o_opened a_o_farBy a_o_attendsBy a_o_coveredBy a_o_cameBy a_o_cameThen a_o_fallsBy a_o_loops a_o_ran a_o_told1 : Nat) (o_status : Int32) (o_top : Int64) (o_bottom : Int64) (o_taped : Int32) (o_size : Int32) (o_token : Int32) (o_from : Int32) (o_end : Int32) (o_value : Int32) (o_faultKind : Int32) (o_faultPlace : Int32) (o_faults : Int32) (o_seen : Int32) (o_toldParts : Int32) (o_depth : Int32) (o_counted : Int32) (o_becameThen : Int32) (o_firstCorner : Int32) (o_drawn : Int32) (o_ranSteps : Int32) (o_isTold : Int32) (o_marks : Int32) (o_at : Nat → Int32) : va_W := [(a_o, .inr (12, [.ref a_o_at, .ref a_o_names, .int o_status, .long o_top, .long o_bottom, .ref a_o_sort, .ref a_o_trayMany, .ref a_o_trays, .ref a_o_tape, .ref a_o_text, .int o_taped, .int o_size, .int o_token, .int o_from, .int o_end, .int o_value, .int o_faultKind, .int o_faultPlace, .int o_faults, .int o_seen, .int o_toldParts, .ref a_o_opened, .int o_depth, .int o_counted, .ref a_o_farBy, .int o_becameThen, .ref a_o_attendsBy, .ref a_o_coveredBy, .ref a_o_cameBy, .ref a_o_cameThen, .int o_firstCorner, .ref a_o_fallsBy, .int o_drawn, .int o_ranSteps, .ref a_o_loops, .ref a_o_ran, .ref a_o_told1, .int o_isTold, .int o_marks])), (a_o_at, .inl (E.2.1, 3097, .inl o_at))]
set_option maxHeartbeats 4000000 in
set_option maxRecDepth 100000 in
theorem ct_X12_goalOf (l : Launch) (E : vE) (F : Nat) (a_o a_o_at a_o_names a_o_sort a_o_trayMany a_o_trays a_o_tape a_o_text a_o_opened a_o_farBy a_o_attendsBy a_o_coveredBy a_o_cameBy a_o_cameThen a_o_fallsBy a_o_loops a_o_ran a_o_told1 : Nat) (o_status : Int32) (o_top : Int64) (o_bottom : Int64) (o_taped : Int32) (o_size : Int32) (o_token : Int32) (o_from : Int32) (o_end : Int32) (o_value : Int32) (o_faultKind : Int32) (o_faultPlace : Int32) (o_faults : Int32) (o_seen : Int32) (o_toldParts : Int32) (o_depth : Int32) (o_counted : Int32) (o_becameThen : Int32) (o_firstCorner : Int32) (o_drawn : Int32) (o_ranSteps : Int32) (o_isTold : Int32) (o_marks : Int32) (o_at : Nat → Int32) (v1 : Int32) (u : Int32) (hf : X12_goalOf F o_at v1 = some u) :
    CtI l yX12_goalOf cX12_goalOf 2 (some .int) 4 E [.ref a_o, .int v1] (wd_X12_goalOf E a_o a_o_at a_o_names a_o_sort a_o_trayMany a_o_trays a_o_tape a_o_text a_o_opened a_o_farBy a_o_attendsBy a_o_coveredBy a_o_cameBy a_o_cameThen a_o_fallsBy a_o_loops a_o_ran a_o_told1 o_status o_top o_bottom o_taped o_size o_token o_from o_end o_value o_faultKind o_faultPlace o_faults o_seen o_toldParts o_depth o_counted o_becameThen o_firstCorner o_drawn o_ranSteps o_isTold o_marks o_at) (wd_X12_goalOf E a_o a_o_at a_o_names a_o_sort a_o_trayMany a_o_trays a_o_tape a_o_text a_o_opened a_o_farBy a_o_attendsBy a_o_coveredBy a_o_cameBy a_o_cameThen a_o_fallsBy a_o_loops a_o_ran a_o_told1 o_status o_top o_bottom o_taped o_size o_token o_from o_end o_value o_faultKind o_faultPlace o_faults o_seen o_toldParts o_depth o_counted o_becameThen o_firstCorner o_drawn o_ranSteps o_isTold o_marks o_at) u := by
  refine ctI (by decide) (Nat.le_of_ble_eq_true rfl) ?_
  intro p e s m below meth cd A ls aa QQ hq cx hP hD hS hl
  obtain ⟨⟨hx, hb, hml, hown, hts⟩, hr, hlocks, hK, hA, hX⟩ := id cx
  have hl : lv_has ls 2 [(0, .ref a_o), (1, .int v1)] := hl
  unfold X12_goalOf at hf
  refine lv_aload_n hx hb dX12_goalOf_0 rfl (lv_at hl 0 rfl) ?_
  refine lv_aload_n hx hb dX12_goalOf_1 rfl (lv_at hl 0 rfl) ?_
  refine lv_iload_n hx hb dX12_goalOf_2 rfl (lv_at hl 1 rfl) ?_
  refine lv_iconst (v := 2) hx hb dX12_goalOf_3 (by decide) ?_
  obtain ⟨u4, hu4, hf⟩ := bd hf
  refine keepVI (ct_X12_extraOf l E a_o a_o_at a_o_names a_o_sort a_o_trayMany a_o_trays a_o_tape a_o_text a_o_opened a_o_farBy a_o_attendsBy a_o_coveredBy a_o_cameBy a_o_cameThen a_o_fallsBy a_o_loops a_o_ran a_o_told1 o_status o_top o_bottom o_taped o_size o_token o_from o_end o_value o_faultKind o_faultPlace o_faults o_seen o_toldParts o_depth o_counted o_becameThen o_firstCorner o_drawn o_ranSteps o_isTold o_marks o_at v1 (2 : Int32) u4 hu4) [0, 1] cal_X12_extraOf cav_X12_extraOf lk_X12_275 cx hP hD hS hl dX12_goalOf_4 rfl rfl rfl rfl (Nat.le_of_ble_eq_true rfl) ⟨Nat.le_of_ble_eq_true rfl, Nat.le_of_ble_eq_true rfl⟩ rfl (by decide) (fun H locs hP hS => ?_)
  obtain ⟨u7, hu7, hf⟩ := bd hf
  refine keepVI (ct_X12_soonestOf l E F a_o a_o_at a_o_names a_o_sort a_o_trayMany a_o_trays a_o_tape a_o_text a_o_opened a_o_farBy a_o_attendsBy a_o_coveredBy a_o_cameBy a_o_cameThen a_o_fallsBy a_o_loops a_o_ran a_o_told1 o_status o_top o_bottom o_taped o_size o_token o_from o_end o_value o_faultKind o_faultPlace o_faults o_seen o_toldParts o_depth o_counted o_becameThen o_firstCorner o_drawn o_ranSteps o_isTold o_marks o_at u4 u7 hu7) [0, 1] cal_X12_soonestOf cav_X12_soonestOf lk_X12_336 cx hP hD hS hl dX12_goalOf_7 rfl rfl rfl rfl (Nat.le_of_ble_eq_true rfl) ⟨Nat.le_of_ble_eq_true rfl, Nat.le_of_ble_eq_true rfl⟩ rfl (by decide) (fun H locs hP hS => ?_)
  obtain rfl := Option.some.inj hf
  subst hq
  exact retI cx hP hD hS dX12_goalOf_10
def X12_walks_j112 (F : Nat) (o_at : Nat → Int32) (o_farBy : Nat → Int32) (v1 : Int32) (v2 : Int32) : Option ((Nat → Int32)) :=
  (X12_doesStand o_at v1).bind fun u114 =>
  if u114 = 0 then
  if ix (v2 + 1) 3097 then
  if (jat o_at (v2 + 1)) = 0 then
  if ix v2 3097 then
  if ix v2 3097 then
  some (jput o_at v2 ((jat o_at v2) - 10))
  else none
  else none
  else
  some o_at
  else none
  else
  some o_at
def X12_walks (F : Nat) (o_at : Nat → Int32) (o_farBy : Nat → Int32) (v1 : Int32) : Option ((Nat → Int32)) :=
  (X12_extraRow v1).bind fun u1 =>
  (X12_goalOf F o_at v1).bind fun u7 =>
  (X12_doesStand o_at v1).bind fun u13 =>
  if u13 = 0 then
  if ix (u1 + 1) 3097 then
  if ix (u1 + 1) 3097 then
  X12_walks_j112 F (jput o_at (u1 + 1) ((jat o_at (u1 + 1)) - 1)) o_farBy v1 u1
  else none
  else none
  else
  if u7 = (-1) then
  X12_walks_j112 F o_at o_farBy v1 u1
  else
  (X12_happeningOf o_at u7 (0 : Int32)).bind fun u42 =>
  if ix u1 3097 then
  if u42 = (jat o_at u1) then
  X12_walks_j112 F o_at o_farBy v1 u1
  else
  if ix u1 3097 then
  (X12_happeningOf o_at u7 (0 : Int32)).bind fun u64 =>
  (X12_wayTo F o_at o_farBy (jat o_at u1) u64).bind fun u67 =>
  if u67 = (-1) then
  some o_at
  else
  if ix u1 3097 then
  (X12_roadOf F o_at (jat o_at u1) u67).bind fun u95 =>
  if ix (u1 + 1) 3097 then
  if ix u1 3097 then
  X12_walks_j112 F (jput (jput o_at (u1 + 1) (u95 - 1)) u1 (10 + u67)) o_farBy v1 u1
  else none
  else none
  else none
  else none
  else none
abbrev wd_X12_walks (E : vE) (a_o a_o_at a_o_names a_o_sort a_o_trayMany a_o_trays a_o_tape a_o_text a_o_opened a_o_farBy a_o_attendsBy a_o_coveredBy a_o_cameBy a_o_cameThen a_o_fallsBy a_o_loops a_o_ran a_o_told1 : Nat) (o_status : Int32) (o_top : Int64) (o_bottom : Int64) (o_taped : Int32) (o_size : Int32) (o_token : Int32) (o_from : Int32) (o_end : Int32) (o_value : Int32) (o_faultKind : Int32) (o_faultPlace : Int32) (o_faults : Int32) (o_seen : Int32) (o_toldParts : Int32) (o_depth : Int32) (o_counted : Int32) (o_becameThen : Int32) (o_firstCorner : Int32) (o_drawn : Int32) (o_ranSteps : Int32) (o_isTold : Int32) (o_marks : Int32) (o_at : Nat → Int32) (o_farBy : Nat → Int32) : va_W := [(a_o, .inr (12, [.ref a_o_at, .ref a_o_names, .int o_status, .long o_top, .long o_bottom, .ref a_o_sort, .ref a_o_trayMany, .ref a_o_trays, .ref a_o_tape, .ref a_o_text, .int o_taped, .int o_size, .int o_token, .int o_from, .int o_end, .int o_value, .int o_faultKind, .int o_faultPlace, .int o_faults, .int o_seen, .int o_toldParts, .ref a_o_opened, .int o_depth, .int o_counted, .ref a_o_farBy, .int o_becameThen, .ref a_o_attendsBy, .ref a_o_coveredBy, .ref a_o_cameBy, .ref a_o_cameThen, .int o_firstCorner, .ref a_o_fallsBy, .int o_drawn, .int o_ranSteps, .ref a_o_loops, .ref a_o_ran, .ref a_o_told1, .int o_isTold, .int o_marks])), (a_o_at, .inl (E.2.1, 3097, .inl o_at)), (a_o_farBy, .inl (E.2.1, 64, .inl o_farBy))]
set_option maxHeartbeats 4000000 in
set_option maxRecDepth 100000 in
theorem ct_X12_walks (l : Launch) (E : vE) (F : Nat) (a_o a_o_at a_o_names a_o_sort a_o_trayMany a_o_trays a_o_tape a_o_text a_o_opened a_o_farBy a_o_attendsBy a_o_coveredBy a_o_cameBy a_o_cameThen a_o_fallsBy a_o_loops a_o_ran a_o_told1 : Nat) (o_status : Int32) (o_top : Int64) (o_bottom : Int64) (o_taped : Int32) (o_size : Int32) (o_token : Int32) (o_from : Int32) (o_end : Int32) (o_value : Int32) (o_faultKind : Int32) (o_faultPlace : Int32) (o_faults : Int32) (o_seen : Int32) (o_toldParts : Int32) (o_depth : Int32) (o_counted : Int32) (o_becameThen : Int32) (o_firstCorner : Int32) (o_drawn : Int32) (o_ranSteps : Int32) (o_isTold : Int32) (o_marks : Int32) (o_at : Nat → Int32) (o_farBy : Nat → Int32) (v1 : Int32) (u : (Nat → Int32)) (hf : X12_walks F o_at o_farBy v1 = some u) :
    CtV l yX12_walks cX12_walks 5 none 5 E [.ref a_o, .int v1] (wd_X12_walks E a_o a_o_at a_o_names a_o_sort a_o_trayMany a_o_trays a_o_tape a_o_text a_o_opened a_o_farBy a_o_attendsBy a_o_coveredBy a_o_cameBy a_o_cameThen a_o_fallsBy a_o_loops a_o_ran a_o_told1 o_status o_top o_bottom o_taped o_size o_token o_from o_end o_value o_faultKind o_faultPlace o_faults o_seen o_toldParts o_depth o_counted o_becameThen o_firstCorner o_drawn o_ranSteps o_isTold o_marks o_at o_farBy) (wd_X12_walks E a_o a_o_at a_o_names a_o_sort a_o_trayMany a_o_trays a_o_tape a_o_text a_o_opened a_o_farBy a_o_attendsBy a_o_coveredBy a_o_cameBy a_o_cameThen a_o_fallsBy a_o_loops a_o_ran a_o_told1 o_status o_top o_bottom o_taped o_size o_token o_from o_end o_value o_faultKind o_faultPlace o_faults o_seen o_toldParts o_depth o_counted o_becameThen o_firstCorner o_drawn o_ranSteps o_isTold o_marks u o_farBy) := by
  refine ctV (by decide) (Nat.le_of_ble_eq_true rfl) ?_
  intro p e s m below meth cd A ls aa QQ hq cx hP hD hS hl
  obtain ⟨⟨hx, hb, hml, hown, hts⟩, hr, hlocks, hK, hA, hX⟩ := id cx
  have hl : lv_has ls 5 [(0, .ref a_o), (1, .int v1)] := hl
  have hj112 : ∀ (v2_j112 : Int32) (o_at_j112 : Nat → Int32) (H : Heap) (locs : List Loc) (ls : Array Slot), X12_walks_j112 F o_at_j112 o_farBy v1 v2_j112 = some u → va_P E.1 vwCl (wd_X12_walks E a_o a_o_at a_o_names a_o_sort a_o_trayMany a_o_trays a_o_tape a_o_text a_o_opened a_o_farBy a_o_attendsBy a_o_coveredBy a_o_cameBy a_o_cameThen a_o_fallsBy a_o_loops a_o_ran a_o_told1 o_status o_top o_bottom o_taped o_size o_token o_from o_end o_value o_faultKind o_faultPlace o_faults o_seen o_toldParts o_depth o_counted o_becameThen o_firstCorner o_drawn o_ranSteps o_isTold o_marks o_at_j112 o_farBy) H → va_D A (wd_X12_walks E a_o a_o_at a_o_names a_o_sort a_o_trayMany a_o_trays a_o_tape a_o_text a_o_opened a_o_farBy a_o_attendsBy a_o_coveredBy a_o_cameBy a_o_cameThen a_o_fallsBy a_o_loops a_o_ran a_o_told1 o_status o_top o_bottom o_taped o_size o_token o_from o_end o_value o_faultKind o_faultPlace o_faults o_seen o_toldParts o_depth o_counted o_becameThen o_firstCorner o_drawn o_ranSteps o_isTold o_marks o_at_j112 o_farBy) → va_S A s.heap H locs → lv_has ls 5 [(0, .ref a_o), (1, .int v1), (2, .int v2_j112)] → W p l e (rmd 5) s m aa below meth cd H locs 0 0 QQ (F0 m 112 ls []) := by
    intro v2_j112 o_at_j112 H locs ls hf hP hD hS hl
    unfold X12_walks_j112 at hf
    refine lv_aload_n hx hb dX12_walks_112 rfl (lv_at hl 0 rfl) ?_
    refine lv_iload_n hx hb dX12_walks_113 rfl (lv_at hl 1 rfl) ?_
    obtain ⟨u114, hu114, hf⟩ := bd hf
    refine keepVI (ct_X12_doesStand l E a_o a_o_at a_o_names a_o_sort a_o_trayMany a_o_trays a_o_tape a_o_text a_o_opened a_o_farBy a_o_attendsBy a_o_coveredBy a_o_cameBy a_o_cameThen a_o_fallsBy a_o_loops a_o_ran a_o_told1 o_status o_top o_bottom o_taped o_size o_token o_from o_end o_value o_faultKind o_faultPlace o_faults o_seen o_toldParts o_depth o_counted o_becameThen o_firstCorner o_drawn o_ranSteps o_isTold o_marks o_at_j112 v1 u114 hu114) [0, 1] cal_X12_doesStand cav_X12_doesStand lk_X12_281 cx hP hD hS hl dX12_walks_114 rfl rfl rfl rfl (Nat.le_of_ble_eq_true rfl) ⟨Nat.le_of_ble_eq_true rfl, Nat.le_of_ble_eq_true rfl⟩ rfl (by decide) (fun H locs hP hS => ?_)
    refine lv_if_ne (tgt := 142) hx hb dX12_walks_117 (by decide) (fun hc => ?_) (fun hc => ?_)
    · have hf := it_f hc hf
      obtain rfl := Option.some.inj hf
      subst hq
      exact retV cx hP hD hS dX12_walks_142
    · have hf := it_t hc hf
      refine lv_aload_n hx hb dX12_walks_120 rfl (lv_at hl 0 rfl) ?_
      refine va_get (D := E.1) (ci := 12) (v := .ref a_o_at) (C := RX12) (T := TX12) (N := 39) hx hb hts inX12 hown hK hP 0 rfl rfl 0 (by decide) (hts _ fl_X12_7) (fun _ h9 => h9) rfl dX12_walks_121 ?_
      refine lv_iload_n hx hb dX12_walks_124 rfl (lv_at hl 2 rfl) ?_
      refine lv_iconst (v := 1) hx hb dX12_walks_125 (by decide) ?_
      refine lv_iadd hx hb dX12_walks_126 ?_
      obtain ⟨hi, hf⟩ := ck hf
      refine r_iald 1 cx hP rfl hi dX12_walks_127 ?_
      refine lv_if_ne (tgt := 142) hx hb dX12_walks_128 (by decide) (fun hc => ?_) (fun hc => ?_)
      · have hf := it_f hc hf
        obtain rfl := Option.some.inj hf
        subst hq
        exact retV cx hP hD hS dX12_walks_142
      · have hf := it_t hc hf
        refine lv_aload_n hx hb dX12_walks_131 rfl (lv_at hl 0 rfl) ?_
        refine va_get (D := E.1) (ci := 12) (v := .ref a_o_at) (C := RX12) (T := TX12) (N := 39) hx hb hts inX12 hown hK hP 0 rfl rfl 0 (by decide) (hts _ fl_X12_7) (fun _ h9 => h9) rfl dX12_walks_132 ?_
        refine lv_iload_n hx hb dX12_walks_135 rfl (lv_at hl 2 rfl) ?_
        refine lv_dup2_11 hx hb dX12_walks_136 rfl rfl ?_
        obtain ⟨hi, hf⟩ := ck hf
        refine r_iald 1 cx hP rfl hi dX12_walks_137 ?_
        refine lv_bipush (v := 10) hx hb dX12_walks_138 (by decide) ?_
        refine lv_isub hx hb dX12_walks_140 ?_
        obtain ⟨hi, hf⟩ := ck hf
        refine r_iast 1 cx hP hD hS rfl hi dX12_walks_141 (fun H locs hP hD hS => ?_)
        have hP : va_P E.1 vwCl (wd_X12_walks E a_o a_o_at a_o_names a_o_sort a_o_trayMany a_o_trays a_o_tape a_o_text a_o_opened a_o_farBy a_o_attendsBy a_o_coveredBy a_o_cameBy a_o_cameThen a_o_fallsBy a_o_loops a_o_ran a_o_told1 o_status o_top o_bottom o_taped o_size o_token o_from o_end o_value o_faultKind o_faultPlace o_faults o_seen o_toldParts o_depth o_counted o_becameThen o_firstCorner o_drawn o_ranSteps o_isTold o_marks (jput o_at_j112 v2_j112 ((jat o_at_j112 v2_j112) - 10)) o_farBy) H := hP
        have hD : va_D A (wd_X12_walks E a_o a_o_at a_o_names a_o_sort a_o_trayMany a_o_trays a_o_tape a_o_text a_o_opened a_o_farBy a_o_attendsBy a_o_coveredBy a_o_cameBy a_o_cameThen a_o_fallsBy a_o_loops a_o_ran a_o_told1 o_status o_top o_bottom o_taped o_size o_token o_from o_end o_value o_faultKind o_faultPlace o_faults o_seen o_toldParts o_depth o_counted o_becameThen o_firstCorner o_drawn o_ranSteps o_isTold o_marks (jput o_at_j112 v2_j112 ((jat o_at_j112 v2_j112) - 10)) o_farBy) := hD
        obtain rfl := Option.some.inj hf
        subst hq
        exact retV cx hP hD hS dX12_walks_142
  unfold X12_walks at hf
  refine lv_iload_n hx hb dX12_walks_0 rfl (lv_at hl 1 rfl) ?_
  obtain ⟨u1, hu1, hf⟩ := bd hf
  refine keepSI (ct_X12_extraRow l E v1 u1 hu1) [] cal_X12_extraRow sta_X12_extraRow lk_X12_211 cx hP hD hS hl dX12_walks_1 rfl rfl (Nat.le_of_ble_eq_true rfl) ⟨Nat.le_of_ble_eq_true rfl, Nat.le_of_ble_eq_true rfl⟩ rfl (by decide) (fun H locs hP hS => ?_)
  refine lv_istore_n (lv' := [(2, .int u1), (0, .ref a_o), (1, .int v1)]) hx hb dX12_walks_4 rfl hl (by decide) rfl (fun ls hl => ?_)
  refine lv_aload_n hx hb dX12_walks_5 rfl (lv_at hl 1 rfl) ?_
  refine lv_iload_n hx hb dX12_walks_6 rfl (lv_at hl 2 rfl) ?_
  obtain ⟨u7, hu7, hf⟩ := bd hf
  refine keepVI (ct_X12_goalOf l E F a_o a_o_at a_o_names a_o_sort a_o_trayMany a_o_trays a_o_tape a_o_text a_o_opened a_o_farBy a_o_attendsBy a_o_coveredBy a_o_cameBy a_o_cameThen a_o_fallsBy a_o_loops a_o_ran a_o_told1 o_status o_top o_bottom o_taped o_size o_token o_from o_end o_value o_faultKind o_faultPlace o_faults o_seen o_toldParts o_depth o_counted o_becameThen o_firstCorner o_drawn o_ranSteps o_isTold o_marks o_at v1 u7 hu7) [0, 1] cal_X12_goalOf cav_X12_goalOf lk_X12_339 cx hP hD hS hl dX12_walks_7 rfl rfl rfl rfl (Nat.le_of_ble_eq_true rfl) ⟨Nat.le_of_ble_eq_true rfl, Nat.le_of_ble_eq_true rfl⟩ rfl (by decide) (fun H locs hP hS => ?_)
  refine lv_istore_n (lv' := [(3, .int u7), (2, .int u1), (0, .ref a_o), (1, .int v1)]) hx hb dX12_walks_10 rfl hl (by decide) rfl (fun ls hl => ?_)
  refine lv_aload_n hx hb dX12_walks_11 rfl (lv_at hl 2 rfl) ?_
  refine lv_iload_n hx hb dX12_walks_12 rfl (lv_at hl 3 rfl) ?_
  obtain ⟨u13, hu13, hf⟩ := bd hf
  refine keepVI (ct_X12_doesStand l E a_o a_o_at a_o_names a_o_sort a_o_trayMany a_o_trays a_o_tape a_o_text a_o_opened a_o_farBy a_o_attendsBy a_o_coveredBy a_o_cameBy a_o_cameThen a_o_fallsBy a_o_loops a_o_ran a_o_told1 o_status o_top o_bottom o_taped o_size o_token o_from o_end o_value o_faultKind o_faultPlace o_faults o_seen o_toldParts o_depth o_counted o_becameThen o_firstCorner o_drawn o_ranSteps o_isTold o_marks o_at v1 u13 hu13) [0, 1] cal_X12_doesStand cav_X12_doesStand lk_X12_281 cx hP hD hS hl dX12_walks_13 rfl rfl rfl rfl (Nat.le_of_ble_eq_true rfl) ⟨Nat.le_of_ble_eq_true rfl, Nat.le_of_ble_eq_true rfl⟩ rfl (by decide) (fun H locs hP hS => ?_)
  refine lv_if_ne (tgt := 34) hx hb dX12_walks_16 (by decide) (fun hc => ?_) (fun hc => ?_)
  · have hf := it_f hc hf
    refine lv_iload_n hx hb dX12_walks_34 rfl (lv_at hl 0 rfl) ?_
    refine lv_iconst (v := (-1)) hx hb dX12_walks_35 (by decide) ?_
    refine lv_icmp_eq (tgt := 112) hx hb dX12_walks_36 (by decide) (fun hc => ?_) (fun hc => ?_)
    · have hf := it_t hc hf
      exact hj112 _ _ _ _ _ hf hP hD hS (lv_sub hl [2, 3, 1] rfl)
    · have hf := it_f hc hf
      refine lv_aload_n hx hb dX12_walks_39 rfl (lv_at hl 2 rfl) ?_
      refine lv_iload_n hx hb dX12_walks_40 rfl (lv_at hl 0 rfl) ?_
      refine lv_iconst (v := 0) hx hb dX12_walks_41 (by decide) ?_
      obtain ⟨u42, hu42, hf⟩ := bd hf
      refine keepVI (ct_X12_happeningOf l E a_o a_o_at a_o_names a_o_sort a_o_trayMany a_o_trays a_o_tape a_o_text a_o_opened a_o_farBy a_o_attendsBy a_o_coveredBy a_o_cameBy a_o_cameThen a_o_fallsBy a_o_loops a_o_ran a_o_told1 o_status o_top o_bottom o_taped o_size o_token o_from o_end o_value o_faultKind o_faultPlace o_faults o_seen o_toldParts o_depth o_counted o_becameThen o_firstCorner o_drawn o_ranSteps o_isTold o_marks o_at u7 (0 : Int32) u42 hu42) [0, 1] cal_X12_happeningOf cav_X12_happeningOf lk_X12_278 cx hP hD hS hl dX12_walks_42 rfl rfl rfl rfl (Nat.le_of_ble_eq_true rfl) ⟨Nat.le_of_ble_eq_true rfl, Nat.le_of_ble_eq_true rfl⟩ rfl (by decide) (fun H locs hP hS => ?_)
      refine lv_aload_n hx hb dX12_walks_45 rfl (lv_at hl 2 rfl) ?_
      refine va_get (D := E.1) (ci := 12) (v := .ref a_o_at) (C := RX12) (T := TX12) (N := 39) hx hb hts inX12 hown hK hP 0 rfl rfl 0 (by decide) (hts _ fl_X12_7) (fun _ h9 => h9) rfl dX12_walks_46 ?_
      refine lv_iload_n hx hb dX12_walks_49 rfl (lv_at hl 1 rfl) ?_
      obtain ⟨hi, hf⟩ := ck hf
      refine r_iald 1 cx hP rfl hi dX12_walks_50 ?_
      refine lv_icmp_eq (tgt := 112) hx hb dX12_walks_51 (by decide) (fun hc => ?_) (fun hc => ?_)
      · have hf := it_t hc hf
        exact hj112 _ _ _ _ _ hf hP hD hS (lv_sub hl [2, 3, 1] rfl)
      · have hf := it_f hc hf
        refine lv_aload_n hx hb dX12_walks_54 rfl (lv_at hl 2 rfl) ?_
        refine lv_aload_n hx hb dX12_walks_55 rfl (lv_at hl 2 rfl) ?_
        refine va_get (D := E.1) (ci := 12) (v := .ref a_o_at) (C := RX12) (T := TX12) (N := 39) hx hb hts inX12 hown hK hP 0 rfl rfl 0 (by decide) (hts _ fl_X12_7) (fun _ h9 => h9) rfl dX12_walks_56 ?_
        refine lv_iload_n hx hb dX12_walks_59 rfl (lv_at hl 1 rfl) ?_
        obtain ⟨hi, hf⟩ := ck hf
        refine r_iald 1 cx hP rfl hi dX12_walks_60 ?_
        refine lv_aload_n hx hb dX12_walks_61 rfl (lv_at hl 2 rfl) ?_
        refine lv_iload_n hx hb dX12_walks_62 rfl (lv_at hl 0 rfl) ?_
        refine lv_iconst (v := 0) hx hb dX12_walks_63 (by decide) ?_
        obtain ⟨u64, hu64, hf⟩ := bd hf
        refine keepVI (ct_X12_happeningOf l E a_o a_o_at a_o_names a_o_sort a_o_trayMany a_o_trays a_o_tape a_o_text a_o_opened a_o_farBy a_o_attendsBy a_o_coveredBy a_o_cameBy a_o_cameThen a_o_fallsBy a_o_loops a_o_ran a_o_told1 o_status o_top o_bottom o_taped o_size o_token o_from o_end o_value o_faultKind o_faultPlace o_faults o_seen o_toldParts o_depth o_counted o_becameThen o_firstCorner o_drawn o_ranSteps o_isTold o_marks o_at u7 (0 : Int32) u64 hu64) [0, 1] cal_X12_happeningOf cav_X12_happeningOf lk_X12_278 cx hP hD hS hl dX12_walks_64 rfl rfl rfl rfl (Nat.le_of_ble_eq_true rfl) ⟨Nat.le_of_ble_eq_true rfl, Nat.le_of_ble_eq_true rfl⟩ rfl (by decide) (fun H locs hP hS => ?_)
        obtain ⟨u67, hu67, hf⟩ := bd hf
        refine keepVI (ct_X12_wayTo l E F a_o a_o_at a_o_names a_o_sort a_o_trayMany a_o_trays a_o_tape a_o_text a_o_opened a_o_farBy a_o_attendsBy a_o_coveredBy a_o_cameBy a_o_cameThen a_o_fallsBy a_o_loops a_o_ran a_o_told1 o_status o_top o_bottom o_taped o_size o_token o_from o_end o_value o_faultKind o_faultPlace o_faults o_seen o_toldParts o_depth o_counted o_becameThen o_firstCorner o_drawn o_ranSteps o_isTold o_marks o_at o_farBy (jat o_at u1) u64 u67 hu67) [0, 1, 2] cal_X12_wayTo cav_X12_wayTo lk_X12_321 cx hP hD hS hl dX12_walks_67 rfl rfl rfl rfl (Nat.le_of_ble_eq_true rfl) ⟨Nat.le_of_ble_eq_true rfl, Nat.le_of_ble_eq_true rfl⟩ rfl (by decide) (fun H locs hP hS => ?_)
        refine lv_istore (lv' := [(4, .int u67), (3, .int u7), (2, .int u1), (0, .ref a_o), (1, .int v1)]) hx hb dX12_walks_70 hl (by decide) rfl (fun ls hl => ?_)
        refine lv_iload hx hb dX12_walks_72 (lv_at hl 0 rfl) ?_
        refine lv_iconst (v := (-1)) hx hb dX12_walks_74 (by decide) ?_
        refine lv_icmp_ne (tgt := 79) hx hb dX12_walks_75 (by decide) (fun hc => ?_) (fun hc => ?_)
        · have hf := it_f hc hf
          refine lv_aload_n hx hb dX12_walks_79 rfl (lv_at hl 3 rfl) ?_
          refine va_get (D := E.1) (ci := 12) (v := .ref a_o_at) (C := RX12) (T := TX12) (N := 39) hx hb hts inX12 hown hK hP 0 rfl rfl 0 (by decide) (hts _ fl_X12_7) (fun _ h9 => h9) rfl dX12_walks_80 ?_
          refine lv_iload_n hx hb dX12_walks_83 rfl (lv_at hl 2 rfl) ?_
          refine lv_iconst (v := 1) hx hb dX12_walks_84 (by decide) ?_
          refine lv_iadd hx hb dX12_walks_85 ?_
          refine lv_aload_n hx hb dX12_walks_86 rfl (lv_at hl 3 rfl) ?_
          refine lv_aload_n hx hb dX12_walks_87 rfl (lv_at hl 3 rfl) ?_
          refine va_get (D := E.1) (ci := 12) (v := .ref a_o_at) (C := RX12) (T := TX12) (N := 39) hx hb hts inX12 hown hK hP 0 rfl rfl 0 (by decide) (hts _ fl_X12_7) (fun _ h9 => h9) rfl dX12_walks_88 ?_
          refine lv_iload_n hx hb dX12_walks_91 rfl (lv_at hl 2 rfl) ?_
          obtain ⟨hi, hf⟩ := ck hf
          refine r_iald 1 cx hP rfl hi dX12_walks_92 ?_
          refine lv_iload hx hb dX12_walks_93 (lv_at hl 0 rfl) ?_
          obtain ⟨u95, hu95, hf⟩ := bd hf
          refine keepVI (ct_X12_roadOf l E F a_o a_o_at a_o_names a_o_sort a_o_trayMany a_o_trays a_o_tape a_o_text a_o_opened a_o_farBy a_o_attendsBy a_o_coveredBy a_o_cameBy a_o_cameThen a_o_fallsBy a_o_loops a_o_ran a_o_told1 o_status o_top o_bottom o_taped o_size o_token o_from o_end o_value o_faultKind o_faultPlace o_faults o_seen o_toldParts o_depth o_counted o_becameThen o_firstCorner o_drawn o_ranSteps o_isTold o_marks o_at (jat o_at u1) u67 u95 hu95) [0, 1] cal_X12_roadOf cav_X12_roadOf lk_X12_315 cx hP hD hS hl dX12_walks_95 rfl rfl rfl rfl (Nat.le_of_ble_eq_true rfl) ⟨Nat.le_of_ble_eq_true rfl, Nat.le_of_ble_eq_true rfl⟩ rfl (by decide) (fun H locs hP hS => ?_)
          refine lv_iconst (v := 1) hx hb dX12_walks_98 (by decide) ?_
          refine lv_isub hx hb dX12_walks_99 ?_
          obtain ⟨hi, hf⟩ := ck hf
          refine r_iast 1 cx hP hD hS rfl hi dX12_walks_100 (fun H locs hP hD hS => ?_)
          have hP : va_P E.1 vwCl (wd_X12_walks E a_o a_o_at a_o_names a_o_sort a_o_trayMany a_o_trays a_o_tape a_o_text a_o_opened a_o_farBy a_o_attendsBy a_o_coveredBy a_o_cameBy a_o_cameThen a_o_fallsBy a_o_loops a_o_ran a_o_told1 o_status o_top o_bottom o_taped o_size o_token o_from o_end o_value o_faultKind o_faultPlace o_faults o_seen o_toldParts o_depth o_counted o_becameThen o_firstCorner o_drawn o_ranSteps o_isTold o_marks (jput o_at (u1 + 1) (u95 - 1)) o_farBy) H := hP
          have hD : va_D A (wd_X12_walks E a_o a_o_at a_o_names a_o_sort a_o_trayMany a_o_trays a_o_tape a_o_text a_o_opened a_o_farBy a_o_attendsBy a_o_coveredBy a_o_cameBy a_o_cameThen a_o_fallsBy a_o_loops a_o_ran a_o_told1 o_status o_top o_bottom o_taped o_size o_token o_from o_end o_value o_faultKind o_faultPlace o_faults o_seen o_toldParts o_depth o_counted o_becameThen o_firstCorner o_drawn o_ranSteps o_isTold o_marks (jput o_at (u1 + 1) (u95 - 1)) o_farBy) := hD
          refine lv_aload_n hx hb dX12_walks_101 rfl (lv_at hl 3 rfl) ?_
          refine va_get (D := E.1) (ci := 12) (v := .ref a_o_at) (C := RX12) (T := TX12) (N := 39) hx hb hts inX12 hown hK hP 0 rfl rfl 0 (by decide) (hts _ fl_X12_7) (fun _ h9 => h9) rfl dX12_walks_102 ?_
          refine lv_iload_n hx hb dX12_walks_105 rfl (lv_at hl 2 rfl) ?_
          refine lv_bipush (v := 10) hx hb dX12_walks_106 (by decide) ?_
          refine lv_iload hx hb dX12_walks_108 (lv_at hl 0 rfl) ?_
          refine lv_iadd hx hb dX12_walks_110 ?_
          obtain ⟨hi, hf⟩ := ck hf
          refine r_iast 1 cx hP hD hS rfl hi dX12_walks_111 (fun H locs hP hD hS => ?_)
          have hP : va_P E.1 vwCl (wd_X12_walks E a_o a_o_at a_o_names a_o_sort a_o_trayMany a_o_trays a_o_tape a_o_text a_o_opened a_o_farBy a_o_attendsBy a_o_coveredBy a_o_cameBy a_o_cameThen a_o_fallsBy a_o_loops a_o_ran a_o_told1 o_status o_top o_bottom o_taped o_size o_token o_from o_end o_value o_faultKind o_faultPlace o_faults o_seen o_toldParts o_depth o_counted o_becameThen o_firstCorner o_drawn o_ranSteps o_isTold o_marks (jput (jput o_at (u1 + 1) (u95 - 1)) u1 (10 + u67)) o_farBy) H := hP
          have hD : va_D A (wd_X12_walks E a_o a_o_at a_o_names a_o_sort a_o_trayMany a_o_trays a_o_tape a_o_text a_o_opened a_o_farBy a_o_attendsBy a_o_coveredBy a_o_cameBy a_o_cameThen a_o_fallsBy a_o_loops a_o_ran a_o_told1 o_status o_top o_bottom o_taped o_size o_token o_from o_end o_value o_faultKind o_faultPlace o_faults o_seen o_toldParts o_depth o_counted o_becameThen o_firstCorner o_drawn o_ranSteps o_isTold o_marks (jput (jput o_at (u1 + 1) (u95 - 1)) u1 (10 + u67)) o_farBy) := hD
          exact hj112 _ _ _ _ _ hf hP hD hS (lv_sub hl [3, 4, 2] rfl)
        · have hf := it_t hc hf
          obtain rfl := Option.some.inj hf
          subst hq
          exact retV cx hP hD hS dX12_walks_78
  · have hf := it_t hc hf
    refine lv_aload_n hx hb dX12_walks_19 rfl (lv_at hl 2 rfl) ?_
    refine va_get (D := E.1) (ci := 12) (v := .ref a_o_at) (C := RX12) (T := TX12) (N := 39) hx hb hts inX12 hown hK hP 0 rfl rfl 0 (by decide) (hts _ fl_X12_7) (fun _ h9 => h9) rfl dX12_walks_20 ?_
    refine lv_iload_n hx hb dX12_walks_23 rfl (lv_at hl 1 rfl) ?_
    refine lv_iconst (v := 1) hx hb dX12_walks_24 (by decide) ?_
    refine lv_iadd hx hb dX12_walks_25 ?_
    refine lv_dup2_11 hx hb dX12_walks_26 rfl rfl ?_
    obtain ⟨hi, hf⟩ := ck hf
    refine r_iald 1 cx hP rfl hi dX12_walks_27 ?_
    refine lv_iconst (v := 1) hx hb dX12_walks_28 (by decide) ?_
    refine lv_isub hx hb dX12_walks_29 ?_
    obtain ⟨hi, hf⟩ := ck hf
    refine r_iast 1 cx hP hD hS rfl hi dX12_walks_30 (fun H locs hP hD hS => ?_)
    have hP : va_P E.1 vwCl (wd_X12_walks E a_o a_o_at a_o_names a_o_sort a_o_trayMany a_o_trays a_o_tape a_o_text a_o_opened a_o_farBy a_o_attendsBy a_o_coveredBy a_o_cameBy a_o_cameThen a_o_fallsBy a_o_loops a_o_ran a_o_told1 o_status o_top o_bottom o_taped o_size o_token o_from o_end o_value o_faultKind o_faultPlace o_faults o_seen o_toldParts o_depth o_counted o_becameThen o_firstCorner o_drawn o_ranSteps o_isTold o_marks (jput o_at (u1 + 1) ((jat o_at (u1 + 1)) - 1)) o_farBy) H := hP
    have hD : va_D A (wd_X12_walks E a_o a_o_at a_o_names a_o_sort a_o_trayMany a_o_trays a_o_tape a_o_text a_o_opened a_o_farBy a_o_attendsBy a_o_coveredBy a_o_cameBy a_o_cameThen a_o_fallsBy a_o_loops a_o_ran a_o_told1 o_status o_top o_bottom o_taped o_size o_token o_from o_end o_value o_faultKind o_faultPlace o_faults o_seen o_toldParts o_depth o_counted o_becameThen o_firstCorner o_drawn o_ranSteps o_isTold o_marks (jput o_at (u1 + 1) ((jat o_at (u1 + 1)) - 1)) o_farBy) := hD
    refine lv_goto (tgt := 112) hx hb dX12_walks_31 (by decide) ?_
    exact hj112 _ _ _ _ _ hf hP hD hS (lv_sub hl [2, 3, 1] rfl)
def X12_comesAbout_j125 (F : Nat) (o_at : Nat → Int32) (v1 : Int32) (v2 : Int32) (v3 : Int32) (v4 : Int32) : Option ((Int32 × (Nat → Int32)) ⊕ (((Nat → Int32)))) :=
  some (.inl ((v4 + 1), o_at))
def X12_comesAbout_b53 (F : Nat) (v1 : Int32) (v2 : Int32) (v3 : Int32) (st53 : Int32 × (Nat → Int32)) : Option ((Int32 × (Nat → Int32)) ⊕ (((Nat → Int32)))) :=
  if ix 2 3097 then
  if (jat st53.2 2) ≤ st53.1 then
  some (.inr st53.2)
  else
  if v3 = 0 then
  some (.inr st53.2)
  else
  (X12_isIn v2 st53.1).bind fun u72 =>
  if u72 = 0 then
  X12_comesAbout_j125 F st53.2 v1 v2 v3 st53.1
  else
  (X12_extraRow st53.1).bind fun u87 =>
  if ix (u87 + 3) 3097 then
  if ix 5 3097 then
  (X12_happeningOf st53.2 v1 (2 : Int32)).bind fun u103 =>
  if ix (u87 + 3) 3097 then
  (X12_extraRow st53.1).bind fun u115 =>
  if ix (u115 + 4) 3097 then
  if ix (u115 + 4) 3097 then
  X12_comesAbout_j125 F (jput (jput st53.2 (u87 + 3) ((jat st53.2 (u87 + 3)) + ((jat st53.2 5) * u103))) (u115 + 4) ((jat (jput st53.2 (u87 + 3) ((jat st53.2 (u87 + 3)) + ((jat st53.2 5) * u103))) (u115 + 4)) + 1)) v1 v2 v3 st53.1
  else none
  else none
  else none
  else none
  else none
  else none
def X12_comesAbout_j49 (F : Nat) (o_at : Nat → Int32) (v1 : Int32) (v2 : Int32) (v3 : Int32) (k0 : Int32) (k1 : Int32) : Option (Int32 × (Nat → Int32)) :=
  if ix k1 3097 then
  (iter (X12_comesAbout_b53 F v1 v2 v3) F (0, (jput o_at k1 k0))).bind (fun (e53 : (Nat → Int32)) =>
    if isZ v3 then some (v3, e53) else none)
  else none
def X12_comesAbout_j29 (F : Nat) (o_at : Nat → Int32) (v1 : Int32) (v2 : Int32) (k0 : Int32) : Option (Int32 × (Nat → Int32)) :=
  (X12_happeningRow v1).bind fun u35 =>
  if k0 = 0 then
  X12_comesAbout_j49 F o_at v1 v2 k0 2 (u35 + 3)
  else
  X12_comesAbout_j49 F o_at v1 v2 k0 1 (u35 + 3)
def X12_comesAbout (F : Nat) (o_at : Nat → Int32) (v1 : Int32) : Option (Int32 × (Nat → Int32)) :=
  (X12_happeningOf o_at v1 (0 : Int32)).bind fun u4 =>
  (X12_standingAt F o_at u4).bind fun u7 =>
  (X12_bits F u7).bind fun u12 =>
  (X12_happeningOf o_at v1 (2 : Int32)).bind fun u18 =>
  if u12 < u18 then
  X12_comesAbout_j29 F o_at v1 u7 0
  else
  X12_comesAbout_j29 F o_at v1 u7 1
abbrev wd_X12_comesAbout (E : vE) (a_o a_o_at a_o_names a_o_sort a_o_trayMany a_o_trays a_o_tape a_o_text a_o_opened a_o_farBy a_o_attendsBy a_o_coveredBy a_o_cameBy a_o_cameThen a_o_fallsBy a_o_loops a_o_ran a_o_told1 : Nat) (o_status : Int32) (o_top : Int64) (o_bottom : Int64) (o_taped : Int32) (o_size : Int32) (o_token : Int32) (o_from : Int32) (o_end : Int32) (o_value : Int32) (o_faultKind : Int32) (o_faultPlace : Int32) (o_faults : Int32) (o_seen : Int32) (o_toldParts : Int32) (o_depth : Int32) (o_counted : Int32) (o_becameThen : Int32) (o_firstCorner : Int32) (o_drawn : Int32) (o_ranSteps : Int32) (o_isTold : Int32) (o_marks : Int32) (o_at : Nat → Int32) : va_W := [(a_o, .inr (12, [.ref a_o_at, .ref a_o_names, .int o_status, .long o_top, .long o_bottom, .ref a_o_sort, .ref a_o_trayMany, .ref a_o_trays, .ref a_o_tape, .ref a_o_text, .int o_taped, .int o_size, .int o_token, .int o_from, .int o_end, .int o_value, .int o_faultKind, .int o_faultPlace, .int o_faults, .int o_seen, .int o_toldParts, .ref a_o_opened, .int o_depth, .int o_counted, .ref a_o_farBy, .int o_becameThen, .ref a_o_attendsBy, .ref a_o_coveredBy, .ref a_o_cameBy, .ref a_o_cameThen, .int o_firstCorner, .ref a_o_fallsBy, .int o_drawn, .int o_ranSteps, .ref a_o_loops, .ref a_o_ran, .ref a_o_told1, .int o_isTold, .int o_marks])), (a_o_at, .inl (E.2.1, 3097, .inl o_at))]
set_option maxHeartbeats 4000000 in
set_option maxRecDepth 100000 in
theorem ct_X12_comesAbout (l : Launch) (E : vE) (F : Nat) (a_o a_o_at a_o_names a_o_sort a_o_trayMany a_o_trays a_o_tape a_o_text a_o_opened a_o_farBy a_o_attendsBy a_o_coveredBy a_o_cameBy a_o_cameThen a_o_fallsBy a_o_loops a_o_ran a_o_told1 : Nat) (o_status : Int32) (o_top : Int64) (o_bottom : Int64) (o_taped : Int32) (o_size : Int32) (o_token : Int32) (o_from : Int32) (o_end : Int32) (o_value : Int32) (o_faultKind : Int32) (o_faultPlace : Int32) (o_faults : Int32) (o_seen : Int32) (o_toldParts : Int32) (o_depth : Int32) (o_counted : Int32) (o_becameThen : Int32) (o_firstCorner : Int32) (o_drawn : Int32) (o_ranSteps : Int32) (o_isTold : Int32) (o_marks : Int32) (o_at : Nat → Int32) (v1 : Int32) (u : Int32 × (Nat → Int32)) (hf : X12_comesAbout F o_at v1 = some u) :
    CtI l yX12_comesAbout cX12_comesAbout 5 (some .boolean) 3 E [.ref a_o, .int v1] (wd_X12_comesAbout E a_o a_o_at a_o_names a_o_sort a_o_trayMany a_o_trays a_o_tape a_o_text a_o_opened a_o_farBy a_o_attendsBy a_o_coveredBy a_o_cameBy a_o_cameThen a_o_fallsBy a_o_loops a_o_ran a_o_told1 o_status o_top o_bottom o_taped o_size o_token o_from o_end o_value o_faultKind o_faultPlace o_faults o_seen o_toldParts o_depth o_counted o_becameThen o_firstCorner o_drawn o_ranSteps o_isTold o_marks o_at) (wd_X12_comesAbout E a_o a_o_at a_o_names a_o_sort a_o_trayMany a_o_trays a_o_tape a_o_text a_o_opened a_o_farBy a_o_attendsBy a_o_coveredBy a_o_cameBy a_o_cameThen a_o_fallsBy a_o_loops a_o_ran a_o_told1 o_status o_top o_bottom o_taped o_size o_token o_from o_end o_value o_faultKind o_faultPlace o_faults o_seen o_toldParts o_depth o_counted o_becameThen o_firstCorner o_drawn o_ranSteps o_isTold o_marks u.2) u.1 := by
  refine ctI (by decide) (Nat.le_of_ble_eq_true rfl) ?_
  intro p e s m below meth cd A ls aa QQ hq cx hP hD hS hl
  obtain ⟨⟨hx, hb, hml, hown, hts⟩, hr, hlocks, hK, hA, hX⟩ := id cx
  have hl : lv_has ls 5 [(0, .ref a_o), (1, .int v1)] := hl
  have hj49 : ∀ (v2_j49 : Int32) (v3_j49 : Int32) (o_at_j49 : Nat → Int32) (k0_j49 : Int32) (k1_j49 : Int32) (H : Heap) (locs : List Loc) (ls : Array Slot), X12_comesAbout_j49 F o_at_j49 v1 v2_j49 v3_j49 k0_j49 k1_j49 = some u → va_P E.1 vwCl (wd_X12_comesAbout E a_o a_o_at a_o_names a_o_sort a_o_trayMany a_o_trays a_o_tape a_o_text a_o_opened a_o_farBy a_o_attendsBy a_o_coveredBy a_o_cameBy a_o_cameThen a_o_fallsBy a_o_loops a_o_ran a_o_told1 o_status o_top o_bottom o_taped o_size o_token o_from o_end o_value o_faultKind o_faultPlace o_faults o_seen o_toldParts o_depth o_counted o_becameThen o_firstCorner o_drawn o_ranSteps o_isTold o_marks o_at_j49) H → va_D A (wd_X12_comesAbout E a_o a_o_at a_o_names a_o_sort a_o_trayMany a_o_trays a_o_tape a_o_text a_o_opened a_o_farBy a_o_attendsBy a_o_coveredBy a_o_cameBy a_o_cameThen a_o_fallsBy a_o_loops a_o_ran a_o_told1 o_status o_top o_bottom o_taped o_size o_token o_from o_end o_value o_faultKind o_faultPlace o_faults o_seen o_toldParts o_depth o_counted o_becameThen o_firstCorner o_drawn o_ranSteps o_isTold o_marks o_at_j49) → va_S A s.heap H locs → lv_has ls 5 [(0, .ref a_o), (1, .int v1), (2, .int v2_j49), (3, .int v3_j49)] → W p l e (rmd 3) s m aa below meth cd H locs 0 0 QQ (F0 m 49 ls [.int k0_j49, .int k1_j49, .ref a_o_at]) := by
    intro v2_j49 v3_j49 o_at_j49 k0_j49 k1_j49 H locs ls hf hP hD hS hl
    unfold X12_comesAbout_j49 at hf
    obtain ⟨hi, hf⟩ := ck hf
    refine r_iast 1 cx hP hD hS rfl hi dX12_comesAbout_49 (fun H locs hP hD hS => ?_)
    have hP : va_P E.1 vwCl (wd_X12_comesAbout E a_o a_o_at a_o_names a_o_sort a_o_trayMany a_o_trays a_o_tape a_o_text a_o_opened a_o_farBy a_o_attendsBy a_o_coveredBy a_o_cameBy a_o_cameThen a_o_fallsBy a_o_loops a_o_ran a_o_told1 o_status o_top o_bottom o_taped o_size o_token o_from o_end o_value o_faultKind o_faultPlace o_faults o_seen o_toldParts o_depth o_counted o_becameThen o_firstCorner o_drawn o_ranSteps o_isTold o_marks (jput o_at_j49 k1_j49 k0_j49)) H := hP
    have hD : va_D A (wd_X12_comesAbout E a_o a_o_at a_o_names a_o_sort a_o_trayMany a_o_trays a_o_tape a_o_text a_o_opened a_o_farBy a_o_attendsBy a_o_coveredBy a_o_cameBy a_o_cameThen a_o_fallsBy a_o_loops a_o_ran a_o_told1 o_status o_top o_bottom o_taped o_size o_token o_from o_end o_value o_faultKind o_faultPlace o_faults o_seen o_toldParts o_depth o_counted o_becameThen o_firstCorner o_drawn o_ranSteps o_isTold o_marks (jput o_at_j49 k1_j49 k0_j49)) := hD
    refine lv_iconst (v := 0) hx hb dX12_comesAbout_50 (by decide) ?_
    refine lv_istore (lv' := [(4, .int 0), (0, .ref a_o), (1, .int v1), (2, .int v2_j49), (3, .int v3_j49)]) hx hb dX12_comesAbout_51 hl (by decide) rfl (fun ls hl => ?_)
    obtain ⟨e53, hit53, hf⟩ := bd hf
    refine iter_W (b := X12_comesAbout_b53 F v1 v2_j49 v3_j49) (P := fun st53 => ∀ (H : Heap) (locs : List Loc) (ls : Array Slot), va_P E.1 vwCl (wd_X12_comesAbout E a_o a_o_at a_o_names a_o_sort a_o_trayMany a_o_trays a_o_tape a_o_text a_o_opened a_o_farBy a_o_attendsBy a_o_coveredBy a_o_cameBy a_o_cameThen a_o_fallsBy a_o_loops a_o_ran a_o_told1 o_status o_top o_bottom o_taped o_size o_token o_from o_end o_value o_faultKind o_faultPlace o_faults o_seen o_toldParts o_depth o_counted o_becameThen o_firstCorner o_drawn o_ranSteps o_isTold o_marks st53.2) H → va_D A (wd_X12_comesAbout E a_o a_o_at a_o_names a_o_sort a_o_trayMany a_o_trays a_o_tape a_o_text a_o_opened a_o_farBy a_o_attendsBy a_o_coveredBy a_o_cameBy a_o_cameThen a_o_fallsBy a_o_loops a_o_ran a_o_told1 o_status o_top o_bottom o_taped o_size o_token o_from o_end o_value o_faultKind o_faultPlace o_faults o_seen o_toldParts o_depth o_counted o_becameThen o_firstCorner o_drawn o_ranSteps o_isTold o_marks st53.2) → va_S A s.heap H locs → lv_has ls 5 [(0, .ref a_o), (1, .int v1), (2, .int v2_j49), (3, .int v3_j49), (4, .int st53.1)] → W p l e (rmd 3) s m aa below meth cd H locs 0 0 QQ (F0 m 53 ls [])) (G := (fun (e53 : (Nat → Int32)) => ∀ (H : Heap) (locs : List Loc) (ls : Array Slot), va_P E.1 vwCl (wd_X12_comesAbout E a_o a_o_at a_o_names a_o_sort a_o_trayMany a_o_trays a_o_tape a_o_text a_o_opened a_o_farBy a_o_attendsBy a_o_coveredBy a_o_cameBy a_o_cameThen a_o_fallsBy a_o_loops a_o_ran a_o_told1 o_status o_top o_bottom o_taped o_size o_token o_from o_end o_value o_faultKind o_faultPlace o_faults o_seen o_toldParts o_depth o_counted o_becameThen o_firstCorner o_drawn o_ranSteps o_isTold o_marks e53) H → va_D A (wd_X12_comesAbout E a_o a_o_at a_o_names a_o_sort a_o_trayMany a_o_trays a_o_tape a_o_text a_o_opened a_o_farBy a_o_attendsBy a_o_coveredBy a_o_cameBy a_o_cameThen a_o_fallsBy a_o_loops a_o_ran a_o_told1 o_status o_top o_bottom o_taped o_size o_token o_from o_end o_value o_faultKind o_faultPlace o_faults o_seen o_toldParts o_depth o_counted o_becameThen o_firstCorner o_drawn o_ranSteps o_isTold o_marks e53) → va_S A s.heap H locs → lv_has ls 5 [(3, .int v3_j49)] → W p l e (rmd 3) s m aa below meth cd H locs 0 0 QQ (F0 m 131 ls []))) ?_ F (0, (jput o_at_j49 k1_j49 k0_j49)) e53 hit53 ?_ _ _ _ hP hD hS (lv_sub hl [1, 2, 3, 4, 0] rfl)
    · intro st53 r53 hf hk53 he53 H locs ls hP hD hS hl
      have hj125 : ∀ (v4_j125 : Int32) (o_at_j125 : Nat → Int32) (H : Heap) (locs : List Loc) (ls : Array Slot), X12_comesAbout_j125 F o_at_j125 v1 v2_j49 v3_j49 v4_j125 = some r53 → va_P E.1 vwCl (wd_X12_comesAbout E a_o a_o_at a_o_names a_o_sort a_o_trayMany a_o_trays a_o_tape a_o_text a_o_opened a_o_farBy a_o_attendsBy a_o_coveredBy a_o_cameBy a_o_cameThen a_o_fallsBy a_o_loops a_o_ran a_o_told1 o_status o_top o_bottom o_taped o_size o_token o_from o_end o_value o_faultKind o_faultPlace o_faults o_seen o_toldParts o_depth o_counted o_becameThen o_firstCorner o_drawn o_ranSteps o_isTold o_marks o_at_j125) H → va_D A (wd_X12_comesAbout E a_o a_o_at a_o_names a_o_sort a_o_trayMany a_o_trays a_o_tape a_o_text a_o_opened a_o_farBy a_o_attendsBy a_o_coveredBy a_o_cameBy a_o_cameThen a_o_fallsBy a_o_loops a_o_ran a_o_told1 o_status o_top o_bottom o_taped o_size o_token o_from o_end o_value o_faultKind o_faultPlace o_faults o_seen o_toldParts o_depth o_counted o_becameThen o_firstCorner o_drawn o_ranSteps o_isTold o_marks o_at_j125) → va_S A s.heap H locs → lv_has ls 5 [(0, .ref a_o), (1, .int v1), (2, .int v2_j49), (3, .int v3_j49), (4, .int v4_j125)] → W p l e (rmd 3) s m aa below meth cd H locs 0 0 QQ (F0 m 125 ls []) := by
        intro v4_j125 o_at_j125 H locs ls hf hP hD hS hl
        unfold X12_comesAbout_j125 at hf
        refine lv_iinc (v := (v4_j125 + 1)) (lv' := [(4, .int (v4_j125 + 1)), (0, .ref a_o), (1, .int v1), (2, .int v2_j49), (3, .int v3_j49)]) hx hb dX12_comesAbout_125 hl (k := 4) rfl rfl (by decide) rfl (fun ls hl => ?_)
        refine lv_goto (tgt := 53) hx hb dX12_comesAbout_128 (by decide) ?_
        exact hk53 _ (Option.some.inj hf).symm _ _ _ hP hD hS (lv_sub hl [1, 2, 3, 4, 0] rfl)
      unfold X12_comesAbout_b53 at hf
      refine lv_iload hx hb dX12_comesAbout_53 (lv_at hl 4 rfl) ?_
      refine lv_aload_n hx hb dX12_comesAbout_55 rfl (lv_at hl 0 rfl) ?_
      refine va_get (D := E.1) (ci := 12) (v := .ref a_o_at) (C := RX12) (T := TX12) (N := 39) hx hb hts inX12 hown hK hP 0 rfl rfl 0 (by decide) (hts _ fl_X12_7) (fun _ h9 => h9) rfl dX12_comesAbout_56 ?_
      refine lv_iconst (v := 2) hx hb dX12_comesAbout_59 (by decide) ?_
      obtain ⟨hi, hf⟩ := ck hf
      refine r_iald 1 cx hP rfl hi dX12_comesAbout_60 ?_
      refine lv_icmp_ge (tgt := 131) hx hb dX12_comesAbout_61 (by decide) (fun hc => ?_) (fun hc => ?_)
      · have hf := it_t hc hf
        exact he53 _ (Option.some.inj hf).symm _ _ _ hP hD hS (lv_sub hl [3] rfl)
      · have hf := it_f hc hf
        refine lv_iload_n hx hb dX12_comesAbout_64 rfl (lv_at hl 3 rfl) ?_
        refine lv_if_eq (tgt := 131) hx hb dX12_comesAbout_65 (by decide) (fun hc => ?_) (fun hc => ?_)
        · have hf := it_t hc hf
          exact he53 _ (Option.some.inj hf).symm _ _ _ hP hD hS (lv_sub hl [3] rfl)
        · have hf := it_f hc hf
          refine lv_aload_n hx hb dX12_comesAbout_68 rfl (lv_at hl 0 rfl) ?_
          refine lv_iload_n hx hb dX12_comesAbout_69 rfl (lv_at hl 2 rfl) ?_
          refine lv_iload hx hb dX12_comesAbout_70 (lv_at hl 4 rfl) ?_
          obtain ⟨u72, hu72, hf⟩ := bd hf
          refine keepVI (ct_X12_isIn l E a_o a_o_at a_o_names a_o_sort a_o_trayMany a_o_trays a_o_tape a_o_text a_o_opened a_o_farBy a_o_attendsBy a_o_coveredBy a_o_cameBy a_o_cameThen a_o_fallsBy a_o_loops a_o_ran a_o_told1 o_status o_top o_bottom o_taped o_size o_token o_from o_end o_value o_faultKind o_faultPlace o_faults o_seen o_toldParts o_depth o_counted o_becameThen o_firstCorner o_drawn o_ranSteps o_isTold o_marks v2_j49 st53.1 u72 hu72) [0] cal_X12_isIn cav_X12_isIn lk_X12_327 cx hP hD hS hl dX12_comesAbout_72 rfl rfl rfl rfl (Nat.le_of_ble_eq_true rfl) ⟨Nat.le_of_ble_eq_true rfl, Nat.le_of_ble_eq_true rfl⟩ rfl (by decide) (fun H locs hP hS => ?_)
          refine lv_if_ne (tgt := 81) hx hb dX12_comesAbout_75 (by decide) (fun hc => ?_) (fun hc => ?_)
          · have hf := it_f hc hf
            refine lv_aload_n hx hb dX12_comesAbout_81 rfl (lv_at hl 0 rfl) ?_
            refine va_get (D := E.1) (ci := 12) (v := .ref a_o_at) (C := RX12) (T := TX12) (N := 39) hx hb hts inX12 hown hK hP 0 rfl rfl 0 (by decide) (hts _ fl_X12_7) (fun _ h9 => h9) rfl dX12_comesAbout_82 ?_
            refine lv_iload hx hb dX12_comesAbout_85 (lv_at hl 4 rfl) ?_
            obtain ⟨u87, hu87, hf⟩ := bd hf
            refine keepSI (ct_X12_extraRow l E st53.1 u87 hu87) [] cal_X12_extraRow sta_X12_extraRow lk_X12_211 cx hP hD hS hl dX12_comesAbout_87 rfl rfl (Nat.le_of_ble_eq_true rfl) ⟨Nat.le_of_ble_eq_true rfl, Nat.le_of_ble_eq_true rfl⟩ rfl (by decide) (fun H locs hP hS => ?_)
            refine lv_iconst (v := 3) hx hb dX12_comesAbout_90 (by decide) ?_
            refine lv_iadd hx hb dX12_comesAbout_91 ?_
            refine lv_dup2_11 hx hb dX12_comesAbout_92 rfl rfl ?_
            obtain ⟨hi, hf⟩ := ck hf
            refine r_iald 1 cx hP rfl hi dX12_comesAbout_93 ?_
            refine lv_aload_n hx hb dX12_comesAbout_94 rfl (lv_at hl 0 rfl) ?_
            refine va_get (D := E.1) (ci := 12) (v := .ref a_o_at) (C := RX12) (T := TX12) (N := 39) hx hb hts inX12 hown hK hP 0 rfl rfl 0 (by decide) (hts _ fl_X12_7) (fun _ h9 => h9) rfl dX12_comesAbout_95 ?_
            refine lv_iconst (v := 5) hx hb dX12_comesAbout_98 (by decide) ?_
            obtain ⟨hi, hf⟩ := ck hf
            refine r_iald 1 cx hP rfl hi dX12_comesAbout_99 ?_
            refine lv_aload_n hx hb dX12_comesAbout_100 rfl (lv_at hl 0 rfl) ?_
            refine lv_iload_n hx hb dX12_comesAbout_101 rfl (lv_at hl 1 rfl) ?_
            refine lv_iconst (v := 2) hx hb dX12_comesAbout_102 (by decide) ?_
            obtain ⟨u103, hu103, hf⟩ := bd hf
            refine keepVI (ct_X12_happeningOf l E a_o a_o_at a_o_names a_o_sort a_o_trayMany a_o_trays a_o_tape a_o_text a_o_opened a_o_farBy a_o_attendsBy a_o_coveredBy a_o_cameBy a_o_cameThen a_o_fallsBy a_o_loops a_o_ran a_o_told1 o_status o_top o_bottom o_taped o_size o_token o_from o_end o_value o_faultKind o_faultPlace o_faults o_seen o_toldParts o_depth o_counted o_becameThen o_firstCorner o_drawn o_ranSteps o_isTold o_marks st53.2 v1 (2 : Int32) u103 hu103) [0, 1] cal_X12_happeningOf cav_X12_happeningOf lk_X12_278 cx hP hD hS hl dX12_comesAbout_103 rfl rfl rfl rfl (Nat.le_of_ble_eq_true rfl) ⟨Nat.le_of_ble_eq_true rfl, Nat.le_of_ble_eq_true rfl⟩ rfl (by decide) (fun H locs hP hS => ?_)
            refine lv_imul hx hb dX12_comesAbout_106 ?_
            refine lv_iadd hx hb dX12_comesAbout_107 ?_
            obtain ⟨hi, hf⟩ := ck hf
            refine r_iast 1 cx hP hD hS rfl hi dX12_comesAbout_108 (fun H locs hP hD hS => ?_)
            have hP : va_P E.1 vwCl (wd_X12_comesAbout E a_o a_o_at a_o_names a_o_sort a_o_trayMany a_o_trays a_o_tape a_o_text a_o_opened a_o_farBy a_o_attendsBy a_o_coveredBy a_o_cameBy a_o_cameThen a_o_fallsBy a_o_loops a_o_ran a_o_told1 o_status o_top o_bottom o_taped o_size o_token o_from o_end o_value o_faultKind o_faultPlace o_faults o_seen o_toldParts o_depth o_counted o_becameThen o_firstCorner o_drawn o_ranSteps o_isTold o_marks (jput st53.2 (u87 + 3) ((jat st53.2 (u87 + 3)) + ((jat st53.2 5) * u103)))) H := hP
            have hD : va_D A (wd_X12_comesAbout E a_o a_o_at a_o_names a_o_sort a_o_trayMany a_o_trays a_o_tape a_o_text a_o_opened a_o_farBy a_o_attendsBy a_o_coveredBy a_o_cameBy a_o_cameThen a_o_fallsBy a_o_loops a_o_ran a_o_told1 o_status o_top o_bottom o_taped o_size o_token o_from o_end o_value o_faultKind o_faultPlace o_faults o_seen o_toldParts o_depth o_counted o_becameThen o_firstCorner o_drawn o_ranSteps o_isTold o_marks (jput st53.2 (u87 + 3) ((jat st53.2 (u87 + 3)) + ((jat st53.2 5) * u103)))) := hD
            refine lv_aload_n hx hb dX12_comesAbout_109 rfl (lv_at hl 0 rfl) ?_
            refine va_get (D := E.1) (ci := 12) (v := .ref a_o_at) (C := RX12) (T := TX12) (N := 39) hx hb hts inX12 hown hK hP 0 rfl rfl 0 (by decide) (hts _ fl_X12_7) (fun _ h9 => h9) rfl dX12_comesAbout_110 ?_
            refine lv_iload hx hb dX12_comesAbout_113 (lv_at hl 4 rfl) ?_
            obtain ⟨u115, hu115, hf⟩ := bd hf
            refine keepSI (ct_X12_extraRow l E st53.1 u115 hu115) [] cal_X12_extraRow sta_X12_extraRow lk_X12_211 cx hP hD hS hl dX12_comesAbout_115 rfl rfl (Nat.le_of_ble_eq_true rfl) ⟨Nat.le_of_ble_eq_true rfl, Nat.le_of_ble_eq_true rfl⟩ rfl (by decide) (fun H locs hP hS => ?_)
            refine lv_iconst (v := 4) hx hb dX12_comesAbout_118 (by decide) ?_
            refine lv_iadd hx hb dX12_comesAbout_119 ?_
            refine lv_dup2_11 hx hb dX12_comesAbout_120 rfl rfl ?_
            obtain ⟨hi, hf⟩ := ck hf
            refine r_iald 1 cx hP rfl hi dX12_comesAbout_121 ?_
            refine lv_iconst (v := 1) hx hb dX12_comesAbout_122 (by decide) ?_
            refine lv_iadd hx hb dX12_comesAbout_123 ?_
            obtain ⟨hi, hf⟩ := ck hf
            refine r_iast 1 cx hP hD hS rfl hi dX12_comesAbout_124 (fun H locs hP hD hS => ?_)
            have hP : va_P E.1 vwCl (wd_X12_comesAbout E a_o a_o_at a_o_names a_o_sort a_o_trayMany a_o_trays a_o_tape a_o_text a_o_opened a_o_farBy a_o_attendsBy a_o_coveredBy a_o_cameBy a_o_cameThen a_o_fallsBy a_o_loops a_o_ran a_o_told1 o_status o_top o_bottom o_taped o_size o_token o_from o_end o_value o_faultKind o_faultPlace o_faults o_seen o_toldParts o_depth o_counted o_becameThen o_firstCorner o_drawn o_ranSteps o_isTold o_marks (jput (jput st53.2 (u87 + 3) ((jat st53.2 (u87 + 3)) + ((jat st53.2 5) * u103))) (u115 + 4) ((jat (jput st53.2 (u87 + 3) ((jat st53.2 (u87 + 3)) + ((jat st53.2 5) * u103))) (u115 + 4)) + 1))) H := hP
            have hD : va_D A (wd_X12_comesAbout E a_o a_o_at a_o_names a_o_sort a_o_trayMany a_o_trays a_o_tape a_o_text a_o_opened a_o_farBy a_o_attendsBy a_o_coveredBy a_o_cameBy a_o_cameThen a_o_fallsBy a_o_loops a_o_ran a_o_told1 o_status o_top o_bottom o_taped o_size o_token o_from o_end o_value o_faultKind o_faultPlace o_faults o_seen o_toldParts o_depth o_counted o_becameThen o_firstCorner o_drawn o_ranSteps o_isTold o_marks (jput (jput st53.2 (u87 + 3) ((jat st53.2 (u87 + 3)) + ((jat st53.2 5) * u103))) (u115 + 4) ((jat (jput st53.2 (u87 + 3) ((jat st53.2 (u87 + 3)) + ((jat st53.2 5) * u103))) (u115 + 4)) + 1))) := hD
            exact hj125 _ _ _ _ _ hf hP hD hS (lv_sub hl [0, 1, 2, 3, 4] rfl)
          · have hf := it_t hc hf
            refine lv_goto (tgt := 125) hx hb dX12_comesAbout_78 (by decide) ?_
            exact hj125 _ _ _ _ _ hf hP hD hS (lv_sub hl [0, 1, 2, 3, 4] rfl)
    · refine fun H locs ls hP hD hS hl => ?_
      refine lv_iload_n hx hb dX12_comesAbout_131 rfl (lv_at hl 0 rfl) ?_
      obtain ⟨hz, hf⟩ := ck hf
      obtain rfl := Option.some.inj hf
      subst hq
      exact retZ cx hz hP hD hS dX12_comesAbout_132
  have hj29 : ∀ (v2_j29 : Int32) (o_at_j29 : Nat → Int32) (k0_j29 : Int32) (H : Heap) (locs : List Loc) (ls : Array Slot), X12_comesAbout_j29 F o_at_j29 v1 v2_j29 k0_j29 = some u → va_P E.1 vwCl (wd_X12_comesAbout E a_o a_o_at a_o_names a_o_sort a_o_trayMany a_o_trays a_o_tape a_o_text a_o_opened a_o_farBy a_o_attendsBy a_o_coveredBy a_o_cameBy a_o_cameThen a_o_fallsBy a_o_loops a_o_ran a_o_told1 o_status o_top o_bottom o_taped o_size o_token o_from o_end o_value o_faultKind o_faultPlace o_faults o_seen o_toldParts o_depth o_counted o_becameThen o_firstCorner o_drawn o_ranSteps o_isTold o_marks o_at_j29) H → va_D A (wd_X12_comesAbout E a_o a_o_at a_o_names a_o_sort a_o_trayMany a_o_trays a_o_tape a_o_text a_o_opened a_o_farBy a_o_attendsBy a_o_coveredBy a_o_cameBy a_o_cameThen a_o_fallsBy a_o_loops a_o_ran a_o_told1 o_status o_top o_bottom o_taped o_size o_token o_from o_end o_value o_faultKind o_faultPlace o_faults o_seen o_toldParts o_depth o_counted o_becameThen o_firstCorner o_drawn o_ranSteps o_isTold o_marks o_at_j29) → va_S A s.heap H locs → lv_has ls 5 [(0, .ref a_o), (1, .int v1), (2, .int v2_j29)] → W p l e (rmd 3) s m aa below meth cd H locs 0 0 QQ (F0 m 29 ls [.int k0_j29]) := by
    intro v2_j29 o_at_j29 k0_j29 H locs ls hf hP hD hS hl
    unfold X12_comesAbout_j29 at hf
    refine lv_istore_n (lv' := [(3, .int k0_j29), (0, .ref a_o), (1, .int v1), (2, .int v2_j29)]) hx hb dX12_comesAbout_29 rfl hl (by decide) rfl (fun ls hl => ?_)
    refine lv_aload_n hx hb dX12_comesAbout_30 rfl (lv_at hl 1 rfl) ?_
    refine va_get (D := E.1) (ci := 12) (v := .ref a_o_at) (C := RX12) (T := TX12) (N := 39) hx hb hts inX12 hown hK hP 0 rfl rfl 0 (by decide) (hts _ fl_X12_7) (fun _ h9 => h9) rfl dX12_comesAbout_31 ?_
    refine lv_iload_n hx hb dX12_comesAbout_34 rfl (lv_at hl 2 rfl) ?_
    obtain ⟨u35, hu35, hf⟩ := bd hf
    refine keepSI (ct_X12_happeningRow l E v1 u35 hu35) [] cal_X12_happeningRow sta_X12_happeningRow lk_X12_214 cx hP hD hS hl dX12_comesAbout_35 rfl rfl (Nat.le_of_ble_eq_true rfl) ⟨Nat.le_of_ble_eq_true rfl, Nat.le_of_ble_eq_true rfl⟩ rfl (by decide) (fun H locs hP hS => ?_)
    refine lv_iconst (v := 3) hx hb dX12_comesAbout_38 (by decide) ?_
    refine lv_iadd hx hb dX12_comesAbout_39 ?_
    refine lv_iload_n hx hb dX12_comesAbout_40 rfl (lv_at hl 0 rfl) ?_
    refine lv_if_eq (tgt := 48) hx hb dX12_comesAbout_41 (by decide) (fun hc => ?_) (fun hc => ?_)
    · have hf := it_t hc hf
      refine lv_iconst (v := 2) hx hb dX12_comesAbout_48 (by decide) ?_
      exact hj49 _ _ _ _ _ _ _ _ hf hP hD hS (lv_sub hl [1, 2, 3, 0] rfl)
    · have hf := it_f hc hf
      refine lv_iconst (v := 1) hx hb dX12_comesAbout_44 (by decide) ?_
      refine lv_goto (tgt := 49) hx hb dX12_comesAbout_45 (by decide) ?_
      exact hj49 _ _ _ _ _ _ _ _ hf hP hD hS (lv_sub hl [1, 2, 3, 0] rfl)
  unfold X12_comesAbout at hf
  refine lv_aload_n hx hb dX12_comesAbout_0 rfl (lv_at hl 0 rfl) ?_
  refine lv_aload_n hx hb dX12_comesAbout_1 rfl (lv_at hl 0 rfl) ?_
  refine lv_iload_n hx hb dX12_comesAbout_2 rfl (lv_at hl 1 rfl) ?_
  refine lv_iconst (v := 0) hx hb dX12_comesAbout_3 (by decide) ?_
  obtain ⟨u4, hu4, hf⟩ := bd hf
  refine keepVI (ct_X12_happeningOf l E a_o a_o_at a_o_names a_o_sort a_o_trayMany a_o_trays a_o_tape a_o_text a_o_opened a_o_farBy a_o_attendsBy a_o_coveredBy a_o_cameBy a_o_cameThen a_o_fallsBy a_o_loops a_o_ran a_o_told1 o_status o_top o_bottom o_taped o_size o_token o_from o_end o_value o_faultKind o_faultPlace o_faults o_seen o_toldParts o_depth o_counted o_becameThen o_firstCorner o_drawn o_ranSteps o_isTold o_marks o_at v1 (0 : Int32) u4 hu4) [0, 1] cal_X12_happeningOf cav_X12_happeningOf lk_X12_278 cx hP hD hS hl dX12_comesAbout_4 rfl rfl rfl rfl (Nat.le_of_ble_eq_true rfl) ⟨Nat.le_of_ble_eq_true rfl, Nat.le_of_ble_eq_true rfl⟩ rfl (by decide) (fun H locs hP hS => ?_)
  obtain ⟨u7, hu7, hf⟩ := bd hf
  refine keepVI (ct_X12_standingAt l E F a_o a_o_at a_o_names a_o_sort a_o_trayMany a_o_trays a_o_tape a_o_text a_o_opened a_o_farBy a_o_attendsBy a_o_coveredBy a_o_cameBy a_o_cameThen a_o_fallsBy a_o_loops a_o_ran a_o_told1 o_status o_top o_bottom o_taped o_size o_token o_from o_end o_value o_faultKind o_faultPlace o_faults o_seen o_toldParts o_depth o_counted o_becameThen o_firstCorner o_drawn o_ranSteps o_isTold o_marks o_at u4 u7 hu7) [0, 1] cal_X12_standingAt cav_X12_standingAt lk_X12_299 cx hP hD hS hl dX12_comesAbout_7 rfl rfl rfl rfl (Nat.le_of_ble_eq_true rfl) ⟨Nat.le_of_ble_eq_true rfl, Nat.le_of_ble_eq_true rfl⟩ rfl (by decide) (fun H locs hP hS => ?_)
  refine lv_istore_n (lv' := [(2, .int u7), (0, .ref a_o), (1, .int v1)]) hx hb dX12_comesAbout_10 rfl hl (by decide) rfl (fun ls hl => ?_)
  refine lv_iload_n hx hb dX12_comesAbout_11 rfl (lv_at hl 0 rfl) ?_
  obtain ⟨u12, hu12, hf⟩ := bd hf
  refine keepSI (ct_X12_bits l E F u7 u12 hu12) [] cal_X12_bits sta_X12_bits lk_X12_302 cx hP hD hS hl dX12_comesAbout_12 rfl rfl (Nat.le_of_ble_eq_true rfl) ⟨Nat.le_of_ble_eq_true rfl, Nat.le_of_ble_eq_true rfl⟩ rfl (by decide) (fun H locs hP hS => ?_)
  refine lv_aload_n hx hb dX12_comesAbout_15 rfl (lv_at hl 1 rfl) ?_
  refine lv_iload_n hx hb dX12_comesAbout_16 rfl (lv_at hl 2 rfl) ?_
  refine lv_iconst (v := 2) hx hb dX12_comesAbout_17 (by decide) ?_
  obtain ⟨u18, hu18, hf⟩ := bd hf
  refine keepVI (ct_X12_happeningOf l E a_o a_o_at a_o_names a_o_sort a_o_trayMany a_o_trays a_o_tape a_o_text a_o_opened a_o_farBy a_o_attendsBy a_o_coveredBy a_o_cameBy a_o_cameThen a_o_fallsBy a_o_loops a_o_ran a_o_told1 o_status o_top o_bottom o_taped o_size o_token o_from o_end o_value o_faultKind o_faultPlace o_faults o_seen o_toldParts o_depth o_counted o_becameThen o_firstCorner o_drawn o_ranSteps o_isTold o_marks o_at v1 (2 : Int32) u18 hu18) [0, 1] cal_X12_happeningOf cav_X12_happeningOf lk_X12_278 cx hP hD hS hl dX12_comesAbout_18 rfl rfl rfl rfl (Nat.le_of_ble_eq_true rfl) ⟨Nat.le_of_ble_eq_true rfl, Nat.le_of_ble_eq_true rfl⟩ rfl (by decide) (fun H locs hP hS => ?_)
  refine lv_icmp_lt (tgt := 28) hx hb dX12_comesAbout_21 (by decide) (fun hc => ?_) (fun hc => ?_)
  · have hf := it_t hc hf
    refine lv_iconst (v := 0) hx hb dX12_comesAbout_28 (by decide) ?_
    exact hj29 _ _ _ _ _ _ hf hP hD hS (lv_sub hl [1, 2, 0] rfl)
  · have hf := it_f hc hf
    refine lv_iconst (v := 1) hx hb dX12_comesAbout_24 (by decide) ?_
    refine lv_goto (tgt := 29) hx hb dX12_comesAbout_25 (by decide) ?_
    exact hj29 _ _ _ _ _ _ hf hP hD hS (lv_sub hl [1, 2, 0] rfl)
