def X12_draw (o_drawn : Int32) (v1 : Int32) : Option (Int32 × Int32) :=
  if ¬ 65536 = (0 : Int32) then
  if ¬ 8 = (0 : Int32) then
  if ¬ v1 = (0 : Int32) then
  some ((jrem ((jrem ((o_drawn * 3121) + 11351) 65536) / 8) v1), (jrem ((o_drawn * 3121) + 11351) 65536))
  else none
  else none
  else none
abbrev wd_X12_draw (E : vE) (a_o a_o_at a_o_names a_o_sort a_o_trayMany a_o_trays a_o_tape a_o_text a_o_opened a_o_farBy a_o_attendsBy a_o_coveredBy a_o_cameBy a_o_cameThen a_o_fallsBy a_o_loops a_o_ran a_o_told1 : Nat) (o_status : Int32) (o_top : Int64) (o_bottom : Int64) (o_taped : Int32) (o_size : Int32) (o_token : Int32) (o_from : Int32) (o_end : Int32) (o_value : Int32) (o_faultKind : Int32) (o_faultPlace : Int32) (o_faults : Int32) (o_seen : Int32) (o_toldParts : Int32) (o_depth : Int32) (o_counted : Int32) (o_becameThen : Int32) (o_firstCorner : Int32) (o_drawn : Int32) (o_ranSteps : Int32) (o_isTold : Int32) (o_marks : Int32) : va_W := [(a_o, .inr (12, [.ref a_o_at, .ref a_o_names, .int o_status, .long o_top, .long o_bottom, .ref a_o_sort, .ref a_o_trayMany, .ref a_o_trays, .ref a_o_tape, .ref a_o_text, .int o_taped, .int o_size, .int o_token, .int o_from, .int o_end, .int o_value, .int o_faultKind, .int o_faultPlace, .int o_faults, .int o_seen, .int o_toldParts, .ref a_o_opened, .int o_depth, .int o_counted, .ref a_o_farBy, .int o_becameThen, .ref a_o_attendsBy, .ref a_o_coveredBy, .ref a_o_cameBy, .ref a_o_cameThen, .int o_firstCorner, .ref a_o_fallsBy, .int o_drawn, .int o_ranSteps, .ref a_o_loops, .ref a_o_ran, .ref a_o_told1, .int o_isTold, .int o_marks]))]
set_option maxHeartbeats 4000000 in
set_option maxRecDepth 100000 in
theorem ct_X12_draw (l : Launch) (E : vE) (a_o a_o_at a_o_names a_o_sort a_o_trayMany a_o_trays a_o_tape a_o_text a_o_opened a_o_farBy a_o_attendsBy a_o_coveredBy a_o_cameBy a_o_cameThen a_o_fallsBy a_o_loops a_o_ran a_o_told1 : Nat) (o_status : Int32) (o_top : Int64) (o_bottom : Int64) (o_taped : Int32) (o_size : Int32) (o_token : Int32) (o_from : Int32) (o_end : Int32) (o_value : Int32) (o_faultKind : Int32) (o_faultPlace : Int32) (o_faults : Int32) (o_seen : Int32) (o_toldParts : Int32) (o_depth : Int32) (o_counted : Int32) (o_becameThen : Int32) (o_firstCorner : Int32) (o_drawn : Int32) (o_ranSteps : Int32) (o_isTold : Int32) (o_marks : Int32) (v1 : Int32) (u : Int32 × Int32) (hf : X12_draw o_drawn v1 = some u) :
    CtI l yX12_draw cX12_draw 2 (some .int) 0 E [.ref a_o, .int v1] (wd_X12_draw E a_o a_o_at a_o_names a_o_sort a_o_trayMany a_o_trays a_o_tape a_o_text a_o_opened a_o_farBy a_o_attendsBy a_o_coveredBy a_o_cameBy a_o_cameThen a_o_fallsBy a_o_loops a_o_ran a_o_told1 o_status o_top o_bottom o_taped o_size o_token o_from o_end o_value o_faultKind o_faultPlace o_faults o_seen o_toldParts o_depth o_counted o_becameThen o_firstCorner o_drawn o_ranSteps o_isTold o_marks) (wd_X12_draw E a_o a_o_at a_o_names a_o_sort a_o_trayMany a_o_trays a_o_tape a_o_text a_o_opened a_o_farBy a_o_attendsBy a_o_coveredBy a_o_cameBy a_o_cameThen a_o_fallsBy a_o_loops a_o_ran a_o_told1 o_status o_top o_bottom o_taped o_size o_token o_from o_end o_value o_faultKind o_faultPlace o_faults o_seen o_toldParts o_depth o_counted o_becameThen o_firstCorner u.2 o_ranSteps o_isTold o_marks) u.1 := by
  refine ctI (by decide) (Nat.le_of_ble_eq_true rfl) ?_
  intro p e s m below meth cd A ls aa QQ hq cx hP hD hS hl
  obtain ⟨⟨hx, hb, hml, hown, hts⟩, hr, hlocks, hK, hA, hX⟩ := id cx
  have hl : lv_has ls 2 [(0, .ref a_o), (1, .int v1)] := hl
  unfold X12_draw at hf
  refine lv_aload_n hx hb dX12_draw_0 rfl (lv_at hl 0 rfl) ?_
  refine lv_aload_n hx hb dX12_draw_1 rfl (lv_at hl 0 rfl) ?_
  refine va_get (D := E.1) (ci := 12) (v := .int o_drawn) (C := RX12) (T := TX12) (N := 39) hx hb hts inX12 hown hK hP 0 rfl rfl 32 (by decide) (hts _ fl_X12_468) (fun _ h9 => h9) rfl dX12_draw_2 ?_
  refine lv_sipush (v := 3121) hx hb dX12_draw_5 (by decide) ?_
  refine lv_imul hx hb dX12_draw_8 ?_
  refine lv_sipush (v := 11351) hx hb dX12_draw_9 (by decide) ?_
  refine lv_iadd hx hb dX12_draw_12 ?_
  refine lv_ldcw (v := 65536) hx hb hown (hts _ ki_X12_471) dX12_draw_13 ?_
  obtain ⟨hnz, hf⟩ := ck hf
  refine r_irem hx hb dX12_draw_16 hnz ?_
  refine va_put (D := E.1) (ci := 12) (v := .int (jrem ((o_drawn * 3121) + 11351) 65536)) (ty := .int) (C := RX12) (T := TX12) (N := 39) hx hb hts inX12 tyX12 tyX12_ok nmX12 hown hK hP hD hS 0 rfl rfl 32 (by decide) (hts _ fl_X12_468) (fun _ h9 => h9) rfl (by decide +kernel) rfl rfl (Nat.le_of_ble_eq_true rfl) dX12_draw_17 (fun H locs hP hD hS => ?_)
  have hP : va_P E.1 vwCl (wd_X12_draw E a_o a_o_at a_o_names a_o_sort a_o_trayMany a_o_trays a_o_tape a_o_text a_o_opened a_o_farBy a_o_attendsBy a_o_coveredBy a_o_cameBy a_o_cameThen a_o_fallsBy a_o_loops a_o_ran a_o_told1 o_status o_top o_bottom o_taped o_size o_token o_from o_end o_value o_faultKind o_faultPlace o_faults o_seen o_toldParts o_depth o_counted o_becameThen o_firstCorner (jrem ((o_drawn * 3121) + 11351) 65536) o_ranSteps o_isTold o_marks) H := hP
  have hD : va_D A (wd_X12_draw E a_o a_o_at a_o_names a_o_sort a_o_trayMany a_o_trays a_o_tape a_o_text a_o_opened a_o_farBy a_o_attendsBy a_o_coveredBy a_o_cameBy a_o_cameThen a_o_fallsBy a_o_loops a_o_ran a_o_told1 o_status o_top o_bottom o_taped o_size o_token o_from o_end o_value o_faultKind o_faultPlace o_faults o_seen o_toldParts o_depth o_counted o_becameThen o_firstCorner (jrem ((o_drawn * 3121) + 11351) 65536) o_ranSteps o_isTold o_marks) := hD
  refine lv_aload_n hx hb dX12_draw_20 rfl (lv_at hl 0 rfl) ?_
  refine va_get (D := E.1) (ci := 12) (v := .int (jrem ((o_drawn * 3121) + 11351) 65536)) (C := RX12) (T := TX12) (N := 39) hx hb hts inX12 hown hK hP 0 rfl rfl 32 (by decide) (hts _ fl_X12_468) (fun _ h9 => h9) rfl dX12_draw_21 ?_
  refine lv_bipush (v := 8) hx hb dX12_draw_24 (by decide) ?_
  obtain ⟨hnz, hf⟩ := ck hf
  refine lv_idiv hx hb dX12_draw_26 hnz ?_
  refine lv_iload_n hx hb dX12_draw_27 rfl (lv_at hl 1 rfl) ?_
  obtain ⟨hnz, hf⟩ := ck hf
  refine r_irem hx hb dX12_draw_28 hnz ?_
  obtain rfl := Option.some.inj hf
  subst hq
  exact retI cx hP hD hS dX12_draw_29
def X12_allWarned_b4 (F : Nat) (o_at : Nat → Int32) (st4 : Int32 × Int32) : Option ((Int32 × Int32) ⊕ ((Int32))) :=
  if ix 4 3097 then
  if (jat o_at 4) ≤ st4.2 then
  some (.inr st4.1)
  else
  (X12_watcherOf o_at st4.2 (2 : Int32)).bind fun u18 =>
  some (.inl ((st4.1 + u18), (st4.2 + 1)))
  else none
def X12_allWarned (F : Nat) (o_at : Nat → Int32) : Option (Int32) :=
  (iter (X12_allWarned_b4 F o_at) F (0, 0)).bind (fun (e4 : Int32) =>
    some e4)
abbrev wd_X12_allWarned (E : vE) (a_o a_o_at a_o_names a_o_sort a_o_trayMany a_o_trays a_o_tape a_o_text a_o_opened a_o_farBy a_o_attendsBy a_o_coveredBy a_o_cameBy a_o_cameThen a_o_fallsBy a_o_loops a_o_ran a_o_told1 : Nat) (o_status : Int32) (o_top : Int64) (o_bottom : Int64) (o_taped : Int32) (o_size : Int32) (o_token : Int32) (o_from : Int32) (o_end : Int32) (o_value : Int32) (o_faultKind : Int32) (o_faultPlace : Int32) (o_faults : Int32) (o_seen : Int32) (o_toldParts : Int32) (o_depth : Int32) (o_counted : Int32) (o_becameThen : Int32) (o_firstCorner : Int32) (o_drawn : Int32) (o_ranSteps : Int32) (o_isTold : Int32) (o_marks : Int32) (o_at : Nat → Int32) : va_W := [(a_o, .inr (12, [.ref a_o_at, .ref a_o_names, .int o_status, .long o_top, .long o_bottom, .ref a_o_sort, .ref a_o_trayMany, .ref a_o_trays, .ref a_o_tape, .ref a_o_text, .int o_taped, .int o_size, .int o_token, .int o_from, .int o_end, .int o_value, .int o_faultKind, .int o_faultPlace, .int o_faults, .int o_seen, .int o_toldParts, .ref a_o_opened, .int o_depth, .int o_counted, .ref a_o_farBy, .int o_becameThen, .ref a_o_attendsBy, .ref a_o_coveredBy, .ref a_o_cameBy, .ref a_o_cameThen, .int o_firstCorner, .ref a_o_fallsBy, .int o_drawn, .int o_ranSteps, .ref a_o_loops, .ref a_o_ran, .ref a_o_told1, .int o_isTold, .int o_marks])), (a_o_at, .inl (E.2.1, 3097, .inl o_at))]
set_option maxHeartbeats 4000000 in
set_option maxRecDepth 100000 in
theorem ct_X12_allWarned (l : Launch) (E : vE) (F : Nat) (a_o a_o_at a_o_names a_o_sort a_o_trayMany a_o_trays a_o_tape a_o_text a_o_opened a_o_farBy a_o_attendsBy a_o_coveredBy a_o_cameBy a_o_cameThen a_o_fallsBy a_o_loops a_o_ran a_o_told1 : Nat) (o_status : Int32) (o_top : Int64) (o_bottom : Int64) (o_taped : Int32) (o_size : Int32) (o_token : Int32) (o_from : Int32) (o_end : Int32) (o_value : Int32) (o_faultKind : Int32) (o_faultPlace : Int32) (o_faults : Int32) (o_seen : Int32) (o_toldParts : Int32) (o_depth : Int32) (o_counted : Int32) (o_becameThen : Int32) (o_firstCorner : Int32) (o_drawn : Int32) (o_ranSteps : Int32) (o_isTold : Int32) (o_marks : Int32) (o_at : Nat → Int32) (u : Int32) (hf : X12_allWarned F o_at = some u) :
    CtI l yX12_allWarned cX12_allWarned 3 (some .int) 2 E [.ref a_o] (wd_X12_allWarned E a_o a_o_at a_o_names a_o_sort a_o_trayMany a_o_trays a_o_tape a_o_text a_o_opened a_o_farBy a_o_attendsBy a_o_coveredBy a_o_cameBy a_o_cameThen a_o_fallsBy a_o_loops a_o_ran a_o_told1 o_status o_top o_bottom o_taped o_size o_token o_from o_end o_value o_faultKind o_faultPlace o_faults o_seen o_toldParts o_depth o_counted o_becameThen o_firstCorner o_drawn o_ranSteps o_isTold o_marks o_at) (wd_X12_allWarned E a_o a_o_at a_o_names a_o_sort a_o_trayMany a_o_trays a_o_tape a_o_text a_o_opened a_o_farBy a_o_attendsBy a_o_coveredBy a_o_cameBy a_o_cameThen a_o_fallsBy a_o_loops a_o_ran a_o_told1 o_status o_top o_bottom o_taped o_size o_token o_from o_end o_value o_faultKind o_faultPlace o_faults o_seen o_toldParts o_depth o_counted o_becameThen o_firstCorner o_drawn o_ranSteps o_isTold o_marks o_at) u := by
  refine ctI (by decide) (Nat.le_of_ble_eq_true rfl) ?_
  intro p e s m below meth cd A ls aa QQ hq cx hP hD hS hl
  obtain ⟨⟨hx, hb, hml, hown, hts⟩, hr, hlocks, hK, hA, hX⟩ := id cx
  have hl : lv_has ls 3 [(0, .ref a_o)] := hl
  unfold X12_allWarned at hf
  refine lv_iconst (v := 0) hx hb dX12_allWarned_0 (by decide) ?_
  refine lv_istore_n (lv' := [(1, .int 0), (0, .ref a_o)]) hx hb dX12_allWarned_1 rfl hl (by decide) rfl (fun ls hl => ?_)
  refine lv_iconst (v := 0) hx hb dX12_allWarned_2 (by decide) ?_
  refine lv_istore_n (lv' := [(2, .int 0), (1, .int 0), (0, .ref a_o)]) hx hb dX12_allWarned_3 rfl hl (by decide) rfl (fun ls hl => ?_)
  obtain ⟨e4, hit4, hf⟩ := bd hf
  refine iter_W (b := X12_allWarned_b4 F o_at) (P := fun st4 => ∀ (H : Heap) (locs : List Loc) (ls : Array Slot), va_P E.1 vwCl (wd_X12_allWarned E a_o a_o_at a_o_names a_o_sort a_o_trayMany a_o_trays a_o_tape a_o_text a_o_opened a_o_farBy a_o_attendsBy a_o_coveredBy a_o_cameBy a_o_cameThen a_o_fallsBy a_o_loops a_o_ran a_o_told1 o_status o_top o_bottom o_taped o_size o_token o_from o_end o_value o_faultKind o_faultPlace o_faults o_seen o_toldParts o_depth o_counted o_becameThen o_firstCorner o_drawn o_ranSteps o_isTold o_marks o_at) H → va_D A (wd_X12_allWarned E a_o a_o_at a_o_names a_o_sort a_o_trayMany a_o_trays a_o_tape a_o_text a_o_opened a_o_farBy a_o_attendsBy a_o_coveredBy a_o_cameBy a_o_cameThen a_o_fallsBy a_o_loops a_o_ran a_o_told1 o_status o_top o_bottom o_taped o_size o_token o_from o_end o_value o_faultKind o_faultPlace o_faults o_seen o_toldParts o_depth o_counted o_becameThen o_firstCorner o_drawn o_ranSteps o_isTold o_marks o_at) → va_S A s.heap H locs → lv_has ls 3 [(0, .ref a_o), (1, .int st4.1), (2, .int st4.2)] → W p l e (rmd 2) s m aa below meth cd H locs 0 0 QQ (F0 m 4 ls [])) (G := (fun (e4 : Int32) => ∀ (H : Heap) (locs : List Loc) (ls : Array Slot), va_P E.1 vwCl (wd_X12_allWarned E a_o a_o_at a_o_names a_o_sort a_o_trayMany a_o_trays a_o_tape a_o_text a_o_opened a_o_farBy a_o_attendsBy a_o_coveredBy a_o_cameBy a_o_cameThen a_o_fallsBy a_o_loops a_o_ran a_o_told1 o_status o_top o_bottom o_taped o_size o_token o_from o_end o_value o_faultKind o_faultPlace o_faults o_seen o_toldParts o_depth o_counted o_becameThen o_firstCorner o_drawn o_ranSteps o_isTold o_marks o_at) H → va_D A (wd_X12_allWarned E a_o a_o_at a_o_names a_o_sort a_o_trayMany a_o_trays a_o_tape a_o_text a_o_opened a_o_farBy a_o_attendsBy a_o_coveredBy a_o_cameBy a_o_cameThen a_o_fallsBy a_o_loops a_o_ran a_o_told1 o_status o_top o_bottom o_taped o_size o_token o_from o_end o_value o_faultKind o_faultPlace o_faults o_seen o_toldParts o_depth o_counted o_becameThen o_firstCorner o_drawn o_ranSteps o_isTold o_marks o_at) → va_S A s.heap H locs → lv_has ls 3 [(1, .int e4)] → W p l e (rmd 2) s m aa below meth cd H locs 0 0 QQ (F0 m 29 ls []))) ?_ F (0, 0) e4 hit4 ?_ _ _ _ hP hD hS (lv_sub hl [2, 1, 0] rfl)
  · intro st4 r4 hf hk4 he4 H locs ls hP hD hS hl
    unfold X12_allWarned_b4 at hf
    refine lv_iload_n hx hb dX12_allWarned_4 rfl (lv_at hl 2 rfl) ?_
    refine lv_aload_n hx hb dX12_allWarned_5 rfl (lv_at hl 0 rfl) ?_
    refine va_get (D := E.1) (ci := 12) (v := .ref a_o_at) (C := RX12) (T := TX12) (N := 39) hx hb hts inX12 hown hK hP 0 rfl rfl 0 (by decide) (hts _ fl_X12_7) (fun _ h9 => h9) rfl dX12_allWarned_6 ?_
    refine lv_iconst (v := 4) hx hb dX12_allWarned_9 (by decide) ?_
    obtain ⟨hi, hf⟩ := ck hf
    refine r_iald 1 cx hP rfl hi dX12_allWarned_10 ?_
    refine lv_icmp_ge (tgt := 29) hx hb dX12_allWarned_11 (by decide) (fun hc => ?_) (fun hc => ?_)
    · have hf := it_t hc hf
      exact he4 _ (Option.some.inj hf).symm _ _ _ hP hD hS (lv_sub hl [1] rfl)
    · have hf := it_f hc hf
      refine lv_iload_n hx hb dX12_allWarned_14 rfl (lv_at hl 1 rfl) ?_
      refine lv_aload_n hx hb dX12_allWarned_15 rfl (lv_at hl 0 rfl) ?_
      refine lv_iload_n hx hb dX12_allWarned_16 rfl (lv_at hl 2 rfl) ?_
      refine lv_iconst (v := 2) hx hb dX12_allWarned_17 (by decide) ?_
      obtain ⟨u18, hu18, hf⟩ := bd hf
      refine keepVI (ct_X12_watcherOf l E a_o a_o_at a_o_names a_o_sort a_o_trayMany a_o_trays a_o_tape a_o_text a_o_opened a_o_farBy a_o_attendsBy a_o_coveredBy a_o_cameBy a_o_cameThen a_o_fallsBy a_o_loops a_o_ran a_o_told1 o_status o_top o_bottom o_taped o_size o_token o_from o_end o_value o_faultKind o_faultPlace o_faults o_seen o_toldParts o_depth o_counted o_becameThen o_firstCorner o_drawn o_ranSteps o_isTold o_marks o_at st4.2 (2 : Int32) u18 hu18) [0, 1] cal_X12_watcherOf cav_X12_watcherOf lk_X12_308 cx hP hD hS hl dX12_allWarned_18 rfl rfl rfl rfl (Nat.le_of_ble_eq_true rfl) ⟨Nat.le_of_ble_eq_true rfl, Nat.le_of_ble_eq_true rfl⟩ rfl (by decide) (fun H locs hP hS => ?_)
      refine lv_iadd hx hb dX12_allWarned_21 ?_
      refine lv_istore_n (lv' := [(1, .int (st4.1 + u18)), (0, .ref a_o), (2, .int st4.2)]) hx hb dX12_allWarned_22 rfl hl (by decide) rfl (fun ls hl => ?_)
      refine lv_iinc (v := (st4.2 + 1)) (lv' := [(2, .int (st4.2 + 1)), (1, .int (st4.1 + u18)), (0, .ref a_o)]) hx hb dX12_allWarned_23 hl (k := 2) rfl rfl (by decide) rfl (fun ls hl => ?_)
      refine lv_goto (tgt := 4) hx hb dX12_allWarned_26 (by decide) ?_
      exact hk4 _ (Option.some.inj hf).symm _ _ _ hP hD hS (lv_sub hl [2, 1, 0] rfl)
  · refine fun H locs ls hP hD hS hl => ?_
    refine lv_iload_n hx hb dX12_allWarned_29 rfl (lv_at hl 0 rfl) ?_
    obtain rfl := Option.some.inj hf
    subst hq
    exact retI cx hP hD hS dX12_allWarned_30
def X12_hoursBy (F : Nat) (o_at : Nat → Int32) (o_farBy : Nat → Int32) (o_ran : Nat → Int32) (v1 : Int32) : Option (Int32 × (Nat → Int32) × (Nat → Int32) × (Nat → Int32)) :=
  if ix 8 3097 then
  if ((jat o_at 8) + v1) ≤ 9999 then
  (X12_allWarned F o_at).bind fun u18 =>
  if ix 2 5 then
  (X12_hoursGo F o_at o_farBy v1).bind fun u31 =>
  if ix 2 5 then
  if ix 1 5 then
  if ix 1 5 then
  if ix 3 5 then
  (X12_allWarned F u31.2.1).bind fun u54 =>
  if ix 3 5 then
  some (1, u31.2.1, u31.2.2, (jput (jput (jput o_ran 2 ((jat o_ran 2) + u31.1)) 1 ((jat (jput o_ran 2 ((jat o_ran 2) + u31.1)) 1) + v1)) 3 ((jat (jput (jput o_ran 2 ((jat o_ran 2) + u31.1)) 1 ((jat (jput o_ran 2 ((jat o_ran 2) + u31.1)) 1) + v1)) 3) + (u54 - u18))))
  else none
  else none
  else none
  else none
  else none
  else none
  else
  some (0, o_at, o_farBy, o_ran)
  else none
abbrev wd_X12_hoursBy (E : vE) (a_o a_o_at a_o_names a_o_sort a_o_trayMany a_o_trays a_o_tape a_o_text a_o_opened a_o_farBy a_o_attendsBy a_o_coveredBy a_o_cameBy a_o_cameThen a_o_fallsBy a_o_loops a_o_ran a_o_told1 : Nat) (o_status : Int32) (o_top : Int64) (o_bottom : Int64) (o_taped : Int32) (o_size : Int32) (o_token : Int32) (o_from : Int32) (o_end : Int32) (o_value : Int32) (o_faultKind : Int32) (o_faultPlace : Int32) (o_faults : Int32) (o_seen : Int32) (o_toldParts : Int32) (o_depth : Int32) (o_counted : Int32) (o_becameThen : Int32) (o_firstCorner : Int32) (o_drawn : Int32) (o_ranSteps : Int32) (o_isTold : Int32) (o_marks : Int32) (o_at : Nat → Int32) (o_farBy : Nat → Int32) (o_ran : Nat → Int32) : va_W := [(a_o, .inr (12, [.ref a_o_at, .ref a_o_names, .int o_status, .long o_top, .long o_bottom, .ref a_o_sort, .ref a_o_trayMany, .ref a_o_trays, .ref a_o_tape, .ref a_o_text, .int o_taped, .int o_size, .int o_token, .int o_from, .int o_end, .int o_value, .int o_faultKind, .int o_faultPlace, .int o_faults, .int o_seen, .int o_toldParts, .ref a_o_opened, .int o_depth, .int o_counted, .ref a_o_farBy, .int o_becameThen, .ref a_o_attendsBy, .ref a_o_coveredBy, .ref a_o_cameBy, .ref a_o_cameThen, .int o_firstCorner, .ref a_o_fallsBy, .int o_drawn, .int o_ranSteps, .ref a_o_loops, .ref a_o_ran, .ref a_o_told1, .int o_isTold, .int o_marks])), (a_o_at, .inl (E.2.1, 3097, .inl o_at)), (a_o_farBy, .inl (E.2.1, 64, .inl o_farBy)), (a_o_ran, .inl (E.2.1, 5, .inl o_ran))]
set_option maxHeartbeats 4000000 in
set_option maxRecDepth 100000 in
theorem ct_X12_hoursBy (l : Launch) (E : vE) (F : Nat) (a_o a_o_at a_o_names a_o_sort a_o_trayMany a_o_trays a_o_tape a_o_text a_o_opened a_o_farBy a_o_attendsBy a_o_coveredBy a_o_cameBy a_o_cameThen a_o_fallsBy a_o_loops a_o_ran a_o_told1 : Nat) (o_status : Int32) (o_top : Int64) (o_bottom : Int64) (o_taped : Int32) (o_size : Int32) (o_token : Int32) (o_from : Int32) (o_end : Int32) (o_value : Int32) (o_faultKind : Int32) (o_faultPlace : Int32) (o_faults : Int32) (o_seen : Int32) (o_toldParts : Int32) (o_depth : Int32) (o_counted : Int32) (o_becameThen : Int32) (o_firstCorner : Int32) (o_drawn : Int32) (o_ranSteps : Int32) (o_isTold : Int32) (o_marks : Int32) (o_at : Nat → Int32) (o_farBy : Nat → Int32) (o_ran : Nat → Int32) (v1 : Int32) (u : Int32 × (Nat → Int32) × (Nat → Int32) × (Nat → Int32)) (hf : X12_hoursBy F o_at o_farBy o_ran v1 = some u) :
    CtI l yX12_hoursBy cX12_hoursBy 3 (some .boolean) 8 E [.ref a_o, .int v1] (wd_X12_hoursBy E a_o a_o_at a_o_names a_o_sort a_o_trayMany a_o_trays a_o_tape a_o_text a_o_opened a_o_farBy a_o_attendsBy a_o_coveredBy a_o_cameBy a_o_cameThen a_o_fallsBy a_o_loops a_o_ran a_o_told1 o_status o_top o_bottom o_taped o_size o_token o_from o_end o_value o_faultKind o_faultPlace o_faults o_seen o_toldParts o_depth o_counted o_becameThen o_firstCorner o_drawn o_ranSteps o_isTold o_marks o_at o_farBy o_ran) (wd_X12_hoursBy E a_o a_o_at a_o_names a_o_sort a_o_trayMany a_o_trays a_o_tape a_o_text a_o_opened a_o_farBy a_o_attendsBy a_o_coveredBy a_o_cameBy a_o_cameThen a_o_fallsBy a_o_loops a_o_ran a_o_told1 o_status o_top o_bottom o_taped o_size o_token o_from o_end o_value o_faultKind o_faultPlace o_faults o_seen o_toldParts o_depth o_counted o_becameThen o_firstCorner o_drawn o_ranSteps o_isTold o_marks u.2.1 u.2.2.1 u.2.2.2) u.1 := by
  refine ctI (by decide) (Nat.le_of_ble_eq_true rfl) ?_
  intro p e s m below meth cd A ls aa QQ hq cx hP hD hS hl
  obtain ⟨⟨hx, hb, hml, hown, hts⟩, hr, hlocks, hK, hA, hX⟩ := id cx
  have hl : lv_has ls 3 [(0, .ref a_o), (1, .int v1)] := hl
  unfold X12_hoursBy at hf
  refine lv_aload_n hx hb dX12_hoursBy_0 rfl (lv_at hl 0 rfl) ?_
  refine va_get (D := E.1) (ci := 12) (v := .ref a_o_at) (C := RX12) (T := TX12) (N := 39) hx hb hts inX12 hown hK hP 0 rfl rfl 0 (by decide) (hts _ fl_X12_7) (fun _ h9 => h9) rfl dX12_hoursBy_1 ?_
  refine lv_bipush (v := 8) hx hb dX12_hoursBy_4 (by decide) ?_
  obtain ⟨hi, hf⟩ := ck hf
  refine r_iald 1 cx hP rfl hi dX12_hoursBy_6 ?_
  refine lv_iload_n hx hb dX12_hoursBy_7 rfl (lv_at hl 1 rfl) ?_
  refine lv_iadd hx hb dX12_hoursBy_8 ?_
  refine lv_sipush (v := 9999) hx hb dX12_hoursBy_9 (by decide) ?_
  refine lv_icmp_le (tgt := 17) hx hb dX12_hoursBy_12 (by decide) (fun hc => ?_) (fun hc => ?_)
  · have hf := it_t hc hf
    refine lv_aload_n hx hb dX12_hoursBy_17 rfl (lv_at hl 0 rfl) ?_
    obtain ⟨u18, hu18, hf⟩ := bd hf
    refine keepVI (ct_X12_allWarned l E F a_o a_o_at a_o_names a_o_sort a_o_trayMany a_o_trays a_o_tape a_o_text a_o_opened a_o_farBy a_o_attendsBy a_o_coveredBy a_o_cameBy a_o_cameThen a_o_fallsBy a_o_loops a_o_ran a_o_told1 o_status o_top o_bottom o_taped o_size o_token o_from o_end o_value o_faultKind o_faultPlace o_faults o_seen o_toldParts o_depth o_counted o_becameThen o_firstCorner o_drawn o_ranSteps o_isTold o_marks o_at u18 hu18) [0, 1] cal_X12_allWarned cav_X12_allWarned lk_X12_472 cx hP hD hS hl dX12_hoursBy_18 rfl rfl rfl rfl (Nat.le_of_ble_eq_true rfl) ⟨Nat.le_of_ble_eq_true rfl, Nat.le_of_ble_eq_true rfl⟩ rfl (by decide) (fun H locs hP hS => ?_)
    refine lv_istore_n (lv' := [(2, .int u18), (0, .ref a_o), (1, .int v1)]) hx hb dX12_hoursBy_21 rfl hl (by decide) rfl (fun ls hl => ?_)
    refine lv_aload_n hx hb dX12_hoursBy_22 rfl (lv_at hl 1 rfl) ?_
    refine va_get (D := E.1) (ci := 12) (v := .ref a_o_ran) (C := RX12) (T := TX12) (N := 39) hx hb hts inX12 hown hK hP 0 rfl rfl 35 (by decide) (hts _ fl_X12_69) (fun _ h9 => h9) rfl dX12_hoursBy_23 ?_
    refine lv_iconst (v := 2) hx hb dX12_hoursBy_26 (by decide) ?_
    refine lv_dup2_11 hx hb dX12_hoursBy_27 rfl rfl ?_
    obtain ⟨hi, hf⟩ := ck hf
    refine r_iald 3 cx hP rfl hi dX12_hoursBy_28 ?_
    refine lv_aload_n hx hb dX12_hoursBy_29 rfl (lv_at hl 1 rfl) ?_
    refine lv_iload_n hx hb dX12_hoursBy_30 rfl (lv_at hl 2 rfl) ?_
    obtain ⟨u31, hu31, hf⟩ := bd hf
    refine callVI (wn := (wd_X12_hoursBy E a_o a_o_at a_o_names a_o_sort a_o_trayMany a_o_trays a_o_tape a_o_text a_o_opened a_o_farBy a_o_attendsBy a_o_coveredBy a_o_cameBy a_o_cameThen a_o_fallsBy a_o_loops a_o_ran a_o_told1 o_status o_top o_bottom o_taped o_size o_token o_from o_end o_value o_faultKind o_faultPlace o_faults o_seen o_toldParts o_depth o_counted o_becameThen o_firstCorner o_drawn o_ranSteps o_isTold o_marks u31.2.1 u31.2.2 o_ran)) (n1 := 4) (ct_X12_hoursGo l E F a_o a_o_at a_o_names a_o_sort a_o_trayMany a_o_trays a_o_tape a_o_text a_o_opened a_o_farBy a_o_attendsBy a_o_coveredBy a_o_cameBy a_o_cameThen a_o_fallsBy a_o_loops a_o_ran a_o_told1 o_status o_top o_bottom o_taped o_size o_token o_from o_end o_value o_faultKind o_faultPlace o_faults o_seen o_toldParts o_depth o_counted o_becameThen o_firstCorner o_drawn o_ranSteps o_isTold o_marks o_at o_farBy v1 u31 hu31) [0, 1, 2] cal_X12_hoursGo cav_X12_hoursGo lk_X12_363 cx hP hD hS hl dX12_hoursBy_31 rfl rfl rfl rfl (Nat.le_of_ble_eq_true rfl) ⟨Nat.le_of_ble_eq_true rfl, Nat.le_of_ble_eq_true rfl⟩ rfl (by decide +kernel) rfl [some 0, some 1, some 2, none] rfl (by decide +kernel) rfl (fun H locs hP hD hS => ?_)
    refine lv_iadd hx hb dX12_hoursBy_34 ?_
    obtain ⟨hi, hf⟩ := ck hf
    refine r_iast 3 cx hP hD hS rfl hi dX12_hoursBy_35 (fun H locs hP hD hS => ?_)
    have hP : va_P E.1 vwCl (wd_X12_hoursBy E a_o a_o_at a_o_names a_o_sort a_o_trayMany a_o_trays a_o_tape a_o_text a_o_opened a_o_farBy a_o_attendsBy a_o_coveredBy a_o_cameBy a_o_cameThen a_o_fallsBy a_o_loops a_o_ran a_o_told1 o_status o_top o_bottom o_taped o_size o_token o_from o_end o_value o_faultKind o_faultPlace o_faults o_seen o_toldParts o_depth o_counted o_becameThen o_firstCorner o_drawn o_ranSteps o_isTold o_marks u31.2.1 u31.2.2 (jput o_ran 2 ((jat o_ran 2) + u31.1))) H := hP
    have hD : va_D A (wd_X12_hoursBy E a_o a_o_at a_o_names a_o_sort a_o_trayMany a_o_trays a_o_tape a_o_text a_o_opened a_o_farBy a_o_attendsBy a_o_coveredBy a_o_cameBy a_o_cameThen a_o_fallsBy a_o_loops a_o_ran a_o_told1 o_status o_top o_bottom o_taped o_size o_token o_from o_end o_value o_faultKind o_faultPlace o_faults o_seen o_toldParts o_depth o_counted o_becameThen o_firstCorner o_drawn o_ranSteps o_isTold o_marks u31.2.1 u31.2.2 (jput o_ran 2 ((jat o_ran 2) + u31.1))) := hD
    refine lv_aload_n hx hb dX12_hoursBy_36 rfl (lv_at hl 1 rfl) ?_
    refine va_get (D := E.1) (ci := 12) (v := .ref a_o_ran) (C := RX12) (T := TX12) (N := 39) hx hb hts inX12 hown hK hP 0 rfl rfl 35 (by decide) (hts _ fl_X12_69) (fun _ h9 => h9) rfl dX12_hoursBy_37 ?_
    refine lv_iconst (v := 1) hx hb dX12_hoursBy_40 (by decide) ?_
    refine lv_dup2_11 hx hb dX12_hoursBy_41 rfl rfl ?_
    obtain ⟨hi, hf⟩ := ck hf
    refine r_iald 3 cx hP rfl hi dX12_hoursBy_42 ?_
    refine lv_iload_n hx hb dX12_hoursBy_43 rfl (lv_at hl 2 rfl) ?_
    refine lv_iadd hx hb dX12_hoursBy_44 ?_
    obtain ⟨hi, hf⟩ := ck hf
    refine r_iast 3 cx hP hD hS rfl hi dX12_hoursBy_45 (fun H locs hP hD hS => ?_)
    have hP : va_P E.1 vwCl (wd_X12_hoursBy E a_o a_o_at a_o_names a_o_sort a_o_trayMany a_o_trays a_o_tape a_o_text a_o_opened a_o_farBy a_o_attendsBy a_o_coveredBy a_o_cameBy a_o_cameThen a_o_fallsBy a_o_loops a_o_ran a_o_told1 o_status o_top o_bottom o_taped o_size o_token o_from o_end o_value o_faultKind o_faultPlace o_faults o_seen o_toldParts o_depth o_counted o_becameThen o_firstCorner o_drawn o_ranSteps o_isTold o_marks u31.2.1 u31.2.2 (jput (jput o_ran 2 ((jat o_ran 2) + u31.1)) 1 ((jat (jput o_ran 2 ((jat o_ran 2) + u31.1)) 1) + v1))) H := hP
    have hD : va_D A (wd_X12_hoursBy E a_o a_o_at a_o_names a_o_sort a_o_trayMany a_o_trays a_o_tape a_o_text a_o_opened a_o_farBy a_o_attendsBy a_o_coveredBy a_o_cameBy a_o_cameThen a_o_fallsBy a_o_loops a_o_ran a_o_told1 o_status o_top o_bottom o_taped o_size o_token o_from o_end o_value o_faultKind o_faultPlace o_faults o_seen o_toldParts o_depth o_counted o_becameThen o_firstCorner o_drawn o_ranSteps o_isTold o_marks u31.2.1 u31.2.2 (jput (jput o_ran 2 ((jat o_ran 2) + u31.1)) 1 ((jat (jput o_ran 2 ((jat o_ran 2) + u31.1)) 1) + v1))) := hD
    refine lv_aload_n hx hb dX12_hoursBy_46 rfl (lv_at hl 1 rfl) ?_
    refine va_get (D := E.1) (ci := 12) (v := .ref a_o_ran) (C := RX12) (T := TX12) (N := 39) hx hb hts inX12 hown hK hP 0 rfl rfl 35 (by decide) (hts _ fl_X12_69) (fun _ h9 => h9) rfl dX12_hoursBy_47 ?_
    refine lv_iconst (v := 3) hx hb dX12_hoursBy_50 (by decide) ?_
    refine lv_dup2_11 hx hb dX12_hoursBy_51 rfl rfl ?_
    obtain ⟨hi, hf⟩ := ck hf
    refine r_iald 3 cx hP rfl hi dX12_hoursBy_52 ?_
    refine lv_aload_n hx hb dX12_hoursBy_53 rfl (lv_at hl 1 rfl) ?_
    obtain ⟨u54, hu54, hf⟩ := bd hf
    refine keepVI (ct_X12_allWarned l E F a_o a_o_at a_o_names a_o_sort a_o_trayMany a_o_trays a_o_tape a_o_text a_o_opened a_o_farBy a_o_attendsBy a_o_coveredBy a_o_cameBy a_o_cameThen a_o_fallsBy a_o_loops a_o_ran a_o_told1 o_status o_top o_bottom o_taped o_size o_token o_from o_end o_value o_faultKind o_faultPlace o_faults o_seen o_toldParts o_depth o_counted o_becameThen o_firstCorner o_drawn o_ranSteps o_isTold o_marks u31.2.1 u54 hu54) [0, 1] cal_X12_allWarned cav_X12_allWarned lk_X12_472 cx hP hD hS hl dX12_hoursBy_54 rfl rfl rfl rfl (Nat.le_of_ble_eq_true rfl) ⟨Nat.le_of_ble_eq_true rfl, Nat.le_of_ble_eq_true rfl⟩ rfl (by decide) (fun H locs hP hS => ?_)
    refine lv_iload_n hx hb dX12_hoursBy_57 rfl (lv_at hl 0 rfl) ?_
    refine lv_isub hx hb dX12_hoursBy_58 ?_
    refine lv_iadd hx hb dX12_hoursBy_59 ?_
    obtain ⟨hi, hf⟩ := ck hf
    refine r_iast 3 cx hP hD hS rfl hi dX12_hoursBy_60 (fun H locs hP hD hS => ?_)
    have hP : va_P E.1 vwCl (wd_X12_hoursBy E a_o a_o_at a_o_names a_o_sort a_o_trayMany a_o_trays a_o_tape a_o_text a_o_opened a_o_farBy a_o_attendsBy a_o_coveredBy a_o_cameBy a_o_cameThen a_o_fallsBy a_o_loops a_o_ran a_o_told1 o_status o_top o_bottom o_taped o_size o_token o_from o_end o_value o_faultKind o_faultPlace o_faults o_seen o_toldParts o_depth o_counted o_becameThen o_firstCorner o_drawn o_ranSteps o_isTold o_marks u31.2.1 u31.2.2 (jput (jput (jput o_ran 2 ((jat o_ran 2) + u31.1)) 1 ((jat (jput o_ran 2 ((jat o_ran 2) + u31.1)) 1) + v1)) 3 ((jat (jput (jput o_ran 2 ((jat o_ran 2) + u31.1)) 1 ((jat (jput o_ran 2 ((jat o_ran 2) + u31.1)) 1) + v1)) 3) + (u54 - u18)))) H := hP
    have hD : va_D A (wd_X12_hoursBy E a_o a_o_at a_o_names a_o_sort a_o_trayMany a_o_trays a_o_tape a_o_text a_o_opened a_o_farBy a_o_attendsBy a_o_coveredBy a_o_cameBy a_o_cameThen a_o_fallsBy a_o_loops a_o_ran a_o_told1 o_status o_top o_bottom o_taped o_size o_token o_from o_end o_value o_faultKind o_faultPlace o_faults o_seen o_toldParts o_depth o_counted o_becameThen o_firstCorner o_drawn o_ranSteps o_isTold o_marks u31.2.1 u31.2.2 (jput (jput (jput o_ran 2 ((jat o_ran 2) + u31.1)) 1 ((jat (jput o_ran 2 ((jat o_ran 2) + u31.1)) 1) + v1)) 3 ((jat (jput (jput o_ran 2 ((jat o_ran 2) + u31.1)) 1 ((jat (jput o_ran 2 ((jat o_ran 2) + u31.1)) 1) + v1)) 3) + (u54 - u18)))) := hD
    refine lv_iconst (v := 1) hx hb dX12_hoursBy_61 (by decide) ?_
    obtain rfl := Option.some.inj hf
    subst hq
    exact retZ cx rfl hP hD hS dX12_hoursBy_62
  · have hf := it_f hc hf
    refine lv_iconst (v := 0) hx hb dX12_hoursBy_15 (by decide) ?_
    obtain rfl := Option.some.inj hf
    subst hq
    exact retZ cx rfl hP hD hS dX12_hoursBy_16
def X12_ordersBy (o_at : Nat → Int32) (v1 : Int32) (v2 : Int32) : Option (Int32 × (Nat → Int32)) :=
  (X12_extraRow v1).bind fun u5 =>
  if ix (u5 + 2) 3097 then
  if ix (u5 + 2) 3097 then
  some (1, (jput o_at (u5 + 2) ((jat o_at (u5 + 2)) ^^^ (jshl 1 v2))))
  else none
  else none
abbrev wd_X12_ordersBy (E : vE) (a_o a_o_at a_o_names a_o_sort a_o_trayMany a_o_trays a_o_tape a_o_text a_o_opened a_o_farBy a_o_attendsBy a_o_coveredBy a_o_cameBy a_o_cameThen a_o_fallsBy a_o_loops a_o_ran a_o_told1 : Nat) (o_status : Int32) (o_top : Int64) (o_bottom : Int64) (o_taped : Int32) (o_size : Int32) (o_token : Int32) (o_from : Int32) (o_end : Int32) (o_value : Int32) (o_faultKind : Int32) (o_faultPlace : Int32) (o_faults : Int32) (o_seen : Int32) (o_toldParts : Int32) (o_depth : Int32) (o_counted : Int32) (o_becameThen : Int32) (o_firstCorner : Int32) (o_drawn : Int32) (o_ranSteps : Int32) (o_isTold : Int32) (o_marks : Int32) (o_at : Nat → Int32) : va_W := [(a_o, .inr (12, [.ref a_o_at, .ref a_o_names, .int o_status, .long o_top, .long o_bottom, .ref a_o_sort, .ref a_o_trayMany, .ref a_o_trays, .ref a_o_tape, .ref a_o_text, .int o_taped, .int o_size, .int o_token, .int o_from, .int o_end, .int o_value, .int o_faultKind, .int o_faultPlace, .int o_faults, .int o_seen, .int o_toldParts, .ref a_o_opened, .int o_depth, .int o_counted, .ref a_o_farBy, .int o_becameThen, .ref a_o_attendsBy, .ref a_o_coveredBy, .ref a_o_cameBy, .ref a_o_cameThen, .int o_firstCorner, .ref a_o_fallsBy, .int o_drawn, .int o_ranSteps, .ref a_o_loops, .ref a_o_ran, .ref a_o_told1, .int o_isTold, .int o_marks])), (a_o_at, .inl (E.2.1, 3097, .inl o_at))]
set_option maxHeartbeats 4000000 in
set_option maxRecDepth 100000 in
theorem ct_X12_ordersBy (l : Launch) (E : vE) (a_o a_o_at a_o_names a_o_sort a_o_trayMany a_o_trays a_o_tape a_o_text a_o_opened a_o_farBy a_o_attendsBy a_o_coveredBy a_o_cameBy a_o_cameThen a_o_fallsBy a_o_loops a_o_ran a_o_told1 : Nat) (o_status : Int32) (o_top : Int64) (o_bottom : Int64) (o_taped : Int32) (o_size : Int32) (o_token : Int32) (o_from : Int32) (o_end : Int32) (o_value : Int32) (o_faultKind : Int32) (o_faultPlace : Int32) (o_faults : Int32) (o_seen : Int32) (o_toldParts : Int32) (o_depth : Int32) (o_counted : Int32) (o_becameThen : Int32) (o_firstCorner : Int32) (o_drawn : Int32) (o_ranSteps : Int32) (o_isTold : Int32) (o_marks : Int32) (o_at : Nat → Int32) (v1 : Int32) (v2 : Int32) (u : Int32 × (Nat → Int32)) (hf : X12_ordersBy o_at v1 v2 = some u) :
    CtI l yX12_ordersBy cX12_ordersBy 3 (some .boolean) 1 E [.ref a_o, .int v1, .int v2] (wd_X12_ordersBy E a_o a_o_at a_o_names a_o_sort a_o_trayMany a_o_trays a_o_tape a_o_text a_o_opened a_o_farBy a_o_attendsBy a_o_coveredBy a_o_cameBy a_o_cameThen a_o_fallsBy a_o_loops a_o_ran a_o_told1 o_status o_top o_bottom o_taped o_size o_token o_from o_end o_value o_faultKind o_faultPlace o_faults o_seen o_toldParts o_depth o_counted o_becameThen o_firstCorner o_drawn o_ranSteps o_isTold o_marks o_at) (wd_X12_ordersBy E a_o a_o_at a_o_names a_o_sort a_o_trayMany a_o_trays a_o_tape a_o_text a_o_opened a_o_farBy a_o_attendsBy a_o_coveredBy a_o_cameBy a_o_cameThen a_o_fallsBy a_o_loops a_o_ran a_o_told1 o_status o_top o_bottom o_taped o_size o_token o_from o_end o_value o_faultKind o_faultPlace o_faults o_seen o_toldParts o_depth o_counted o_becameThen o_firstCorner o_drawn o_ranSteps o_isTold o_marks u.2) u.1 := by
  refine ctI (by decide) (Nat.le_of_ble_eq_true rfl) ?_
  intro p e s m below meth cd A ls aa QQ hq cx hP hD hS hl
  obtain ⟨⟨hx, hb, hml, hown, hts⟩, hr, hlocks, hK, hA, hX⟩ := id cx
  have hl : lv_has ls 3 [(0, .ref a_o), (1, .int v1), (2, .int v2)] := hl
  unfold X12_ordersBy at hf
  refine lv_aload_n hx hb dX12_ordersBy_0 rfl (lv_at hl 0 rfl) ?_
  refine va_get (D := E.1) (ci := 12) (v := .ref a_o_at) (C := RX12) (T := TX12) (N := 39) hx hb hts inX12 hown hK hP 0 rfl rfl 0 (by decide) (hts _ fl_X12_7) (fun _ h9 => h9) rfl dX12_ordersBy_1 ?_
  refine lv_iload_n hx hb dX12_ordersBy_4 rfl (lv_at hl 1 rfl) ?_
  obtain ⟨u5, hu5, hf⟩ := bd hf
  refine keepSI (ct_X12_extraRow l E v1 u5 hu5) [] cal_X12_extraRow sta_X12_extraRow lk_X12_211 cx hP hD hS hl dX12_ordersBy_5 rfl rfl (Nat.le_of_ble_eq_true rfl) ⟨Nat.le_of_ble_eq_true rfl, Nat.le_of_ble_eq_true rfl⟩ rfl (by decide) (fun H locs hP hS => ?_)
  refine lv_iconst (v := 2) hx hb dX12_ordersBy_8 (by decide) ?_
  refine lv_iadd hx hb dX12_ordersBy_9 ?_
  refine lv_dup2_11 hx hb dX12_ordersBy_10 rfl rfl ?_
  obtain ⟨hi, hf⟩ := ck hf
  refine r_iald 1 cx hP rfl hi dX12_ordersBy_11 ?_
  refine lv_iconst (v := 1) hx hb dX12_ordersBy_12 (by decide) ?_
  refine lv_iload_n hx hb dX12_ordersBy_13 rfl (lv_at hl 2 rfl) ?_
  refine r_ishl hx hb dX12_ordersBy_14 ?_
  refine lv_ixor hx hb dX12_ordersBy_15 ?_
  obtain ⟨hi, hf⟩ := ck hf
  refine r_iast 1 cx hP hD hS rfl hi dX12_ordersBy_16 (fun H locs hP hD hS => ?_)
  have hP : va_P E.1 vwCl (wd_X12_ordersBy E a_o a_o_at a_o_names a_o_sort a_o_trayMany a_o_trays a_o_tape a_o_text a_o_opened a_o_farBy a_o_attendsBy a_o_coveredBy a_o_cameBy a_o_cameThen a_o_fallsBy a_o_loops a_o_ran a_o_told1 o_status o_top o_bottom o_taped o_size o_token o_from o_end o_value o_faultKind o_faultPlace o_faults o_seen o_toldParts o_depth o_counted o_becameThen o_firstCorner o_drawn o_ranSteps o_isTold o_marks (jput o_at (u5 + 2) ((jat o_at (u5 + 2)) ^^^ (jshl 1 v2)))) H := hP
  have hD : va_D A (wd_X12_ordersBy E a_o a_o_at a_o_names a_o_sort a_o_trayMany a_o_trays a_o_tape a_o_text a_o_opened a_o_farBy a_o_attendsBy a_o_coveredBy a_o_cameBy a_o_cameThen a_o_fallsBy a_o_loops a_o_ran a_o_told1 o_status o_top o_bottom o_taped o_size o_token o_from o_end o_value o_faultKind o_faultPlace o_faults o_seen o_toldParts o_depth o_counted o_becameThen o_firstCorner o_drawn o_ranSteps o_isTold o_marks (jput o_at (u5 + 2) ((jat o_at (u5 + 2)) ^^^ (jshl 1 v2)))) := hD
  refine lv_iconst (v := 1) hx hb dX12_ordersBy_17 (by decide) ?_
  obtain rfl := Option.some.inj hf
  subst hq
  exact retZ cx rfl hP hD hS dX12_ordersBy_18
def X12_fallsAny_j77 (F : Nat) (o_drawn : Int32) (o_at : Nat → Int32) (o_ran : Nat → Int32) (v1 : Int32) (v2 : Int32) : Option ((Int32 × (Nat → Int32) × (Nat → Int32)) ⊕ (((Nat → Int32) × (Nat → Int32)))) :=
  some (.inl ((v2 + 1), o_at, o_ran))
def X12_fallsAny_b34 (F : Nat) (o_drawn : Int32) (v1 : Int32) (st34 : Int32 × (Nat → Int32) × (Nat → Int32)) : Option ((Int32 × (Nat → Int32) × (Nat → Int32)) ⊕ (((Nat → Int32) × (Nat → Int32)))) :=
  if ix 4 3097 then
  if (jat st34.2.1 4) ≤ st34.1 then
  some (.inr (st34.2.1, st34.2.2))
  else
  (X12_watcherOf st34.2.1 st34.1 (0 : Int32)).bind fun u47 =>
  (X12_extraOf st34.2.1 v1 (0 : Int32)).bind fun u53 =>
  if u47 = u53 then
  (X12_warns F st34.2.1 st34.1).bind fun u64 =>
  if ix 3 5 then
  if ix 3 5 then
  X12_fallsAny_j77 F o_drawn u64 (jput st34.2.2 3 ((jat st34.2.2 3) + 1)) v1 st34.1
  else none
  else none
  else
  X12_fallsAny_j77 F o_drawn st34.2.1 st34.2.2 v1 st34.1
  else none
def X12_fallsAny (F : Nat) (o_drawn : Int32) (o_at : Nat → Int32) (o_ran : Nat → Int32) : Option (Int32 × Int32 × (Nat → Int32) × (Nat → Int32)) :=
  if ix 2 3097 then
  if (jat o_at 2) = 0 then
  some (0, o_drawn, o_at, o_ran)
  else
  if ix 2 3097 then
  (X12_draw o_drawn (jat o_at 2)).bind fun u18 =>
  (X12_doesStand o_at u18.1).bind fun u24 =>
  if u24 = 0 then
  some (0, u18.2, o_at, o_ran)
  else
  (iter (X12_fallsAny_b34 F u18.2 u18.1) F (0, o_at, o_ran)).bind (fun (e34 : (Nat → Int32) × (Nat → Int32)) =>
    some (1, u18.2, e34.1, e34.2))
  else none
  else none
abbrev wd_X12_fallsAny (E : vE) (a_o a_o_at a_o_names a_o_sort a_o_trayMany a_o_trays a_o_tape a_o_text a_o_opened a_o_farBy a_o_attendsBy a_o_coveredBy a_o_cameBy a_o_cameThen a_o_fallsBy a_o_loops a_o_ran a_o_told1 : Nat) (o_status : Int32) (o_top : Int64) (o_bottom : Int64) (o_taped : Int32) (o_size : Int32) (o_token : Int32) (o_from : Int32) (o_end : Int32) (o_value : Int32) (o_faultKind : Int32) (o_faultPlace : Int32) (o_faults : Int32) (o_seen : Int32) (o_toldParts : Int32) (o_depth : Int32) (o_counted : Int32) (o_becameThen : Int32) (o_firstCorner : Int32) (o_drawn : Int32) (o_ranSteps : Int32) (o_isTold : Int32) (o_marks : Int32) (o_at : Nat → Int32) (o_ran : Nat → Int32) : va_W := [(a_o, .inr (12, [.ref a_o_at, .ref a_o_names, .int o_status, .long o_top, .long o_bottom, .ref a_o_sort, .ref a_o_trayMany, .ref a_o_trays, .ref a_o_tape, .ref a_o_text, .int o_taped, .int o_size, .int o_token, .int o_from, .int o_end, .int o_value, .int o_faultKind, .int o_faultPlace, .int o_faults, .int o_seen, .int o_toldParts, .ref a_o_opened, .int o_depth, .int o_counted, .ref a_o_farBy, .int o_becameThen, .ref a_o_attendsBy, .ref a_o_coveredBy, .ref a_o_cameBy, .ref a_o_cameThen, .int o_firstCorner, .ref a_o_fallsBy, .int o_drawn, .int o_ranSteps, .ref a_o_loops, .ref a_o_ran, .ref a_o_told1, .int o_isTold, .int o_marks])), (a_o_at, .inl (E.2.1, 3097, .inl o_at)), (a_o_ran, .inl (E.2.1, 5, .inl o_ran))]
set_option maxHeartbeats 4000000 in
set_option maxRecDepth 100000 in
theorem ct_X12_fallsAny (l : Launch) (E : vE) (F : Nat) (a_o a_o_at a_o_names a_o_sort a_o_trayMany a_o_trays a_o_tape a_o_text a_o_opened a_o_farBy a_o_attendsBy a_o_coveredBy a_o_cameBy a_o_cameThen a_o_fallsBy a_o_loops a_o_ran a_o_told1 : Nat) (o_status : Int32) (o_top : Int64) (o_bottom : Int64) (o_taped : Int32) (o_size : Int32) (o_token : Int32) (o_from : Int32) (o_end : Int32) (o_value : Int32) (o_faultKind : Int32) (o_faultPlace : Int32) (o_faults : Int32) (o_seen : Int32) (o_toldParts : Int32) (o_depth : Int32) (o_counted : Int32) (o_becameThen : Int32) (o_firstCorner : Int32) (o_drawn : Int32) (o_ranSteps : Int32) (o_isTold : Int32) (o_marks : Int32) (o_at : Nat → Int32) (o_ran : Nat → Int32) (u : Int32 × Int32 × (Nat → Int32) × (Nat → Int32)) (hf : X12_fallsAny F o_drawn o_at o_ran = some u) :
    CtI l yX12_fallsAny cX12_fallsAny 3 (some .boolean) 5 E [.ref a_o] (wd_X12_fallsAny E a_o a_o_at a_o_names a_o_sort a_o_trayMany a_o_trays a_o_tape a_o_text a_o_opened a_o_farBy a_o_attendsBy a_o_coveredBy a_o_cameBy a_o_cameThen a_o_fallsBy a_o_loops a_o_ran a_o_told1 o_status o_top o_bottom o_taped o_size o_token o_from o_end o_value o_faultKind o_faultPlace o_faults o_seen o_toldParts o_depth o_counted o_becameThen o_firstCorner o_drawn o_ranSteps o_isTold o_marks o_at o_ran) (wd_X12_fallsAny E a_o a_o_at a_o_names a_o_sort a_o_trayMany a_o_trays a_o_tape a_o_text a_o_opened a_o_farBy a_o_attendsBy a_o_coveredBy a_o_cameBy a_o_cameThen a_o_fallsBy a_o_loops a_o_ran a_o_told1 o_status o_top o_bottom o_taped o_size o_token o_from o_end o_value o_faultKind o_faultPlace o_faults o_seen o_toldParts o_depth o_counted o_becameThen o_firstCorner u.2.1 o_ranSteps o_isTold o_marks u.2.2.1 u.2.2.2) u.1 := by
  refine ctI (by decide) (Nat.le_of_ble_eq_true rfl) ?_
  intro p e s m below meth cd A ls aa QQ hq cx hP hD hS hl
  obtain ⟨⟨hx, hb, hml, hown, hts⟩, hr, hlocks, hK, hA, hX⟩ := id cx
  have hl : lv_has ls 3 [(0, .ref a_o)] := hl
  unfold X12_fallsAny at hf
  refine lv_aload_n hx hb dX12_fallsAny_0 rfl (lv_at hl 0 rfl) ?_
  refine va_get (D := E.1) (ci := 12) (v := .ref a_o_at) (C := RX12) (T := TX12) (N := 39) hx hb hts inX12 hown hK hP 0 rfl rfl 0 (by decide) (hts _ fl_X12_7) (fun _ h9 => h9) rfl dX12_fallsAny_1 ?_
  refine lv_iconst (v := 2) hx hb dX12_fallsAny_4 (by decide) ?_
  obtain ⟨hi, hf⟩ := ck hf
  refine r_iald 1 cx hP rfl hi dX12_fallsAny_5 ?_
  refine lv_if_ne (tgt := 11) hx hb dX12_fallsAny_6 (by decide) (fun hc => ?_) (fun hc => ?_)
  · have hf := it_f hc hf
    refine lv_aload_n hx hb dX12_fallsAny_11 rfl (lv_at hl 0 rfl) ?_
    refine lv_aload_n hx hb dX12_fallsAny_12 rfl (lv_at hl 0 rfl) ?_
    refine va_get (D := E.1) (ci := 12) (v := .ref a_o_at) (C := RX12) (T := TX12) (N := 39) hx hb hts inX12 hown hK hP 0 rfl rfl 0 (by decide) (hts _ fl_X12_7) (fun _ h9 => h9) rfl dX12_fallsAny_13 ?_
    refine lv_iconst (v := 2) hx hb dX12_fallsAny_16 (by decide) ?_
    obtain ⟨hi, hf⟩ := ck hf
    refine r_iald 1 cx hP rfl hi dX12_fallsAny_17 ?_
    obtain ⟨u18, hu18, hf⟩ := bd hf
    refine callVI (wn := (wd_X12_fallsAny E a_o a_o_at a_o_names a_o_sort a_o_trayMany a_o_trays a_o_tape a_o_text a_o_opened a_o_farBy a_o_attendsBy a_o_coveredBy a_o_cameBy a_o_cameThen a_o_fallsBy a_o_loops a_o_ran a_o_told1 o_status o_top o_bottom o_taped o_size o_token o_from o_end o_value o_faultKind o_faultPlace o_faults o_seen o_toldParts o_depth o_counted o_becameThen o_firstCorner u18.2 o_ranSteps o_isTold o_marks o_at o_ran)) (n1 := 3) (ct_X12_draw l E a_o a_o_at a_o_names a_o_sort a_o_trayMany a_o_trays a_o_tape a_o_text a_o_opened a_o_farBy a_o_attendsBy a_o_coveredBy a_o_cameBy a_o_cameThen a_o_fallsBy a_o_loops a_o_ran a_o_told1 o_status o_top o_bottom o_taped o_size o_token o_from o_end o_value o_faultKind o_faultPlace o_faults o_seen o_toldParts o_depth o_counted o_becameThen o_firstCorner o_drawn o_ranSteps o_isTold o_marks (jat o_at 2) u18 hu18) [0] cal_X12_draw cav_X12_draw lk_X12_475 cx hP hD hS hl dX12_fallsAny_18 rfl rfl rfl rfl (Nat.le_of_ble_eq_true rfl) ⟨Nat.le_of_ble_eq_true rfl, Nat.le_of_ble_eq_true rfl⟩ rfl (by decide +kernel) rfl [some 0, none, none] rfl (by decide +kernel) rfl (fun H locs hP hD hS => ?_)
    refine lv_istore_n (lv' := [(1, .int u18.1), (0, .ref a_o)]) hx hb dX12_fallsAny_21 rfl hl (by decide) rfl (fun ls hl => ?_)
    refine lv_aload_n hx hb dX12_fallsAny_22 rfl (lv_at hl 1 rfl) ?_
    refine lv_iload_n hx hb dX12_fallsAny_23 rfl (lv_at hl 0 rfl) ?_
    obtain ⟨u24, hu24, hf⟩ := bd hf
    refine keepVI (ct_X12_doesStand l E a_o a_o_at a_o_names a_o_sort a_o_trayMany a_o_trays a_o_tape a_o_text a_o_opened a_o_farBy a_o_attendsBy a_o_coveredBy a_o_cameBy a_o_cameThen a_o_fallsBy a_o_loops a_o_ran a_o_told1 o_status o_top o_bottom o_taped o_size o_token o_from o_end o_value o_faultKind o_faultPlace o_faults o_seen o_toldParts o_depth o_counted o_becameThen o_firstCorner u18.2 o_ranSteps o_isTold o_marks o_at u18.1 u24 hu24) [0, 1] cal_X12_doesStand cav_X12_doesStand lk_X12_281 cx hP hD hS hl dX12_fallsAny_24 rfl rfl rfl rfl (Nat.le_of_ble_eq_true rfl) ⟨Nat.le_of_ble_eq_true rfl, Nat.le_of_ble_eq_true rfl⟩ rfl (by decide) (fun H locs hP hS => ?_)
    refine lv_if_ne (tgt := 32) hx hb dX12_fallsAny_27 (by decide) (fun hc => ?_) (fun hc => ?_)
    · have hf := it_f hc hf
      refine lv_iconst (v := 0) hx hb dX12_fallsAny_32 (by decide) ?_
      refine lv_istore_n (lv' := [(2, .int 0), (1, .int u18.1), (0, .ref a_o)]) hx hb dX12_fallsAny_33 rfl hl (by decide) rfl (fun ls hl => ?_)
      obtain ⟨e34, hit34, hf⟩ := bd hf
      refine iter_W (b := X12_fallsAny_b34 F u18.2 u18.1) (P := fun st34 => ∀ (H : Heap) (locs : List Loc) (ls : Array Slot), va_P E.1 vwCl (wd_X12_fallsAny E a_o a_o_at a_o_names a_o_sort a_o_trayMany a_o_trays a_o_tape a_o_text a_o_opened a_o_farBy a_o_attendsBy a_o_coveredBy a_o_cameBy a_o_cameThen a_o_fallsBy a_o_loops a_o_ran a_o_told1 o_status o_top o_bottom o_taped o_size o_token o_from o_end o_value o_faultKind o_faultPlace o_faults o_seen o_toldParts o_depth o_counted o_becameThen o_firstCorner u18.2 o_ranSteps o_isTold o_marks st34.2.1 st34.2.2) H → va_D A (wd_X12_fallsAny E a_o a_o_at a_o_names a_o_sort a_o_trayMany a_o_trays a_o_tape a_o_text a_o_opened a_o_farBy a_o_attendsBy a_o_coveredBy a_o_cameBy a_o_cameThen a_o_fallsBy a_o_loops a_o_ran a_o_told1 o_status o_top o_bottom o_taped o_size o_token o_from o_end o_value o_faultKind o_faultPlace o_faults o_seen o_toldParts o_depth o_counted o_becameThen o_firstCorner u18.2 o_ranSteps o_isTold o_marks st34.2.1 st34.2.2) → va_S A s.heap H locs → lv_has ls 3 [(0, .ref a_o), (1, .int u18.1), (2, .int st34.1)] → W p l e (rmd 5) s m aa below meth cd H locs 0 0 QQ (F0 m 34 ls [])) (G := (fun (e34 : (Nat → Int32) × (Nat → Int32)) => ∀ (H : Heap) (locs : List Loc) (ls : Array Slot), va_P E.1 vwCl (wd_X12_fallsAny E a_o a_o_at a_o_names a_o_sort a_o_trayMany a_o_trays a_o_tape a_o_text a_o_opened a_o_farBy a_o_attendsBy a_o_coveredBy a_o_cameBy a_o_cameThen a_o_fallsBy a_o_loops a_o_ran a_o_told1 o_status o_top o_bottom o_taped o_size o_token o_from o_end o_value o_faultKind o_faultPlace o_faults o_seen o_toldParts o_depth o_counted o_becameThen o_firstCorner u18.2 o_ranSteps o_isTold o_marks e34.1 e34.2) H → va_D A (wd_X12_fallsAny E a_o a_o_at a_o_names a_o_sort a_o_trayMany a_o_trays a_o_tape a_o_text a_o_opened a_o_farBy a_o_attendsBy a_o_coveredBy a_o_cameBy a_o_cameThen a_o_fallsBy a_o_loops a_o_ran a_o_told1 o_status o_top o_bottom o_taped o_size o_token o_from o_end o_value o_faultKind o_faultPlace o_faults o_seen o_toldParts o_depth o_counted o_becameThen o_firstCorner u18.2 o_ranSteps o_isTold o_marks e34.1 e34.2) → va_S A s.heap H locs → lv_has ls 3 [] → W p l e (rmd 5) s m aa below meth cd H locs 0 0 QQ (F0 m 83 ls []))) ?_ F (0, o_at, o_ran) e34 hit34 ?_ _ _ _ hP hD hS (lv_sub hl [2, 1, 0] rfl)
      · intro st34 r34 hf hk34 he34 H locs ls hP hD hS hl
        have hj77 : ∀ (v2_j77 : Int32) (o_at_j77 : Nat → Int32) (o_ran_j77 : Nat → Int32) (H : Heap) (locs : List Loc) (ls : Array Slot), X12_fallsAny_j77 F u18.2 o_at_j77 o_ran_j77 u18.1 v2_j77 = some r34 → va_P E.1 vwCl (wd_X12_fallsAny E a_o a_o_at a_o_names a_o_sort a_o_trayMany a_o_trays a_o_tape a_o_text a_o_opened a_o_farBy a_o_attendsBy a_o_coveredBy a_o_cameBy a_o_cameThen a_o_fallsBy a_o_loops a_o_ran a_o_told1 o_status o_top o_bottom o_taped o_size o_token o_from o_end o_value o_faultKind o_faultPlace o_faults o_seen o_toldParts o_depth o_counted o_becameThen o_firstCorner u18.2 o_ranSteps o_isTold o_marks o_at_j77 o_ran_j77) H → va_D A (wd_X12_fallsAny E a_o a_o_at a_o_names a_o_sort a_o_trayMany a_o_trays a_o_tape a_o_text a_o_opened a_o_farBy a_o_attendsBy a_o_coveredBy a_o_cameBy a_o_cameThen a_o_fallsBy a_o_loops a_o_ran a_o_told1 o_status o_top o_bottom o_taped o_size o_token o_from o_end o_value o_faultKind o_faultPlace o_faults o_seen o_toldParts o_depth o_counted o_becameThen o_firstCorner u18.2 o_ranSteps o_isTold o_marks o_at_j77 o_ran_j77) → va_S A s.heap H locs → lv_has ls 3 [(0, .ref a_o), (1, .int u18.1), (2, .int v2_j77)] → W p l e (rmd 5) s m aa below meth cd H locs 0 0 QQ (F0 m 77 ls []) := by
          intro v2_j77 o_at_j77 o_ran_j77 H locs ls hf hP hD hS hl
          unfold X12_fallsAny_j77 at hf
          refine lv_iinc (v := (v2_j77 + 1)) (lv' := [(2, .int (v2_j77 + 1)), (0, .ref a_o), (1, .int u18.1)]) hx hb dX12_fallsAny_77 hl (k := 2) rfl rfl (by decide) rfl (fun ls hl => ?_)
          refine lv_goto (tgt := 34) hx hb dX12_fallsAny_80 (by decide) ?_
          exact hk34 _ (Option.some.inj hf).symm _ _ _ hP hD hS (lv_sub hl [1, 2, 0] rfl)
        unfold X12_fallsAny_b34 at hf
        refine lv_iload_n hx hb dX12_fallsAny_34 rfl (lv_at hl 2 rfl) ?_
        refine lv_aload_n hx hb dX12_fallsAny_35 rfl (lv_at hl 0 rfl) ?_
        refine va_get (D := E.1) (ci := 12) (v := .ref a_o_at) (C := RX12) (T := TX12) (N := 39) hx hb hts inX12 hown hK hP 0 rfl rfl 0 (by decide) (hts _ fl_X12_7) (fun _ h9 => h9) rfl dX12_fallsAny_36 ?_
        refine lv_iconst (v := 4) hx hb dX12_fallsAny_39 (by decide) ?_
        obtain ⟨hi, hf⟩ := ck hf
        refine r_iald 1 cx hP rfl hi dX12_fallsAny_40 ?_
        refine lv_icmp_ge (tgt := 83) hx hb dX12_fallsAny_41 (by decide) (fun hc => ?_) (fun hc => ?_)
        · have hf := it_t hc hf
          exact he34 _ (Option.some.inj hf).symm _ _ _ hP hD hS (lv_sub hl [] rfl)
        · have hf := it_f hc hf
          refine lv_aload_n hx hb dX12_fallsAny_44 rfl (lv_at hl 0 rfl) ?_
          refine lv_iload_n hx hb dX12_fallsAny_45 rfl (lv_at hl 2 rfl) ?_
          refine lv_iconst (v := 0) hx hb dX12_fallsAny_46 (by decide) ?_
          obtain ⟨u47, hu47, hf⟩ := bd hf
          refine keepVI (ct_X12_watcherOf l E a_o a_o_at a_o_names a_o_sort a_o_trayMany a_o_trays a_o_tape a_o_text a_o_opened a_o_farBy a_o_attendsBy a_o_coveredBy a_o_cameBy a_o_cameThen a_o_fallsBy a_o_loops a_o_ran a_o_told1 o_status o_top o_bottom o_taped o_size o_token o_from o_end o_value o_faultKind o_faultPlace o_faults o_seen o_toldParts o_depth o_counted o_becameThen o_firstCorner u18.2 o_ranSteps o_isTold o_marks st34.2.1 st34.1 (0 : Int32) u47 hu47) [0, 1] cal_X12_watcherOf cav_X12_watcherOf lk_X12_308 cx hP hD hS hl dX12_fallsAny_47 rfl rfl rfl rfl (Nat.le_of_ble_eq_true rfl) ⟨Nat.le_of_ble_eq_true rfl, Nat.le_of_ble_eq_true rfl⟩ rfl (by decide) (fun H locs hP hS => ?_)
          refine lv_aload_n hx hb dX12_fallsAny_50 rfl (lv_at hl 0 rfl) ?_
          refine lv_iload_n hx hb dX12_fallsAny_51 rfl (lv_at hl 1 rfl) ?_
          refine lv_iconst (v := 0) hx hb dX12_fallsAny_52 (by decide) ?_
          obtain ⟨u53, hu53, hf⟩ := bd hf
          refine keepVI (ct_X12_extraOf l E a_o a_o_at a_o_names a_o_sort a_o_trayMany a_o_trays a_o_tape a_o_text a_o_opened a_o_farBy a_o_attendsBy a_o_coveredBy a_o_cameBy a_o_cameThen a_o_fallsBy a_o_loops a_o_ran a_o_told1 o_status o_top o_bottom o_taped o_size o_token o_from o_end o_value o_faultKind o_faultPlace o_faults o_seen o_toldParts o_depth o_counted o_becameThen o_firstCorner u18.2 o_ranSteps o_isTold o_marks st34.2.1 u18.1 (0 : Int32) u53 hu53) [0, 1] cal_X12_extraOf cav_X12_extraOf lk_X12_275 cx hP hD hS hl dX12_fallsAny_53 rfl rfl rfl rfl (Nat.le_of_ble_eq_true rfl) ⟨Nat.le_of_ble_eq_true rfl, Nat.le_of_ble_eq_true rfl⟩ rfl (by decide) (fun H locs hP hS => ?_)
          refine lv_icmp_eq (tgt := 62) hx hb dX12_fallsAny_56 (by decide) (fun hc => ?_) (fun hc => ?_)
          · have hf := it_t hc hf
            refine lv_aload_n hx hb dX12_fallsAny_62 rfl (lv_at hl 0 rfl) ?_
            refine lv_iload_n hx hb dX12_fallsAny_63 rfl (lv_at hl 2 rfl) ?_
            obtain ⟨u64, hu64, hf⟩ := bd hf
            refine callVV (wn := (wd_X12_fallsAny E a_o a_o_at a_o_names a_o_sort a_o_trayMany a_o_trays a_o_tape a_o_text a_o_opened a_o_farBy a_o_attendsBy a_o_coveredBy a_o_cameBy a_o_cameThen a_o_fallsBy a_o_loops a_o_ran a_o_told1 o_status o_top o_bottom o_taped o_size o_token o_from o_end o_value o_faultKind o_faultPlace o_faults o_seen o_toldParts o_depth o_counted o_becameThen o_firstCorner u18.2 o_ranSteps o_isTold o_marks u64 st34.2.2)) (n1 := 3) (ct_X12_warns l E F a_o a_o_at a_o_names a_o_sort a_o_trayMany a_o_trays a_o_tape a_o_text a_o_opened a_o_farBy a_o_attendsBy a_o_coveredBy a_o_cameBy a_o_cameThen a_o_fallsBy a_o_loops a_o_ran a_o_told1 o_status o_top o_bottom o_taped o_size o_token o_from o_end o_value o_faultKind o_faultPlace o_faults o_seen o_toldParts o_depth o_counted o_becameThen o_firstCorner u18.2 o_ranSteps o_isTold o_marks st34.2.1 st34.1 u64 hu64) [0, 1] cal_X12_warns cav_X12_warns lk_X12_351 cx hP hD hS hl dX12_fallsAny_64 rfl rfl rfl rfl (Nat.le_of_ble_eq_true rfl) ⟨Nat.le_of_ble_eq_true rfl, Nat.le_of_ble_eq_true rfl⟩ rfl (by decide +kernel) rfl [some 0, some 1, none] rfl (by decide +kernel) rfl (fun H locs hP hD hS => ?_)
            refine lv_aload_n hx hb dX12_fallsAny_67 rfl (lv_at hl 0 rfl) ?_
            refine va_get (D := E.1) (ci := 12) (v := .ref a_o_ran) (C := RX12) (T := TX12) (N := 39) hx hb hts inX12 hown hK hP 0 rfl rfl 35 (by decide) (hts _ fl_X12_69) (fun _ h9 => h9) rfl dX12_fallsAny_68 ?_
            refine lv_iconst (v := 3) hx hb dX12_fallsAny_71 (by decide) ?_
            refine lv_dup2_11 hx hb dX12_fallsAny_72 rfl rfl ?_
            obtain ⟨hi, hf⟩ := ck hf
            refine r_iald 2 cx hP rfl hi dX12_fallsAny_73 ?_
            refine lv_iconst (v := 1) hx hb dX12_fallsAny_74 (by decide) ?_
            refine lv_iadd hx hb dX12_fallsAny_75 ?_
            obtain ⟨hi, hf⟩ := ck hf
            refine r_iast 2 cx hP hD hS rfl hi dX12_fallsAny_76 (fun H locs hP hD hS => ?_)
            have hP : va_P E.1 vwCl (wd_X12_fallsAny E a_o a_o_at a_o_names a_o_sort a_o_trayMany a_o_trays a_o_tape a_o_text a_o_opened a_o_farBy a_o_attendsBy a_o_coveredBy a_o_cameBy a_o_cameThen a_o_fallsBy a_o_loops a_o_ran a_o_told1 o_status o_top o_bottom o_taped o_size o_token o_from o_end o_value o_faultKind o_faultPlace o_faults o_seen o_toldParts o_depth o_counted o_becameThen o_firstCorner u18.2 o_ranSteps o_isTold o_marks u64 (jput st34.2.2 3 ((jat st34.2.2 3) + 1))) H := hP
            have hD : va_D A (wd_X12_fallsAny E a_o a_o_at a_o_names a_o_sort a_o_trayMany a_o_trays a_o_tape a_o_text a_o_opened a_o_farBy a_o_attendsBy a_o_coveredBy a_o_cameBy a_o_cameThen a_o_fallsBy a_o_loops a_o_ran a_o_told1 o_status o_top o_bottom o_taped o_size o_token o_from o_end o_value o_faultKind o_faultPlace o_faults o_seen o_toldParts o_depth o_counted o_becameThen o_firstCorner u18.2 o_ranSteps o_isTold o_marks u64 (jput st34.2.2 3 ((jat st34.2.2 3) + 1))) := hD
            exact hj77 _ _ _ _ _ _ hf hP hD hS (lv_sub hl [0, 1, 2] rfl)
          · have hf := it_f hc hf
            refine lv_goto (tgt := 77) hx hb dX12_fallsAny_59 (by decide) ?_
            exact hj77 _ _ _ _ _ _ hf hP hD hS (lv_sub hl [0, 1, 2] rfl)
      · refine fun H locs ls hP hD hS hl => ?_
        refine lv_iconst (v := 1) hx hb dX12_fallsAny_83 (by decide) ?_
        obtain rfl := Option.some.inj hf
        subst hq
        exact retZ cx rfl hP hD hS dX12_fallsAny_84
    · have hf := it_t hc hf
      refine lv_iconst (v := 0) hx hb dX12_fallsAny_30 (by decide) ?_
      obtain rfl := Option.some.inj hf
      subst hq
      exact retZ cx rfl hP hD hS dX12_fallsAny_31
  · have hf := it_t hc hf
    refine lv_iconst (v := 0) hx hb dX12_fallsAny_9 (by decide) ?_
    obtain rfl := Option.some.inj hf
    subst hq
    exact retZ cx rfl hP hD hS dX12_fallsAny_10
def X12_does (F : Nat) (o_drawn : Int32) (o_at : Nat → Int32) (o_farBy : Nat → Int32) (o_ran : Nat → Int32) (v1 : Int32) : Option (Int32 × Int32 × (Nat → Int32) × (Nat → Int32) × (Nat → Int32)) :=
  if ix (v1 + 1) 3097 then
  if ix v1 3097 then
  if (jat o_at v1) = 11 then
  (X12_hoursBy F o_at o_farBy o_ran (jat o_at (v1 + 1))).bind fun u54 =>
  if isZ u54.1 then some (u54.1, o_drawn, u54.2.1, u54.2.2.1, u54.2.2.2) else none
  else if (jat o_at v1) = 14 then
  if ix (v1 + 2) 3097 then
  (X12_ordersBy o_at (jat o_at (v1 + 1)) (jat o_at (v1 + 2))).bind fun u68 =>
  if isZ u68.1 then some (u68.1, o_drawn, u68.2, o_farBy, o_ran) else none
  else none
  else if (jat o_at v1) = 15 then
  if ix (v1 + 2) 3097 then
  (X12_puts o_at (jat o_at (v1 + 1)) (jat o_at (v1 + 2))).bind fun u82 =>
  if isZ u82.1 then some (u82.1, o_drawn, u82.2, o_farBy, o_ran) else none
  else none
  else if (jat o_at v1) = 16 then
  (X12_fallsAny F o_drawn o_at o_ran).bind fun u87 =>
  if isZ u87.1 then some (u87.1, u87.2.1, u87.2.2.1, o_farBy, u87.2.2.2) else none
  else some (1, o_drawn, o_at, o_farBy, o_ran)
  else none
  else none
abbrev wd_X12_does (E : vE) (a_o a_o_at a_o_names a_o_sort a_o_trayMany a_o_trays a_o_tape a_o_text a_o_opened a_o_farBy a_o_attendsBy a_o_coveredBy a_o_cameBy a_o_cameThen a_o_fallsBy a_o_loops a_o_ran a_o_told1 : Nat) (o_status : Int32) (o_top : Int64) (o_bottom : Int64) (o_taped : Int32) (o_size : Int32) (o_token : Int32) (o_from : Int32) (o_end : Int32) (o_value : Int32) (o_faultKind : Int32) (o_faultPlace : Int32) (o_faults : Int32) (o_seen : Int32) (o_toldParts : Int32) (o_depth : Int32) (o_counted : Int32) (o_becameThen : Int32) (o_firstCorner : Int32) (o_drawn : Int32) (o_ranSteps : Int32) (o_isTold : Int32) (o_marks : Int32) (o_at : Nat → Int32) (o_farBy : Nat → Int32) (o_ran : Nat → Int32) : va_W := [(a_o, .inr (12, [.ref a_o_at, .ref a_o_names, .int o_status, .long o_top, .long o_bottom, .ref a_o_sort, .ref a_o_trayMany, .ref a_o_trays, .ref a_o_tape, .ref a_o_text, .int o_taped, .int o_size, .int o_token, .int o_from, .int o_end, .int o_value, .int o_faultKind, .int o_faultPlace, .int o_faults, .int o_seen, .int o_toldParts, .ref a_o_opened, .int o_depth, .int o_counted, .ref a_o_farBy, .int o_becameThen, .ref a_o_attendsBy, .ref a_o_coveredBy, .ref a_o_cameBy, .ref a_o_cameThen, .int o_firstCorner, .ref a_o_fallsBy, .int o_drawn, .int o_ranSteps, .ref a_o_loops, .ref a_o_ran, .ref a_o_told1, .int o_isTold, .int o_marks])), (a_o_at, .inl (E.2.1, 3097, .inl o_at)), (a_o_farBy, .inl (E.2.1, 64, .inl o_farBy)), (a_o_ran, .inl (E.2.1, 5, .inl o_ran))]
set_option maxHeartbeats 4000000 in
set_option maxRecDepth 100000 in
theorem ct_X12_does (l : Launch) (E : vE) (F : Nat) (a_o a_o_at a_o_names a_o_sort a_o_trayMany a_o_trays a_o_tape a_o_text a_o_opened a_o_farBy a_o_attendsBy a_o_coveredBy a_o_cameBy a_o_cameThen a_o_fallsBy a_o_loops a_o_ran a_o_told1 : Nat) (o_status : Int32) (o_top : Int64) (o_bottom : Int64) (o_taped : Int32) (o_size : Int32) (o_token : Int32) (o_from : Int32) (o_end : Int32) (o_value : Int32) (o_faultKind : Int32) (o_faultPlace : Int32) (o_faults : Int32) (o_seen : Int32) (o_toldParts : Int32) (o_depth : Int32) (o_counted : Int32) (o_becameThen : Int32) (o_firstCorner : Int32) (o_drawn : Int32) (o_ranSteps : Int32) (o_isTold : Int32) (o_marks : Int32) (o_at : Nat → Int32) (o_farBy : Nat → Int32) (o_ran : Nat → Int32) (v1 : Int32) (u : Int32 × Int32 × (Nat → Int32) × (Nat → Int32) × (Nat → Int32)) (hf : X12_does F o_drawn o_at o_farBy o_ran v1 = some u) :
    CtI l yX12_does cX12_does 3 (some .boolean) 9 E [.ref a_o, .int v1] (wd_X12_does E a_o a_o_at a_o_names a_o_sort a_o_trayMany a_o_trays a_o_tape a_o_text a_o_opened a_o_farBy a_o_attendsBy a_o_coveredBy a_o_cameBy a_o_cameThen a_o_fallsBy a_o_loops a_o_ran a_o_told1 o_status o_top o_bottom o_taped o_size o_token o_from o_end o_value o_faultKind o_faultPlace o_faults o_seen o_toldParts o_depth o_counted o_becameThen o_firstCorner o_drawn o_ranSteps o_isTold o_marks o_at o_farBy o_ran) (wd_X12_does E a_o a_o_at a_o_names a_o_sort a_o_trayMany a_o_trays a_o_tape a_o_text a_o_opened a_o_farBy a_o_attendsBy a_o_coveredBy a_o_cameBy a_o_cameThen a_o_fallsBy a_o_loops a_o_ran a_o_told1 o_status o_top o_bottom o_taped o_size o_token o_from o_end o_value o_faultKind o_faultPlace o_faults o_seen o_toldParts o_depth o_counted o_becameThen o_firstCorner u.2.1 o_ranSteps o_isTold o_marks u.2.2.1 u.2.2.2.1 u.2.2.2.2) u.1 := by
  refine ctI (by decide) (Nat.le_of_ble_eq_true rfl) ?_
  intro p e s m below meth cd A ls aa QQ hq cx hP hD hS hl
  obtain ⟨⟨hx, hb, hml, hown, hts⟩, hr, hlocks, hK, hA, hX⟩ := id cx
  have hl : lv_has ls 3 [(0, .ref a_o), (1, .int v1)] := hl
  unfold X12_does at hf
  refine lv_aload_n hx hb dX12_does_0 rfl (lv_at hl 0 rfl) ?_
  refine va_get (D := E.1) (ci := 12) (v := .ref a_o_at) (C := RX12) (T := TX12) (N := 39) hx hb hts inX12 hown hK hP 0 rfl rfl 0 (by decide) (hts _ fl_X12_7) (fun _ h9 => h9) rfl dX12_does_1 ?_
  refine lv_iload_n hx hb dX12_does_4 rfl (lv_at hl 1 rfl) ?_
  refine lv_iconst (v := 1) hx hb dX12_does_5 (by decide) ?_
  refine lv_iadd hx hb dX12_does_6 ?_
  obtain ⟨hi, hf⟩ := ck hf
  refine r_iald 1 cx hP rfl hi dX12_does_7 ?_
  refine lv_istore_n (lv' := [(2, .int (jat o_at (v1 + 1))), (0, .ref a_o), (1, .int v1)]) hx hb dX12_does_8 rfl hl (by decide) rfl (fun ls hl => ?_)
  refine lv_aload_n hx hb dX12_does_9 rfl (lv_at hl 1 rfl) ?_
  refine va_get (D := E.1) (ci := 12) (v := .ref a_o_at) (C := RX12) (T := TX12) (N := 39) hx hb hts inX12 hown hK hP 0 rfl rfl 0 (by decide) (hts _ fl_X12_7) (fun _ h9 => h9) rfl dX12_does_10 ?_
  refine lv_iload_n hx hb dX12_does_13 rfl (lv_at hl 2 rfl) ?_
  obtain ⟨hi, hf⟩ := ck hf
  refine r_iald 1 cx hP rfl hi dX12_does_14 ?_
  by_cases hc12 : (jat o_at v1) = 11
  · have hf := it_t hc12 hf
    refine swT (tgt := 52) 0 cx dX12_does_15 (by rw [hc12]; decide) (by decide) rfl (by decide) ?_
    refine lv_aload_n hx hb dX12_does_52 rfl (lv_at hl 1 rfl) ?_
    refine lv_iload_n hx hb dX12_does_53 rfl (lv_at hl 0 rfl) ?_
    obtain ⟨u54, hu54, hf⟩ := bd hf
    refine callVI (wn := (wd_X12_does E a_o a_o_at a_o_names a_o_sort a_o_trayMany a_o_trays a_o_tape a_o_text a_o_opened a_o_farBy a_o_attendsBy a_o_coveredBy a_o_cameBy a_o_cameThen a_o_fallsBy a_o_loops a_o_ran a_o_told1 o_status o_top o_bottom o_taped o_size o_token o_from o_end o_value o_faultKind o_faultPlace o_faults o_seen o_toldParts o_depth o_counted o_becameThen o_firstCorner o_drawn o_ranSteps o_isTold o_marks u54.2.1 u54.2.2.1 u54.2.2.2)) (n1 := 4) (ct_X12_hoursBy l E F a_o a_o_at a_o_names a_o_sort a_o_trayMany a_o_trays a_o_tape a_o_text a_o_opened a_o_farBy a_o_attendsBy a_o_coveredBy a_o_cameBy a_o_cameThen a_o_fallsBy a_o_loops a_o_ran a_o_told1 o_status o_top o_bottom o_taped o_size o_token o_from o_end o_value o_faultKind o_faultPlace o_faults o_seen o_toldParts o_depth o_counted o_becameThen o_firstCorner o_drawn o_ranSteps o_isTold o_marks o_at o_farBy o_ran (jat o_at (v1 + 1)) u54 hu54) [0, 1, 2, 3] cal_X12_hoursBy cav_X12_hoursBy lk_X12_478 cx hP hD hS hl dX12_does_54 rfl rfl rfl rfl (Nat.le_of_ble_eq_true rfl) ⟨Nat.le_of_ble_eq_true rfl, Nat.le_of_ble_eq_true rfl⟩ rfl (by decide +kernel) rfl [some 0, some 1, some 2, some 3] rfl (by decide +kernel) rfl (fun H locs hP hD hS => ?_)
    obtain ⟨hz, hf⟩ := ck hf
    obtain rfl := Option.some.inj hf
    subst hq
    exact retZ cx hz hP hD hS dX12_does_57
  · have hf := it_f hc12 hf
    by_cases hc15 : (jat o_at v1) = 14
    · have hf := it_t hc15 hf
      refine swT (tgt := 58) 3 cx dX12_does_15 (by rw [hc15]; decide) (by decide) rfl (by decide) ?_
      refine lv_aload_n hx hb dX12_does_58 rfl (lv_at hl 1 rfl) ?_
      refine lv_iload_n hx hb dX12_does_59 rfl (lv_at hl 0 rfl) ?_
      refine lv_aload_n hx hb dX12_does_60 rfl (lv_at hl 1 rfl) ?_
      refine va_get (D := E.1) (ci := 12) (v := .ref a_o_at) (C := RX12) (T := TX12) (N := 39) hx hb hts inX12 hown hK hP 0 rfl rfl 0 (by decide) (hts _ fl_X12_7) (fun _ h9 => h9) rfl dX12_does_61 ?_
      refine lv_iload_n hx hb dX12_does_64 rfl (lv_at hl 2 rfl) ?_
      refine lv_iconst (v := 2) hx hb dX12_does_65 (by decide) ?_
      refine lv_iadd hx hb dX12_does_66 ?_
      obtain ⟨hi, hf⟩ := ck hf
      refine r_iald 1 cx hP rfl hi dX12_does_67 ?_
      obtain ⟨u68, hu68, hf⟩ := bd hf
      refine callVI (wn := (wd_X12_does E a_o a_o_at a_o_names a_o_sort a_o_trayMany a_o_trays a_o_tape a_o_text a_o_opened a_o_farBy a_o_attendsBy a_o_coveredBy a_o_cameBy a_o_cameThen a_o_fallsBy a_o_loops a_o_ran a_o_told1 o_status o_top o_bottom o_taped o_size o_token o_from o_end o_value o_faultKind o_faultPlace o_faults o_seen o_toldParts o_depth o_counted o_becameThen o_firstCorner o_drawn o_ranSteps o_isTold o_marks u68.2 o_farBy o_ran)) (n1 := 4) (ct_X12_ordersBy l E a_o a_o_at a_o_names a_o_sort a_o_trayMany a_o_trays a_o_tape a_o_text a_o_opened a_o_farBy a_o_attendsBy a_o_coveredBy a_o_cameBy a_o_cameThen a_o_fallsBy a_o_loops a_o_ran a_o_told1 o_status o_top o_bottom o_taped o_size o_token o_from o_end o_value o_faultKind o_faultPlace o_faults o_seen o_toldParts o_depth o_counted o_becameThen o_firstCorner o_drawn o_ranSteps o_isTold o_marks o_at (jat o_at (v1 + 1)) (jat o_at (v1 + 2)) u68 hu68) [0, 1] cal_X12_ordersBy cav_X12_ordersBy lk_X12_481 cx hP hD hS hl dX12_does_68 rfl rfl rfl rfl (Nat.le_of_ble_eq_true rfl) ⟨Nat.le_of_ble_eq_true rfl, Nat.le_of_ble_eq_true rfl⟩ rfl (by decide +kernel) rfl [some 0, some 1, none, none] rfl (by decide +kernel) rfl (fun H locs hP hD hS => ?_)
      obtain ⟨hz, hf⟩ := ck hf
      obtain rfl := Option.some.inj hf
      subst hq
      exact retZ cx hz hP hD hS dX12_does_71
    · have hf := it_f hc15 hf
      by_cases hc16 : (jat o_at v1) = 15
      · have hf := it_t hc16 hf
        refine swT (tgt := 72) 4 cx dX12_does_15 (by rw [hc16]; decide) (by decide) rfl (by decide) ?_
        refine lv_aload_n hx hb dX12_does_72 rfl (lv_at hl 1 rfl) ?_
        refine lv_iload_n hx hb dX12_does_73 rfl (lv_at hl 0 rfl) ?_
        refine lv_aload_n hx hb dX12_does_74 rfl (lv_at hl 1 rfl) ?_
        refine va_get (D := E.1) (ci := 12) (v := .ref a_o_at) (C := RX12) (T := TX12) (N := 39) hx hb hts inX12 hown hK hP 0 rfl rfl 0 (by decide) (hts _ fl_X12_7) (fun _ h9 => h9) rfl dX12_does_75 ?_
        refine lv_iload_n hx hb dX12_does_78 rfl (lv_at hl 2 rfl) ?_
        refine lv_iconst (v := 2) hx hb dX12_does_79 (by decide) ?_
        refine lv_iadd hx hb dX12_does_80 ?_
        obtain ⟨hi, hf⟩ := ck hf
        refine r_iald 1 cx hP rfl hi dX12_does_81 ?_
        obtain ⟨u82, hu82, hf⟩ := bd hf
        refine callVI (wn := (wd_X12_does E a_o a_o_at a_o_names a_o_sort a_o_trayMany a_o_trays a_o_tape a_o_text a_o_opened a_o_farBy a_o_attendsBy a_o_coveredBy a_o_cameBy a_o_cameThen a_o_fallsBy a_o_loops a_o_ran a_o_told1 o_status o_top o_bottom o_taped o_size o_token o_from o_end o_value o_faultKind o_faultPlace o_faults o_seen o_toldParts o_depth o_counted o_becameThen o_firstCorner o_drawn o_ranSteps o_isTold o_marks u82.2 o_farBy o_ran)) (n1 := 4) (ct_X12_puts l E a_o a_o_at a_o_names a_o_sort a_o_trayMany a_o_trays a_o_tape a_o_text a_o_opened a_o_farBy a_o_attendsBy a_o_coveredBy a_o_cameBy a_o_cameThen a_o_fallsBy a_o_loops a_o_ran a_o_told1 o_status o_top o_bottom o_taped o_size o_token o_from o_end o_value o_faultKind o_faultPlace o_faults o_seen o_toldParts o_depth o_counted o_becameThen o_firstCorner o_drawn o_ranSteps o_isTold o_marks o_at (jat o_at (v1 + 1)) (jat o_at (v1 + 2)) u82 hu82) [0, 1] cal_X12_puts cav_X12_puts lk_X12_366 cx hP hD hS hl dX12_does_82 rfl rfl rfl rfl (Nat.le_of_ble_eq_true rfl) ⟨Nat.le_of_ble_eq_true rfl, Nat.le_of_ble_eq_true rfl⟩ rfl (by decide +kernel) rfl [some 0, some 1, none, none] rfl (by decide +kernel) rfl (fun H locs hP hD hS => ?_)
        obtain ⟨hz, hf⟩ := ck hf
        obtain rfl := Option.some.inj hf
        subst hq
        exact retZ cx hz hP hD hS dX12_does_85
      · have hf := it_f hc16 hf
        by_cases hc17 : (jat o_at v1) = 16
        · have hf := it_t hc17 hf
          refine swT (tgt := 86) 5 cx dX12_does_15 (by rw [hc17]; decide) (by decide) rfl (by decide) ?_
          refine lv_aload_n hx hb dX12_does_86 rfl (lv_at hl 1 rfl) ?_
          obtain ⟨u87, hu87, hf⟩ := bd hf
          refine callVI (wn := (wd_X12_does E a_o a_o_at a_o_names a_o_sort a_o_trayMany a_o_trays a_o_tape a_o_text a_o_opened a_o_farBy a_o_attendsBy a_o_coveredBy a_o_cameBy a_o_cameThen a_o_fallsBy a_o_loops a_o_ran a_o_told1 o_status o_top o_bottom o_taped o_size o_token o_from o_end o_value o_faultKind o_faultPlace o_faults o_seen o_toldParts o_depth o_counted o_becameThen o_firstCorner u87.2.1 o_ranSteps o_isTold o_marks u87.2.2.1 o_farBy u87.2.2.2)) (n1 := 4) (ct_X12_fallsAny l E F a_o a_o_at a_o_names a_o_sort a_o_trayMany a_o_trays a_o_tape a_o_text a_o_opened a_o_farBy a_o_attendsBy a_o_coveredBy a_o_cameBy a_o_cameThen a_o_fallsBy a_o_loops a_o_ran a_o_told1 o_status o_top o_bottom o_taped o_size o_token o_from o_end o_value o_faultKind o_faultPlace o_faults o_seen o_toldParts o_depth o_counted o_becameThen o_firstCorner o_drawn o_ranSteps o_isTold o_marks o_at o_ran u87 hu87) [0, 1, 3] cal_X12_fallsAny cav_X12_fallsAny lk_X12_484 cx hP hD hS hl dX12_does_87 rfl rfl rfl rfl (Nat.le_of_ble_eq_true rfl) ⟨Nat.le_of_ble_eq_true rfl, Nat.le_of_ble_eq_true rfl⟩ rfl (by decide +kernel) rfl [some 0, some 1, none, some 2] rfl (by decide +kernel) rfl (fun H locs hP hD hS => ?_)
          obtain ⟨hz, hf⟩ := ck hf
          obtain rfl := Option.some.inj hf
          subst hq
          exact retZ cx hz hP hD hS dX12_does_90
        · have hf := it_f hc17 hf
          refine swD (tgt := 91) [11, 14, 15, 16] cx dX12_does_15 ?_ (by decide) (by decide) ?_
          · intro z hz
            simp only [List.mem_cons, List.not_mem_nil, or_false] at hz
            rcases hz with rfl | rfl | rfl | rfl
            · exact ne_int hc12 (by decide)
            · exact ne_int hc15 (by decide)
            · exact ne_int hc16 (by decide)
            · exact ne_int hc17 (by decide)
          · refine lv_iconst (v := 1) hx hb dX12_does_91 (by decide) ?_
            obtain rfl := Option.some.inj hf
            subst hq
            exact retZ cx rfl hP hD hS dX12_does_92
def X12_holds (o_at : Nat → Int32) (v1 : Int32) : Option (Int32) :=
  if ix v1 3097 then
  if ix (v1 + 1) 3097 then
  if ((jat o_at v1) - 1700) = 21 then
  (X12_happeningOf o_at (jat o_at (v1 + 1)) (3 : Int32)).bind fun u29 =>
  if ix (v1 + 2) 3097 then
  if u29 = (jat o_at (v1 + 2)) then
  some 1
  else
  some 0
  else none
  else
  if ((jat o_at v1) - 1700) = 22 then
  (X12_extraOf o_at (jat o_at (v1 + 1)) (0 : Int32)).bind fun u58 =>
  if ix (v1 + 2) 3097 then
  if u58 = (jat o_at (v1 + 2)) then
  some 1
  else
  some 0
  else none
  else
  if ((jat o_at v1) - 1700) = 23 then
  (X12_isToCome o_at (jat o_at (v1 + 1))).bind fun u86 =>
  if u86 = 0 then
  some 1
  else
  some 0
  else
  (X12_watcherOf o_at (jat o_at (v1 + 1)) (2 : Int32)).bind fun u101 =>
  if ix (v1 + 5) 3097 then
  if (jat o_at (v1 + 5)) = 60 then
  if ix (v1 + 2) 3097 then
  if (jat o_at (v1 + 2)) ≤ u101 then
  some 0
  else
  some 1
  else none
  else
  if ix (v1 + 5) 3097 then
  if (jat o_at (v1 + 5)) = 62 then
  if ix (v1 + 2) 3097 then
  if u101 ≤ (jat o_at (v1 + 2)) then
  some 0
  else
  some 1
  else none
  else
  if ix (v1 + 2) 3097 then
  if u101 = (jat o_at (v1 + 2)) then
  some 1
  else
  some 0
  else none
  else none
  else none
  else none
  else none
abbrev wd_X12_holds (E : vE) (a_o a_o_at a_o_names a_o_sort a_o_trayMany a_o_trays a_o_tape a_o_text a_o_opened a_o_farBy a_o_attendsBy a_o_coveredBy a_o_cameBy a_o_cameThen a_o_fallsBy a_o_loops a_o_ran a_o_told1 : Nat) (o_status : Int32) (o_top : Int64) (o_bottom : Int64) (o_taped : Int32) (o_size : Int32) (o_token : Int32) (o_from : Int32) (o_end : Int32) (o_value : Int32) (o_faultKind : Int32) (o_faultPlace : Int32) (o_faults : Int32) (o_seen : Int32) (o_toldParts : Int32) (o_depth : Int32) (o_counted : Int32) (o_becameThen : Int32) (o_firstCorner : Int32) (o_drawn : Int32) (o_ranSteps : Int32) (o_isTold : Int32) (o_marks : Int32) (o_at : Nat → Int32) : va_W := [(a_o, .inr (12, [.ref a_o_at, .ref a_o_names, .int o_status, .long o_top, .long o_bottom, .ref a_o_sort, .ref a_o_trayMany, .ref a_o_trays, .ref a_o_tape, .ref a_o_text, .int o_taped, .int o_size, .int o_token, .int o_from, .int o_end, .int o_value, .int o_faultKind, .int o_faultPlace, .int o_faults, .int o_seen, .int o_toldParts, .ref a_o_opened, .int o_depth, .int o_counted, .ref a_o_farBy, .int o_becameThen, .ref a_o_attendsBy, .ref a_o_coveredBy, .ref a_o_cameBy, .ref a_o_cameThen, .int o_firstCorner, .ref a_o_fallsBy, .int o_drawn, .int o_ranSteps, .ref a_o_loops, .ref a_o_ran, .ref a_o_told1, .int o_isTold, .int o_marks])), (a_o_at, .inl (E.2.1, 3097, .inl o_at))]
set_option maxHeartbeats 4000000 in
set_option maxRecDepth 100000 in
theorem ct_X12_holds (l : Launch) (E : vE) (a_o a_o_at a_o_names a_o_sort a_o_trayMany a_o_trays a_o_tape a_o_text a_o_opened a_o_farBy a_o_attendsBy a_o_coveredBy a_o_cameBy a_o_cameThen a_o_fallsBy a_o_loops a_o_ran a_o_told1 : Nat) (o_status : Int32) (o_top : Int64) (o_bottom : Int64) (o_taped : Int32) (o_size : Int32) (o_token : Int32) (o_from : Int32) (o_end : Int32) (o_value : Int32) (o_faultKind : Int32) (o_faultPlace : Int32) (o_faults : Int32) (o_seen : Int32) (o_toldParts : Int32) (o_depth : Int32) (o_counted : Int32) (o_becameThen : Int32) (o_firstCorner : Int32) (o_drawn : Int32) (o_ranSteps : Int32) (o_isTold : Int32) (o_marks : Int32) (o_at : Nat → Int32) (v1 : Int32) (u : Int32) (hf : X12_holds o_at v1 = some u) :
    CtI l yX12_holds cX12_holds 5 (some .boolean) 3 E [.ref a_o, .int v1] (wd_X12_holds E a_o a_o_at a_o_names a_o_sort a_o_trayMany a_o_trays a_o_tape a_o_text a_o_opened a_o_farBy a_o_attendsBy a_o_coveredBy a_o_cameBy a_o_cameThen a_o_fallsBy a_o_loops a_o_ran a_o_told1 o_status o_top o_bottom o_taped o_size o_token o_from o_end o_value o_faultKind o_faultPlace o_faults o_seen o_toldParts o_depth o_counted o_becameThen o_firstCorner o_drawn o_ranSteps o_isTold o_marks o_at) (wd_X12_holds E a_o a_o_at a_o_names a_o_sort a_o_trayMany a_o_trays a_o_tape a_o_text a_o_opened a_o_farBy a_o_attendsBy a_o_coveredBy a_o_cameBy a_o_cameThen a_o_fallsBy a_o_loops a_o_ran a_o_told1 o_status o_top o_bottom o_taped o_size o_token o_from o_end o_value o_faultKind o_faultPlace o_faults o_seen o_toldParts o_depth o_counted o_becameThen o_firstCorner o_drawn o_ranSteps o_isTold o_marks o_at) u := by
  refine ctI (by decide) (Nat.le_of_ble_eq_true rfl) ?_
  intro p e s m below meth cd A ls aa QQ hq cx hP hD hS hl
  obtain ⟨⟨hx, hb, hml, hown, hts⟩, hr, hlocks, hK, hA, hX⟩ := id cx
  have hl : lv_has ls 5 [(0, .ref a_o), (1, .int v1)] := hl
  unfold X12_holds at hf
  refine lv_aload_n hx hb dX12_holds_0 rfl (lv_at hl 0 rfl) ?_
  refine va_get (D := E.1) (ci := 12) (v := .ref a_o_at) (C := RX12) (T := TX12) (N := 39) hx hb hts inX12 hown hK hP 0 rfl rfl 0 (by decide) (hts _ fl_X12_7) (fun _ h9 => h9) rfl dX12_holds_1 ?_
  refine lv_iload_n hx hb dX12_holds_4 rfl (lv_at hl 1 rfl) ?_
  obtain ⟨hi, hf⟩ := ck hf
  refine r_iald 1 cx hP rfl hi dX12_holds_5 ?_
  refine lv_sipush (v := 1700) hx hb dX12_holds_6 (by decide) ?_
  refine lv_isub hx hb dX12_holds_9 ?_
  refine lv_istore_n (lv' := [(2, .int ((jat o_at v1) - 1700)), (0, .ref a_o), (1, .int v1)]) hx hb dX12_holds_10 rfl hl (by decide) rfl (fun ls hl => ?_)
  refine lv_aload_n hx hb dX12_holds_11 rfl (lv_at hl 1 rfl) ?_
  refine va_get (D := E.1) (ci := 12) (v := .ref a_o_at) (C := RX12) (T := TX12) (N := 39) hx hb hts inX12 hown hK hP 0 rfl rfl 0 (by decide) (hts _ fl_X12_7) (fun _ h9 => h9) rfl dX12_holds_12 ?_
  refine lv_iload_n hx hb dX12_holds_15 rfl (lv_at hl 2 rfl) ?_
  refine lv_iconst (v := 1) hx hb dX12_holds_16 (by decide) ?_
  refine lv_iadd hx hb dX12_holds_17 ?_
  obtain ⟨hi, hf⟩ := ck hf
  refine r_iald 1 cx hP rfl hi dX12_holds_18 ?_
  refine lv_istore_n (lv' := [(3, .int (jat o_at (v1 + 1))), (2, .int ((jat o_at v1) - 1700)), (0, .ref a_o), (1, .int v1)]) hx hb dX12_holds_19 rfl hl (by decide) rfl (fun ls hl => ?_)
  refine lv_iload_n hx hb dX12_holds_20 rfl (lv_at hl 1 rfl) ?_
  refine lv_bipush (v := 21) hx hb dX12_holds_21 (by decide) ?_
  refine lv_icmp_ne (tgt := 49) hx hb dX12_holds_23 (by decide) (fun hc => ?_) (fun hc => ?_)
  · have hf := it_f hc hf
    refine lv_iload_n hx hb dX12_holds_49 rfl (lv_at hl 1 rfl) ?_
    refine lv_bipush (v := 22) hx hb dX12_holds_50 (by decide) ?_
    refine lv_icmp_ne (tgt := 78) hx hb dX12_holds_52 (by decide) (fun hc => ?_) (fun hc => ?_)
    · have hf := it_f hc hf
      refine lv_iload_n hx hb dX12_holds_78 rfl (lv_at hl 1 rfl) ?_
      refine lv_bipush (v := 23) hx hb dX12_holds_79 (by decide) ?_
      refine lv_icmp_ne (tgt := 98) hx hb dX12_holds_81 (by decide) (fun hc => ?_) (fun hc => ?_)
      · have hf := it_f hc hf
        refine lv_aload_n hx hb dX12_holds_98 rfl (lv_at hl 2 rfl) ?_
        refine lv_iload_n hx hb dX12_holds_99 rfl (lv_at hl 0 rfl) ?_
        refine lv_iconst (v := 2) hx hb dX12_holds_100 (by decide) ?_
        obtain ⟨u101, hu101, hf⟩ := bd hf
        refine keepVI (ct_X12_watcherOf l E a_o a_o_at a_o_names a_o_sort a_o_trayMany a_o_trays a_o_tape a_o_text a_o_opened a_o_farBy a_o_attendsBy a_o_coveredBy a_o_cameBy a_o_cameThen a_o_fallsBy a_o_loops a_o_ran a_o_told1 o_status o_top o_bottom o_taped o_size o_token o_from o_end o_value o_faultKind o_faultPlace o_faults o_seen o_toldParts o_depth o_counted o_becameThen o_firstCorner o_drawn o_ranSteps o_isTold o_marks o_at (jat o_at (v1 + 1)) (2 : Int32) u101 hu101) [0, 1] cal_X12_watcherOf cav_X12_watcherOf lk_X12_308 cx hP hD hS hl dX12_holds_101 rfl rfl rfl rfl (Nat.le_of_ble_eq_true rfl) ⟨Nat.le_of_ble_eq_true rfl, Nat.le_of_ble_eq_true rfl⟩ rfl (by decide) (fun H locs hP hS => ?_)
        refine lv_istore (lv' := [(4, .int u101), (3, .int (jat o_at (v1 + 1))), (2, .int ((jat o_at v1) - 1700)), (0, .ref a_o), (1, .int v1)]) hx hb dX12_holds_104 hl (by decide) rfl (fun ls hl => ?_)
        refine lv_aload_n hx hb dX12_holds_106 rfl (lv_at hl 3 rfl) ?_
        refine va_get (D := E.1) (ci := 12) (v := .ref a_o_at) (C := RX12) (T := TX12) (N := 39) hx hb hts inX12 hown hK hP 0 rfl rfl 0 (by decide) (hts _ fl_X12_7) (fun _ h9 => h9) rfl dX12_holds_107 ?_
        refine lv_iload_n hx hb dX12_holds_110 rfl (lv_at hl 4 rfl) ?_
        refine lv_iconst (v := 5) hx hb dX12_holds_111 (by decide) ?_
        refine lv_iadd hx hb dX12_holds_112 ?_
        obtain ⟨hi, hf⟩ := ck hf
        refine r_iald 1 cx hP rfl hi dX12_holds_113 ?_
        refine lv_bipush (v := 60) hx hb dX12_holds_114 (by decide) ?_
        refine lv_icmp_ne (tgt := 140) hx hb dX12_holds_116 (by decide) (fun hc => ?_) (fun hc => ?_)
        · have hf := it_f hc hf
          refine lv_aload_n hx hb dX12_holds_140 rfl (lv_at hl 3 rfl) ?_
          refine va_get (D := E.1) (ci := 12) (v := .ref a_o_at) (C := RX12) (T := TX12) (N := 39) hx hb hts inX12 hown hK hP 0 rfl rfl 0 (by decide) (hts _ fl_X12_7) (fun _ h9 => h9) rfl dX12_holds_141 ?_
          refine lv_iload_n hx hb dX12_holds_144 rfl (lv_at hl 4 rfl) ?_
          refine lv_iconst (v := 5) hx hb dX12_holds_145 (by decide) ?_
          refine lv_iadd hx hb dX12_holds_146 ?_
          obtain ⟨hi, hf⟩ := ck hf
          refine r_iald 1 cx hP rfl hi dX12_holds_147 ?_
          refine lv_bipush (v := 62) hx hb dX12_holds_148 (by decide) ?_
          refine lv_icmp_ne (tgt := 174) hx hb dX12_holds_150 (by decide) (fun hc => ?_) (fun hc => ?_)
          · have hf := it_f hc hf
            refine lv_iload hx hb dX12_holds_174 (lv_at hl 0 rfl) ?_
            refine lv_aload_n hx hb dX12_holds_176 rfl (lv_at hl 3 rfl) ?_
            refine va_get (D := E.1) (ci := 12) (v := .ref a_o_at) (C := RX12) (T := TX12) (N := 39) hx hb hts inX12 hown hK hP 0 rfl rfl 0 (by decide) (hts _ fl_X12_7) (fun _ h9 => h9) rfl dX12_holds_177 ?_
            refine lv_iload_n hx hb dX12_holds_180 rfl (lv_at hl 4 rfl) ?_
            refine lv_iconst (v := 2) hx hb dX12_holds_181 (by decide) ?_
            refine lv_iadd hx hb dX12_holds_182 ?_
            obtain ⟨hi, hf⟩ := ck hf
            refine r_iald 1 cx hP rfl hi dX12_holds_183 ?_
            refine lv_icmp_ne (tgt := 191) hx hb dX12_holds_184 (by decide) (fun hc => ?_) (fun hc => ?_)
            · have hf := it_f hc hf
              refine lv_iconst (v := 0) hx hb dX12_holds_191 (by decide) ?_
              obtain rfl := Option.some.inj hf
              subst hq
              exact retZ cx rfl hP hD hS dX12_holds_192
            · have hf := it_t hc hf
              refine lv_iconst (v := 1) hx hb dX12_holds_187 (by decide) ?_
              refine lv_goto (tgt := 192) hx hb dX12_holds_188 (by decide) ?_
              obtain rfl := Option.some.inj hf
              subst hq
              exact retZ cx rfl hP hD hS dX12_holds_192
          · have hf := it_t hc hf
            refine lv_iload hx hb dX12_holds_153 (lv_at hl 0 rfl) ?_
            refine lv_aload_n hx hb dX12_holds_155 rfl (lv_at hl 3 rfl) ?_
            refine va_get (D := E.1) (ci := 12) (v := .ref a_o_at) (C := RX12) (T := TX12) (N := 39) hx hb hts inX12 hown hK hP 0 rfl rfl 0 (by decide) (hts _ fl_X12_7) (fun _ h9 => h9) rfl dX12_holds_156 ?_
            refine lv_iload_n hx hb dX12_holds_159 rfl (lv_at hl 4 rfl) ?_
            refine lv_iconst (v := 2) hx hb dX12_holds_160 (by decide) ?_
            refine lv_iadd hx hb dX12_holds_161 ?_
            obtain ⟨hi, hf⟩ := ck hf
            refine r_iald 1 cx hP rfl hi dX12_holds_162 ?_
            refine lv_icmp_le (tgt := 170) hx hb dX12_holds_163 (by decide) (fun hc => ?_) (fun hc => ?_)
            · have hf := it_t hc hf
              refine lv_iconst (v := 0) hx hb dX12_holds_170 (by decide) ?_
              refine lv_goto (tgt := 192) hx hb dX12_holds_171 (by decide) ?_
              obtain rfl := Option.some.inj hf
              subst hq
              exact retZ cx rfl hP hD hS dX12_holds_192
            · have hf := it_f hc hf
              refine lv_iconst (v := 1) hx hb dX12_holds_166 (by decide) ?_
              refine lv_goto (tgt := 192) hx hb dX12_holds_167 (by decide) ?_
              obtain rfl := Option.some.inj hf
              subst hq
              exact retZ cx rfl hP hD hS dX12_holds_192
        · have hf := it_t hc hf
          refine lv_iload hx hb dX12_holds_119 (lv_at hl 0 rfl) ?_
          refine lv_aload_n hx hb dX12_holds_121 rfl (lv_at hl 3 rfl) ?_
          refine va_get (D := E.1) (ci := 12) (v := .ref a_o_at) (C := RX12) (T := TX12) (N := 39) hx hb hts inX12 hown hK hP 0 rfl rfl 0 (by decide) (hts _ fl_X12_7) (fun _ h9 => h9) rfl dX12_holds_122 ?_
          refine lv_iload_n hx hb dX12_holds_125 rfl (lv_at hl 4 rfl) ?_
          refine lv_iconst (v := 2) hx hb dX12_holds_126 (by decide) ?_
          refine lv_iadd hx hb dX12_holds_127 ?_
          obtain ⟨hi, hf⟩ := ck hf
          refine r_iald 1 cx hP rfl hi dX12_holds_128 ?_
          refine lv_icmp_ge (tgt := 136) hx hb dX12_holds_129 (by decide) (fun hc => ?_) (fun hc => ?_)
          · have hf := it_t hc hf
            refine lv_iconst (v := 0) hx hb dX12_holds_136 (by decide) ?_
            refine lv_goto (tgt := 192) hx hb dX12_holds_137 (by decide) ?_
            obtain rfl := Option.some.inj hf
            subst hq
            exact retZ cx rfl hP hD hS dX12_holds_192
          · have hf := it_f hc hf
            refine lv_iconst (v := 1) hx hb dX12_holds_132 (by decide) ?_
            refine lv_goto (tgt := 192) hx hb dX12_holds_133 (by decide) ?_
            obtain rfl := Option.some.inj hf
            subst hq
            exact retZ cx rfl hP hD hS dX12_holds_192
      · have hf := it_t hc hf
        refine lv_aload_n hx hb dX12_holds_84 rfl (lv_at hl 2 rfl) ?_
        refine lv_iload_n hx hb dX12_holds_85 rfl (lv_at hl 0 rfl) ?_
        obtain ⟨u86, hu86, hf⟩ := bd hf
        refine keepVI (ct_X12_isToCome l E a_o a_o_at a_o_names a_o_sort a_o_trayMany a_o_trays a_o_tape a_o_text a_o_opened a_o_farBy a_o_attendsBy a_o_coveredBy a_o_cameBy a_o_cameThen a_o_fallsBy a_o_loops a_o_ran a_o_told1 o_status o_top o_bottom o_taped o_size o_token o_from o_end o_value o_faultKind o_faultPlace o_faults o_seen o_toldParts o_depth o_counted o_becameThen o_firstCorner o_drawn o_ranSteps o_isTold o_marks o_at (jat o_at (v1 + 1)) u86 hu86) [0, 1] cal_X12_isToCome cav_X12_isToCome lk_X12_333 cx hP hD hS hl dX12_holds_86 rfl rfl rfl rfl (Nat.le_of_ble_eq_true rfl) ⟨Nat.le_of_ble_eq_true rfl, Nat.le_of_ble_eq_true rfl⟩ rfl (by decide) (fun H locs hP hS => ?_)
        refine lv_if_ne (tgt := 96) hx hb dX12_holds_89 (by decide) (fun hc => ?_) (fun hc => ?_)
        · have hf := it_f hc hf
          refine lv_iconst (v := 0) hx hb dX12_holds_96 (by decide) ?_
          obtain rfl := Option.some.inj hf
          subst hq
          exact retZ cx rfl hP hD hS dX12_holds_97
        · have hf := it_t hc hf
          refine lv_iconst (v := 1) hx hb dX12_holds_92 (by decide) ?_
          refine lv_goto (tgt := 97) hx hb dX12_holds_93 (by decide) ?_
          obtain rfl := Option.some.inj hf
          subst hq
          exact retZ cx rfl hP hD hS dX12_holds_97
    · have hf := it_t hc hf
      refine lv_aload_n hx hb dX12_holds_55 rfl (lv_at hl 2 rfl) ?_
      refine lv_iload_n hx hb dX12_holds_56 rfl (lv_at hl 0 rfl) ?_
      refine lv_iconst (v := 0) hx hb dX12_holds_57 (by decide) ?_
      obtain ⟨u58, hu58, hf⟩ := bd hf
      refine keepVI (ct_X12_extraOf l E a_o a_o_at a_o_names a_o_sort a_o_trayMany a_o_trays a_o_tape a_o_text a_o_opened a_o_farBy a_o_attendsBy a_o_coveredBy a_o_cameBy a_o_cameThen a_o_fallsBy a_o_loops a_o_ran a_o_told1 o_status o_top o_bottom o_taped o_size o_token o_from o_end o_value o_faultKind o_faultPlace o_faults o_seen o_toldParts o_depth o_counted o_becameThen o_firstCorner o_drawn o_ranSteps o_isTold o_marks o_at (jat o_at (v1 + 1)) (0 : Int32) u58 hu58) [0, 1] cal_X12_extraOf cav_X12_extraOf lk_X12_275 cx hP hD hS hl dX12_holds_58 rfl rfl rfl rfl (Nat.le_of_ble_eq_true rfl) ⟨Nat.le_of_ble_eq_true rfl, Nat.le_of_ble_eq_true rfl⟩ rfl (by decide) (fun H locs hP hS => ?_)
      refine lv_aload_n hx hb dX12_holds_61 rfl (lv_at hl 2 rfl) ?_
      refine va_get (D := E.1) (ci := 12) (v := .ref a_o_at) (C := RX12) (T := TX12) (N := 39) hx hb hts inX12 hown hK hP 0 rfl rfl 0 (by decide) (hts _ fl_X12_7) (fun _ h9 => h9) rfl dX12_holds_62 ?_
      refine lv_iload_n hx hb dX12_holds_65 rfl (lv_at hl 3 rfl) ?_
      refine lv_iconst (v := 2) hx hb dX12_holds_66 (by decide) ?_
      refine lv_iadd hx hb dX12_holds_67 ?_
      obtain ⟨hi, hf⟩ := ck hf
      refine r_iald 1 cx hP rfl hi dX12_holds_68 ?_
      refine lv_icmp_ne (tgt := 76) hx hb dX12_holds_69 (by decide) (fun hc => ?_) (fun hc => ?_)
      · have hf := it_f hc hf
        refine lv_iconst (v := 0) hx hb dX12_holds_76 (by decide) ?_
        obtain rfl := Option.some.inj hf
        subst hq
        exact retZ cx rfl hP hD hS dX12_holds_77
      · have hf := it_t hc hf
        refine lv_iconst (v := 1) hx hb dX12_holds_72 (by decide) ?_
        refine lv_goto (tgt := 77) hx hb dX12_holds_73 (by decide) ?_
        obtain rfl := Option.some.inj hf
        subst hq
        exact retZ cx rfl hP hD hS dX12_holds_77
  · have hf := it_t hc hf
    refine lv_aload_n hx hb dX12_holds_26 rfl (lv_at hl 2 rfl) ?_
    refine lv_iload_n hx hb dX12_holds_27 rfl (lv_at hl 0 rfl) ?_
    refine lv_iconst (v := 3) hx hb dX12_holds_28 (by decide) ?_
    obtain ⟨u29, hu29, hf⟩ := bd hf
    refine keepVI (ct_X12_happeningOf l E a_o a_o_at a_o_names a_o_sort a_o_trayMany a_o_trays a_o_tape a_o_text a_o_opened a_o_farBy a_o_attendsBy a_o_coveredBy a_o_cameBy a_o_cameThen a_o_fallsBy a_o_loops a_o_ran a_o_told1 o_status o_top o_bottom o_taped o_size o_token o_from o_end o_value o_faultKind o_faultPlace o_faults o_seen o_toldParts o_depth o_counted o_becameThen o_firstCorner o_drawn o_ranSteps o_isTold o_marks o_at (jat o_at (v1 + 1)) (3 : Int32) u29 hu29) [0, 1] cal_X12_happeningOf cav_X12_happeningOf lk_X12_278 cx hP hD hS hl dX12_holds_29 rfl rfl rfl rfl (Nat.le_of_ble_eq_true rfl) ⟨Nat.le_of_ble_eq_true rfl, Nat.le_of_ble_eq_true rfl⟩ rfl (by decide) (fun H locs hP hS => ?_)
    refine lv_aload_n hx hb dX12_holds_32 rfl (lv_at hl 2 rfl) ?_
    refine va_get (D := E.1) (ci := 12) (v := .ref a_o_at) (C := RX12) (T := TX12) (N := 39) hx hb hts inX12 hown hK hP 0 rfl rfl 0 (by decide) (hts _ fl_X12_7) (fun _ h9 => h9) rfl dX12_holds_33 ?_
    refine lv_iload_n hx hb dX12_holds_36 rfl (lv_at hl 3 rfl) ?_
    refine lv_iconst (v := 2) hx hb dX12_holds_37 (by decide) ?_
    refine lv_iadd hx hb dX12_holds_38 ?_
    obtain ⟨hi, hf⟩ := ck hf
    refine r_iald 1 cx hP rfl hi dX12_holds_39 ?_
    refine lv_icmp_ne (tgt := 47) hx hb dX12_holds_40 (by decide) (fun hc => ?_) (fun hc => ?_)
    · have hf := it_f hc hf
      refine lv_iconst (v := 0) hx hb dX12_holds_47 (by decide) ?_
      obtain rfl := Option.some.inj hf
      subst hq
      exact retZ cx rfl hP hD hS dX12_holds_48
    · have hf := it_t hc hf
      refine lv_iconst (v := 1) hx hb dX12_holds_43 (by decide) ?_
      refine lv_goto (tgt := 48) hx hb dX12_holds_44 (by decide) ?_
      obtain rfl := Option.some.inj hf
      subst hq
      exact retZ cx rfl hP hD hS dX12_holds_48
def X12_behindEnds_j111 (F : Nat) (o_at : Nat → Int32) (o_loops : Nat → Int32) (k0 : Int32) : Option ((Int32 × (Nat → Int32)) ⊕ ((Int32 × (Nat → Int32)))) :=
  some (.inl (k0, o_loops))
def X12_behindEnds_j95 (F : Nat) (o_at : Nat → Int32) (o_loops : Nat → Int32) (v2 : Int32) (v3 : Int32) (v4 : Int32) (k0 : Int32) (k1 : Int32) (k2 : Int32) : Option ((Int32 × (Nat → Int32)) ⊕ ((Int32 × (Nat → Int32)))) :=
  if ix k2 80 then
  if v4 = 0 then
  X12_behindEnds_j111 F o_at (jput o_loops k2 (k1 - k0)) (v2 + 1)
  else
  X12_behindEnds_j111 F o_at (jput o_loops k2 (k1 - k0)) (v3 + 1)
  else none
def X12_behindEnds_j76 (F : Nat) (o_at : Nat → Int32) (o_loops : Nat → Int32) (v2 : Int32) (v3 : Int32) (k0 : Int32) : Option ((Int32 × (Nat → Int32)) ⊕ ((Int32 × (Nat → Int32)))) :=
  if ix v3 80 then
  if k0 = 0 then
  X12_behindEnds_j95 F o_at o_loops v2 v3 k0 0 (jat o_loops v3) v3
  else
  X12_behindEnds_j95 F o_at o_loops v2 v3 k0 1 (jat o_loops v3) v3
  else none
def X12_behindEnds_j75 (F : Nat) (o_at : Nat → Int32) (o_loops : Nat → Int32) (v2 : Int32) (v3 : Int32) : Option ((Int32 × (Nat → Int32)) ⊕ ((Int32 × (Nat → Int32)))) :=
  X12_behindEnds_j76 F o_at o_loops v2 v3 0
def X12_behindEnds_b2 (F : Nat) (o_at : Nat → Int32) (st2 : Int32 × (Nat → Int32)) : Option ((Int32 × (Nat → Int32)) ⊕ ((Int32 × (Nat → Int32)))) :=
  if ix 9 3097 then
  if (jat o_at 9) ≤ st2.1 then
  some (.inr (st2.1, st2.2))
  else
  if ix (127 + (6 * st2.1)) 3097 then
  if (jat o_at (127 + (6 * st2.1))) = 19 then
  if ix ((127 + (6 * st2.1)) + 4) 3097 then
  if ix (127 + (6 * (jat o_at ((127 + (6 * st2.1)) + 4)))) 3097 then
  if (jat o_at (127 + (6 * (jat o_at ((127 + (6 * st2.1)) + 4))))) = 18 then
  if ix (jat o_at ((127 + (6 * st2.1)) + 4)) 80 then
  if (jat st2.2 (jat o_at ((127 + (6 * st2.1)) + 4))) ≤ 0 then
  X12_behindEnds_j75 F o_at st2.2 st2.1 (jat o_at ((127 + (6 * st2.1)) + 4))
  else
  X12_behindEnds_j76 F o_at st2.2 st2.1 (jat o_at ((127 + (6 * st2.1)) + 4)) 1
  else none
  else
  X12_behindEnds_j75 F o_at st2.2 st2.1 (jat o_at ((127 + (6 * st2.1)) + 4))
  else none
  else none
  else
  some (.inr (st2.1, st2.2))
  else none
  else none
def X12_behindEnds (F : Nat) (o_at : Nat → Int32) (o_loops : Nat → Int32) (v1 : Int32) : Option (Int32 × (Nat → Int32)) :=
  (iter (X12_behindEnds_b2 F o_at) F (v1, o_loops)).bind (fun (e2 : Int32 × (Nat → Int32)) =>
    some (e2.1, e2.2))
abbrev wd_X12_behindEnds (E : vE) (a_o a_o_at a_o_names a_o_sort a_o_trayMany a_o_trays a_o_tape a_o_text a_o_opened a_o_farBy a_o_attendsBy a_o_coveredBy a_o_cameBy a_o_cameThen a_o_fallsBy a_o_loops a_o_ran a_o_told1 : Nat) (o_status : Int32) (o_top : Int64) (o_bottom : Int64) (o_taped : Int32) (o_size : Int32) (o_token : Int32) (o_from : Int32) (o_end : Int32) (o_value : Int32) (o_faultKind : Int32) (o_faultPlace : Int32) (o_faults : Int32) (o_seen : Int32) (o_toldParts : Int32) (o_depth : Int32) (o_counted : Int32) (o_becameThen : Int32) (o_firstCorner : Int32) (o_drawn : Int32) (o_ranSteps : Int32) (o_isTold : Int32) (o_marks : Int32) (o_at : Nat → Int32) (o_loops : Nat → Int32) : va_W := [(a_o, .inr (12, [.ref a_o_at, .ref a_o_names, .int o_status, .long o_top, .long o_bottom, .ref a_o_sort, .ref a_o_trayMany, .ref a_o_trays, .ref a_o_tape, .ref a_o_text, .int o_taped, .int o_size, .int o_token, .int o_from, .int o_end, .int o_value, .int o_faultKind, .int o_faultPlace, .int o_faults, .int o_seen, .int o_toldParts, .ref a_o_opened, .int o_depth, .int o_counted, .ref a_o_farBy, .int o_becameThen, .ref a_o_attendsBy, .ref a_o_coveredBy, .ref a_o_cameBy, .ref a_o_cameThen, .int o_firstCorner, .ref a_o_fallsBy, .int o_drawn, .int o_ranSteps, .ref a_o_loops, .ref a_o_ran, .ref a_o_told1, .int o_isTold, .int o_marks])), (a_o_at, .inl (E.2.1, 3097, .inl o_at)), (a_o_loops, .inl (E.2.1, 80, .inl o_loops))]
set_option maxHeartbeats 4000000 in
set_option maxRecDepth 100000 in
theorem ct_X12_behindEnds (l : Launch) (E : vE) (F : Nat) (a_o a_o_at a_o_names a_o_sort a_o_trayMany a_o_trays a_o_tape a_o_text a_o_opened a_o_farBy a_o_attendsBy a_o_coveredBy a_o_cameBy a_o_cameThen a_o_fallsBy a_o_loops a_o_ran a_o_told1 : Nat) (o_status : Int32) (o_top : Int64) (o_bottom : Int64) (o_taped : Int32) (o_size : Int32) (o_token : Int32) (o_from : Int32) (o_end : Int32) (o_value : Int32) (o_faultKind : Int32) (o_faultPlace : Int32) (o_faults : Int32) (o_seen : Int32) (o_toldParts : Int32) (o_depth : Int32) (o_counted : Int32) (o_becameThen : Int32) (o_firstCorner : Int32) (o_drawn : Int32) (o_ranSteps : Int32) (o_isTold : Int32) (o_marks : Int32) (o_at : Nat → Int32) (o_loops : Nat → Int32) (v1 : Int32) (u : Int32 × (Nat → Int32)) (hf : X12_behindEnds F o_at o_loops v1 = some u) :
    CtI l yX12_behindEnds cX12_behindEnds 5 (some .int) 0 E [.ref a_o, .int v1] (wd_X12_behindEnds E a_o a_o_at a_o_names a_o_sort a_o_trayMany a_o_trays a_o_tape a_o_text a_o_opened a_o_farBy a_o_attendsBy a_o_coveredBy a_o_cameBy a_o_cameThen a_o_fallsBy a_o_loops a_o_ran a_o_told1 o_status o_top o_bottom o_taped o_size o_token o_from o_end o_value o_faultKind o_faultPlace o_faults o_seen o_toldParts o_depth o_counted o_becameThen o_firstCorner o_drawn o_ranSteps o_isTold o_marks o_at o_loops) (wd_X12_behindEnds E a_o a_o_at a_o_names a_o_sort a_o_trayMany a_o_trays a_o_tape a_o_text a_o_opened a_o_farBy a_o_attendsBy a_o_coveredBy a_o_cameBy a_o_cameThen a_o_fallsBy a_o_loops a_o_ran a_o_told1 o_status o_top o_bottom o_taped o_size o_token o_from o_end o_value o_faultKind o_faultPlace o_faults o_seen o_toldParts o_depth o_counted o_becameThen o_firstCorner o_drawn o_ranSteps o_isTold o_marks o_at u.2) u.1 := by
  refine ctI (by decide) (Nat.le_of_ble_eq_true rfl) ?_
  intro p e s m below meth cd A ls aa QQ hq cx hP hD hS hl
  obtain ⟨⟨hx, hb, hml, hown, hts⟩, hr, hlocks, hK, hA, hX⟩ := id cx
  have hl : lv_has ls 5 [(0, .ref a_o), (1, .int v1)] := hl
  unfold X12_behindEnds at hf
  refine lv_iload_n hx hb dX12_behindEnds_0 rfl (lv_at hl 1 rfl) ?_
  refine lv_istore_n (lv' := [(2, .int v1), (0, .ref a_o), (1, .int v1)]) hx hb dX12_behindEnds_1 rfl hl (by decide) rfl (fun ls hl => ?_)
  obtain ⟨e2, hit2, hf⟩ := bd hf
  refine iter_W (b := X12_behindEnds_b2 F o_at) (P := fun st2 => ∀ (H : Heap) (locs : List Loc) (ls : Array Slot), va_P E.1 vwCl (wd_X12_behindEnds E a_o a_o_at a_o_names a_o_sort a_o_trayMany a_o_trays a_o_tape a_o_text a_o_opened a_o_farBy a_o_attendsBy a_o_coveredBy a_o_cameBy a_o_cameThen a_o_fallsBy a_o_loops a_o_ran a_o_told1 o_status o_top o_bottom o_taped o_size o_token o_from o_end o_value o_faultKind o_faultPlace o_faults o_seen o_toldParts o_depth o_counted o_becameThen o_firstCorner o_drawn o_ranSteps o_isTold o_marks o_at st2.2) H → va_D A (wd_X12_behindEnds E a_o a_o_at a_o_names a_o_sort a_o_trayMany a_o_trays a_o_tape a_o_text a_o_opened a_o_farBy a_o_attendsBy a_o_coveredBy a_o_cameBy a_o_cameThen a_o_fallsBy a_o_loops a_o_ran a_o_told1 o_status o_top o_bottom o_taped o_size o_token o_from o_end o_value o_faultKind o_faultPlace o_faults o_seen o_toldParts o_depth o_counted o_becameThen o_firstCorner o_drawn o_ranSteps o_isTold o_marks o_at st2.2) → va_S A s.heap H locs → lv_has ls 5 [(0, .ref a_o), (2, .int st2.1)] → W p l e (rmd 0) s m aa below meth cd H locs 0 0 QQ (F0 m 2 ls [])) (G := (fun (e2 : Int32 × (Nat → Int32)) => ∀ (H : Heap) (locs : List Loc) (ls : Array Slot), va_P E.1 vwCl (wd_X12_behindEnds E a_o a_o_at a_o_names a_o_sort a_o_trayMany a_o_trays a_o_tape a_o_text a_o_opened a_o_farBy a_o_attendsBy a_o_coveredBy a_o_cameBy a_o_cameThen a_o_fallsBy a_o_loops a_o_ran a_o_told1 o_status o_top o_bottom o_taped o_size o_token o_from o_end o_value o_faultKind o_faultPlace o_faults o_seen o_toldParts o_depth o_counted o_becameThen o_firstCorner o_drawn o_ranSteps o_isTold o_marks o_at e2.2) H → va_D A (wd_X12_behindEnds E a_o a_o_at a_o_names a_o_sort a_o_trayMany a_o_trays a_o_tape a_o_text a_o_opened a_o_farBy a_o_attendsBy a_o_coveredBy a_o_cameBy a_o_cameThen a_o_fallsBy a_o_loops a_o_ran a_o_told1 o_status o_top o_bottom o_taped o_size o_token o_from o_end o_value o_faultKind o_faultPlace o_faults o_seen o_toldParts o_depth o_counted o_becameThen o_firstCorner o_drawn o_ranSteps o_isTold o_marks o_at e2.2) → va_S A s.heap H locs → lv_has ls 5 [(2, .int e2.1)] → W p l e (rmd 0) s m aa below meth cd H locs 0 0 QQ (F0 m 115 ls []))) ?_ F (v1, o_loops) e2 hit2 ?_ _ _ _ hP hD hS (lv_sub hl [1, 0] rfl)
  · intro st2 r2 hf hk2 he2 H locs ls hP hD hS hl
    have hj111 : ∀ (o_loops_j111 : Nat → Int32) (k0_j111 : Int32) (H : Heap) (locs : List Loc) (ls : Array Slot), X12_behindEnds_j111 F o_at o_loops_j111 k0_j111 = some r2 → va_P E.1 vwCl (wd_X12_behindEnds E a_o a_o_at a_o_names a_o_sort a_o_trayMany a_o_trays a_o_tape a_o_text a_o_opened a_o_farBy a_o_attendsBy a_o_coveredBy a_o_cameBy a_o_cameThen a_o_fallsBy a_o_loops a_o_ran a_o_told1 o_status o_top o_bottom o_taped o_size o_token o_from o_end o_value o_faultKind o_faultPlace o_faults o_seen o_toldParts o_depth o_counted o_becameThen o_firstCorner o_drawn o_ranSteps o_isTold o_marks o_at o_loops_j111) H → va_D A (wd_X12_behindEnds E a_o a_o_at a_o_names a_o_sort a_o_trayMany a_o_trays a_o_tape a_o_text a_o_opened a_o_farBy a_o_attendsBy a_o_coveredBy a_o_cameBy a_o_cameThen a_o_fallsBy a_o_loops a_o_ran a_o_told1 o_status o_top o_bottom o_taped o_size o_token o_from o_end o_value o_faultKind o_faultPlace o_faults o_seen o_toldParts o_depth o_counted o_becameThen o_firstCorner o_drawn o_ranSteps o_isTold o_marks o_at o_loops_j111) → va_S A s.heap H locs → lv_has ls 5 [(0, .ref a_o)] → W p l e (rmd 0) s m aa below meth cd H locs 0 0 QQ (F0 m 111 ls [.int k0_j111]) := by
      intro o_loops_j111 k0_j111 H locs ls hf hP hD hS hl
      unfold X12_behindEnds_j111 at hf
      refine lv_istore_n (lv' := [(2, .int k0_j111), (0, .ref a_o)]) hx hb dX12_behindEnds_111 rfl hl (by decide) rfl (fun ls hl => ?_)
      refine lv_goto (tgt := 2) hx hb dX12_behindEnds_112 (by decide) ?_
      exact hk2 _ (Option.some.inj hf).symm _ _ _ hP hD hS (lv_sub hl [1, 0] rfl)
    have hj95 : ∀ (v2_j95 : Int32) (v3_j95 : Int32) (v4_j95 : Int32) (o_loops_j95 : Nat → Int32) (k0_j95 : Int32) (k1_j95 : Int32) (k2_j95 : Int32) (H : Heap) (locs : List Loc) (ls : Array Slot), X12_behindEnds_j95 F o_at o_loops_j95 v2_j95 v3_j95 v4_j95 k0_j95 k1_j95 k2_j95 = some r2 → va_P E.1 vwCl (wd_X12_behindEnds E a_o a_o_at a_o_names a_o_sort a_o_trayMany a_o_trays a_o_tape a_o_text a_o_opened a_o_farBy a_o_attendsBy a_o_coveredBy a_o_cameBy a_o_cameThen a_o_fallsBy a_o_loops a_o_ran a_o_told1 o_status o_top o_bottom o_taped o_size o_token o_from o_end o_value o_faultKind o_faultPlace o_faults o_seen o_toldParts o_depth o_counted o_becameThen o_firstCorner o_drawn o_ranSteps o_isTold o_marks o_at o_loops_j95) H → va_D A (wd_X12_behindEnds E a_o a_o_at a_o_names a_o_sort a_o_trayMany a_o_trays a_o_tape a_o_text a_o_opened a_o_farBy a_o_attendsBy a_o_coveredBy a_o_cameBy a_o_cameThen a_o_fallsBy a_o_loops a_o_ran a_o_told1 o_status o_top o_bottom o_taped o_size o_token o_from o_end o_value o_faultKind o_faultPlace o_faults o_seen o_toldParts o_depth o_counted o_becameThen o_firstCorner o_drawn o_ranSteps o_isTold o_marks o_at o_loops_j95) → va_S A s.heap H locs → lv_has ls 5 [(0, .ref a_o), (2, .int v2_j95), (3, .int v3_j95), (4, .int v4_j95)] → W p l e (rmd 0) s m aa below meth cd H locs 0 0 QQ (F0 m 95 ls [.int k0_j95, .int k1_j95, .int k2_j95, .ref a_o_loops]) := by
      intro v2_j95 v3_j95 v4_j95 o_loops_j95 k0_j95 k1_j95 k2_j95 H locs ls hf hP hD hS hl
      unfold X12_behindEnds_j95 at hf
      refine lv_isub hx hb dX12_behindEnds_95 ?_
      obtain ⟨hi, hf⟩ := ck hf
      refine r_iast 2 cx hP hD hS rfl hi dX12_behindEnds_96 (fun H locs hP hD hS => ?_)
      have hP : va_P E.1 vwCl (wd_X12_behindEnds E a_o a_o_at a_o_names a_o_sort a_o_trayMany a_o_trays a_o_tape a_o_text a_o_opened a_o_farBy a_o_attendsBy a_o_coveredBy a_o_cameBy a_o_cameThen a_o_fallsBy a_o_loops a_o_ran a_o_told1 o_status o_top o_bottom o_taped o_size o_token o_from o_end o_value o_faultKind o_faultPlace o_faults o_seen o_toldParts o_depth o_counted o_becameThen o_firstCorner o_drawn o_ranSteps o_isTold o_marks o_at (jput o_loops_j95 k2_j95 (k1_j95 - k0_j95))) H := hP
      have hD : va_D A (wd_X12_behindEnds E a_o a_o_at a_o_names a_o_sort a_o_trayMany a_o_trays a_o_tape a_o_text a_o_opened a_o_farBy a_o_attendsBy a_o_coveredBy a_o_cameBy a_o_cameThen a_o_fallsBy a_o_loops a_o_ran a_o_told1 o_status o_top o_bottom o_taped o_size o_token o_from o_end o_value o_faultKind o_faultPlace o_faults o_seen o_toldParts o_depth o_counted o_becameThen o_firstCorner o_drawn o_ranSteps o_isTold o_marks o_at (jput o_loops_j95 k2_j95 (k1_j95 - k0_j95))) := hD
      refine lv_iload hx hb dX12_behindEnds_97 (lv_at hl 3 rfl) ?_
      refine lv_if_eq (tgt := 108) hx hb dX12_behindEnds_99 (by decide) (fun hc => ?_) (fun hc => ?_)
      · have hf := it_t hc hf
        refine lv_iload_n hx hb dX12_behindEnds_108 rfl (lv_at hl 1 rfl) ?_
        refine lv_iconst (v := 1) hx hb dX12_behindEnds_109 (by decide) ?_
        refine lv_iadd hx hb dX12_behindEnds_110 ?_
        exact hj111 _ _ _ _ _ hf hP hD hS (lv_sub hl [0] rfl)
      · have hf := it_f hc hf
        refine lv_iload_n hx hb dX12_behindEnds_102 rfl (lv_at hl 2 rfl) ?_
        refine lv_iconst (v := 1) hx hb dX12_behindEnds_103 (by decide) ?_
        refine lv_iadd hx hb dX12_behindEnds_104 ?_
        refine lv_goto (tgt := 111) hx hb dX12_behindEnds_105 (by decide) ?_
        exact hj111 _ _ _ _ _ hf hP hD hS (lv_sub hl [0] rfl)
    have hj76 : ∀ (v2_j76 : Int32) (v3_j76 : Int32) (o_loops_j76 : Nat → Int32) (k0_j76 : Int32) (H : Heap) (locs : List Loc) (ls : Array Slot), X12_behindEnds_j76 F o_at o_loops_j76 v2_j76 v3_j76 k0_j76 = some r2 → va_P E.1 vwCl (wd_X12_behindEnds E a_o a_o_at a_o_names a_o_sort a_o_trayMany a_o_trays a_o_tape a_o_text a_o_opened a_o_farBy a_o_attendsBy a_o_coveredBy a_o_cameBy a_o_cameThen a_o_fallsBy a_o_loops a_o_ran a_o_told1 o_status o_top o_bottom o_taped o_size o_token o_from o_end o_value o_faultKind o_faultPlace o_faults o_seen o_toldParts o_depth o_counted o_becameThen o_firstCorner o_drawn o_ranSteps o_isTold o_marks o_at o_loops_j76) H → va_D A (wd_X12_behindEnds E a_o a_o_at a_o_names a_o_sort a_o_trayMany a_o_trays a_o_tape a_o_text a_o_opened a_o_farBy a_o_attendsBy a_o_coveredBy a_o_cameBy a_o_cameThen a_o_fallsBy a_o_loops a_o_ran a_o_told1 o_status o_top o_bottom o_taped o_size o_token o_from o_end o_value o_faultKind o_faultPlace o_faults o_seen o_toldParts o_depth o_counted o_becameThen o_firstCorner o_drawn o_ranSteps o_isTold o_marks o_at o_loops_j76) → va_S A s.heap H locs → lv_has ls 5 [(0, .ref a_o), (2, .int v2_j76), (3, .int v3_j76)] → W p l e (rmd 0) s m aa below meth cd H locs 0 0 QQ (F0 m 76 ls [.int k0_j76]) := by
      intro v2_j76 v3_j76 o_loops_j76 k0_j76 H locs ls hf hP hD hS hl
      unfold X12_behindEnds_j76 at hf
      refine lv_istore (lv' := [(4, .int k0_j76), (0, .ref a_o), (2, .int v2_j76), (3, .int v3_j76)]) hx hb dX12_behindEnds_76 hl (by decide) rfl (fun ls hl => ?_)
      refine lv_aload_n hx hb dX12_behindEnds_78 rfl (lv_at hl 1 rfl) ?_
      refine va_get (D := E.1) (ci := 12) (v := .ref a_o_loops) (C := RX12) (T := TX12) (N := 39) hx hb hts inX12 hown hK hP 0 rfl rfl 34 (by decide) (hts _ fl_X12_66) (fun _ h9 => h9) rfl dX12_behindEnds_79 ?_
      refine lv_iload_n hx hb dX12_behindEnds_82 rfl (lv_at hl 3 rfl) ?_
      refine lv_dup2_11 hx hb dX12_behindEnds_83 rfl rfl ?_
      obtain ⟨hi, hf⟩ := ck hf
      refine r_iald 2 cx hP rfl hi dX12_behindEnds_84 ?_
      refine lv_iload hx hb dX12_behindEnds_85 (lv_at hl 0 rfl) ?_
      refine lv_if_eq (tgt := 94) hx hb dX12_behindEnds_87 (by decide) (fun hc => ?_) (fun hc => ?_)
      · have hf := it_t hc hf
        refine lv_iconst (v := 0) hx hb dX12_behindEnds_94 (by decide) ?_
        exact hj95 _ _ _ _ _ _ _ _ _ _ hf hP hD hS (lv_sub hl [1, 2, 3, 0] rfl)
      · have hf := it_f hc hf
        refine lv_iconst (v := 1) hx hb dX12_behindEnds_90 (by decide) ?_
        refine lv_goto (tgt := 95) hx hb dX12_behindEnds_91 (by decide) ?_
        exact hj95 _ _ _ _ _ _ _ _ _ _ hf hP hD hS (lv_sub hl [1, 2, 3, 0] rfl)
    have hj75 : ∀ (v2_j75 : Int32) (v3_j75 : Int32) (o_loops_j75 : Nat → Int32) (H : Heap) (locs : List Loc) (ls : Array Slot), X12_behindEnds_j75 F o_at o_loops_j75 v2_j75 v3_j75 = some r2 → va_P E.1 vwCl (wd_X12_behindEnds E a_o a_o_at a_o_names a_o_sort a_o_trayMany a_o_trays a_o_tape a_o_text a_o_opened a_o_farBy a_o_attendsBy a_o_coveredBy a_o_cameBy a_o_cameThen a_o_fallsBy a_o_loops a_o_ran a_o_told1 o_status o_top o_bottom o_taped o_size o_token o_from o_end o_value o_faultKind o_faultPlace o_faults o_seen o_toldParts o_depth o_counted o_becameThen o_firstCorner o_drawn o_ranSteps o_isTold o_marks o_at o_loops_j75) H → va_D A (wd_X12_behindEnds E a_o a_o_at a_o_names a_o_sort a_o_trayMany a_o_trays a_o_tape a_o_text a_o_opened a_o_farBy a_o_attendsBy a_o_coveredBy a_o_cameBy a_o_cameThen a_o_fallsBy a_o_loops a_o_ran a_o_told1 o_status o_top o_bottom o_taped o_size o_token o_from o_end o_value o_faultKind o_faultPlace o_faults o_seen o_toldParts o_depth o_counted o_becameThen o_firstCorner o_drawn o_ranSteps o_isTold o_marks o_at o_loops_j75) → va_S A s.heap H locs → lv_has ls 5 [(0, .ref a_o), (2, .int v2_j75), (3, .int v3_j75)] → W p l e (rmd 0) s m aa below meth cd H locs 0 0 QQ (F0 m 75 ls []) := by
      intro v2_j75 v3_j75 o_loops_j75 H locs ls hf hP hD hS hl
      unfold X12_behindEnds_j75 at hf
      refine lv_iconst (v := 0) hx hb dX12_behindEnds_75 (by decide) ?_
      exact hj76 _ _ _ _ _ _ _ hf hP hD hS (lv_sub hl [0, 1, 2] rfl)
    unfold X12_behindEnds_b2 at hf
    refine lv_iload_n hx hb dX12_behindEnds_2 rfl (lv_at hl 1 rfl) ?_
    refine lv_aload_n hx hb dX12_behindEnds_3 rfl (lv_at hl 0 rfl) ?_
    refine va_get (D := E.1) (ci := 12) (v := .ref a_o_at) (C := RX12) (T := TX12) (N := 39) hx hb hts inX12 hown hK hP 0 rfl rfl 0 (by decide) (hts _ fl_X12_7) (fun _ h9 => h9) rfl dX12_behindEnds_4 ?_
    refine lv_bipush (v := 9) hx hb dX12_behindEnds_7 (by decide) ?_
    obtain ⟨hi, hf⟩ := ck hf
    refine r_iald 1 cx hP rfl hi dX12_behindEnds_9 ?_
    refine lv_icmp_ge (tgt := 115) hx hb dX12_behindEnds_10 (by decide) (fun hc => ?_) (fun hc => ?_)
    · have hf := it_t hc hf
      exact he2 _ (Option.some.inj hf).symm _ _ _ hP hD hS (lv_sub hl [1] rfl)
    · have hf := it_f hc hf
      refine lv_aload_n hx hb dX12_behindEnds_13 rfl (lv_at hl 0 rfl) ?_
      refine va_get (D := E.1) (ci := 12) (v := .ref a_o_at) (C := RX12) (T := TX12) (N := 39) hx hb hts inX12 hown hK hP 0 rfl rfl 0 (by decide) (hts _ fl_X12_7) (fun _ h9 => h9) rfl dX12_behindEnds_14 ?_
      refine lv_bipush (v := 127) hx hb dX12_behindEnds_17 (by decide) ?_
      refine lv_bipush (v := 6) hx hb dX12_behindEnds_19 (by decide) ?_
      refine lv_iload_n hx hb dX12_behindEnds_21 rfl (lv_at hl 1 rfl) ?_
      refine lv_imul hx hb dX12_behindEnds_22 ?_
      refine lv_iadd hx hb dX12_behindEnds_23 ?_
      obtain ⟨hi, hf⟩ := ck hf
      refine r_iald 1 cx hP rfl hi dX12_behindEnds_24 ?_
      refine lv_bipush (v := 19) hx hb dX12_behindEnds_25 (by decide) ?_
      refine lv_icmp_ne (tgt := 115) hx hb dX12_behindEnds_27 (by decide) (fun hc => ?_) (fun hc => ?_)
      · have hf := it_f hc hf
        exact he2 _ (Option.some.inj hf).symm _ _ _ hP hD hS (lv_sub hl [1] rfl)
      · have hf := it_t hc hf
        refine lv_aload_n hx hb dX12_behindEnds_30 rfl (lv_at hl 0 rfl) ?_
        refine va_get (D := E.1) (ci := 12) (v := .ref a_o_at) (C := RX12) (T := TX12) (N := 39) hx hb hts inX12 hown hK hP 0 rfl rfl 0 (by decide) (hts _ fl_X12_7) (fun _ h9 => h9) rfl dX12_behindEnds_31 ?_
        refine lv_bipush (v := 127) hx hb dX12_behindEnds_34 (by decide) ?_
        refine lv_bipush (v := 6) hx hb dX12_behindEnds_36 (by decide) ?_
        refine lv_iload_n hx hb dX12_behindEnds_38 rfl (lv_at hl 1 rfl) ?_
        refine lv_imul hx hb dX12_behindEnds_39 ?_
        refine lv_iadd hx hb dX12_behindEnds_40 ?_
        refine lv_iconst (v := 4) hx hb dX12_behindEnds_41 (by decide) ?_
        refine lv_iadd hx hb dX12_behindEnds_42 ?_
        obtain ⟨hi, hf⟩ := ck hf
        refine r_iald 1 cx hP rfl hi dX12_behindEnds_43 ?_
        refine lv_istore_n (lv' := [(3, .int (jat o_at ((127 + (6 * st2.1)) + 4))), (0, .ref a_o), (2, .int st2.1)]) hx hb dX12_behindEnds_44 rfl hl (by decide) rfl (fun ls hl => ?_)
        refine lv_aload_n hx hb dX12_behindEnds_45 rfl (lv_at hl 1 rfl) ?_
        refine va_get (D := E.1) (ci := 12) (v := .ref a_o_at) (C := RX12) (T := TX12) (N := 39) hx hb hts inX12 hown hK hP 0 rfl rfl 0 (by decide) (hts _ fl_X12_7) (fun _ h9 => h9) rfl dX12_behindEnds_46 ?_
        refine lv_bipush (v := 127) hx hb dX12_behindEnds_49 (by decide) ?_
        refine lv_bipush (v := 6) hx hb dX12_behindEnds_51 (by decide) ?_
        refine lv_iload_n hx hb dX12_behindEnds_53 rfl (lv_at hl 0 rfl) ?_
        refine lv_imul hx hb dX12_behindEnds_54 ?_
        refine lv_iadd hx hb dX12_behindEnds_55 ?_
        obtain ⟨hi, hf⟩ := ck hf
        refine r_iald 1 cx hP rfl hi dX12_behindEnds_56 ?_
        refine lv_bipush (v := 18) hx hb dX12_behindEnds_57 (by decide) ?_
        refine lv_icmp_ne (tgt := 75) hx hb dX12_behindEnds_59 (by decide) (fun hc => ?_) (fun hc => ?_)
        · have hf := it_f hc hf
          exact hj75 _ _ _ _ _ _ hf hP hD hS (lv_sub hl [1, 2, 0] rfl)
        · have hf := it_t hc hf
          refine lv_aload_n hx hb dX12_behindEnds_62 rfl (lv_at hl 1 rfl) ?_
          refine va_get (D := E.1) (ci := 12) (v := .ref a_o_loops) (C := RX12) (T := TX12) (N := 39) hx hb hts inX12 hown hK hP 0 rfl rfl 34 (by decide) (hts _ fl_X12_66) (fun _ h9 => h9) rfl dX12_behindEnds_63 ?_
          refine lv_iload_n hx hb dX12_behindEnds_66 rfl (lv_at hl 0 rfl) ?_
          obtain ⟨hi, hf⟩ := ck hf
          refine r_iald 2 cx hP rfl hi dX12_behindEnds_67 ?_
          refine lv_if_le (tgt := 75) hx hb dX12_behindEnds_68 (by decide) (fun hc => ?_) (fun hc => ?_)
          · have hf := it_t hc hf
            exact hj75 _ _ _ _ _ _ hf hP hD hS (lv_sub hl [1, 2, 0] rfl)
          · have hf := it_f hc hf
            refine lv_iconst (v := 1) hx hb dX12_behindEnds_71 (by decide) ?_
            refine lv_goto (tgt := 76) hx hb dX12_behindEnds_72 (by decide) ?_
            exact hj76 _ _ _ _ _ _ _ hf hP hD hS (lv_sub hl [1, 2, 0] rfl)
  · refine fun H locs ls hP hD hS hl => ?_
    refine lv_iload_n hx hb dX12_behindEnds_115 rfl (lv_at hl 0 rfl) ?_
    obtain rfl := Option.some.inj hf
    subst hq
    exact retI cx hP hD hS dX12_behindEnds_116
