def X12_happeningsAt_j32 (F : Nat) (o_at : Nat → Int32) (v1 : Int32) (v3 : Int32) (k0 : Int32) (k1 : Int32) : Option ((Int32 × Int32) ⊕ ((Int32))) :=
  some (.inl ((k1 ||| k0), (v3 + 1)))
def X12_happeningsAt_b4 (F : Nat) (o_at : Nat → Int32) (v1 : Int32) (st4 : Int32 × Int32) : Option ((Int32 × Int32) ⊕ ((Int32))) :=
  if ix 3 3097 then
  if (jat o_at 3) ≤ st4.2 then
  some (.inr st4.1)
  else
  (X12_happeningOf o_at st4.2 (0 : Int32)).bind fun u18 =>
  if u18 = v1 then
  X12_happeningsAt_j32 F o_at v1 st4.2 (jshl 1 st4.2) st4.1
  else
  X12_happeningsAt_j32 F o_at v1 st4.2 0 st4.1
  else none
def X12_happeningsAt (F : Nat) (o_at : Nat → Int32) (v1 : Int32) : Option (Int32) :=
  (iter (X12_happeningsAt_b4 F o_at v1) F (0, 0)).bind (fun (e4 : Int32) =>
    some e4)
abbrev wd_X12_happeningsAt (E : vE) (a_o a_o_at a_o_names a_o_sort a_o_trayMany a_o_trays a_o_tape a_o_text a_o_opened a_o_farBy a_o_attendsBy a_o_coveredBy a_o_cameBy a_o_cameThen a_o_fallsBy a_o_loops a_o_ran a_o_told1 : Nat) (o_status : Int32) (o_top : Int64) (o_bottom : Int64) (o_taped : Int32) (o_size : Int32) (o_token : Int32) (o_from : Int32) (o_end : Int32) (o_value : Int32) (o_faultKind : Int32) (o_faultPlace : Int32) (o_faults : Int32) (o_seen : Int32) (o_toldParts : Int32) (o_depth : Int32) (o_counted : Int32) (o_becameThen : Int32) (o_firstCorner : Int32) (o_drawn : Int32) (o_ranSteps : Int32) (o_isTold : Int32) (o_marks : Int32) (o_at : Nat → Int32) : va_W := [(a_o, .inr (12, [.ref a_o_at, .ref a_o_names, .int o_status, .long o_top, .long o_bottom, .ref a_o_sort, .ref a_o_trayMany, .ref a_o_trays, .ref a_o_tape, .ref a_o_text, .int o_taped, .int o_size, .int o_token, .int o_from, .int o_end, .int o_value, .int o_faultKind, .int o_faultPlace, .int o_faults, .int o_seen, .int o_toldParts, .ref a_o_opened, .int o_depth, .int o_counted, .ref a_o_farBy, .int o_becameThen, .ref a_o_attendsBy, .ref a_o_coveredBy, .ref a_o_cameBy, .ref a_o_cameThen, .int o_firstCorner, .ref a_o_fallsBy, .int o_drawn, .int o_ranSteps, .ref a_o_loops, .ref a_o_ran, .ref a_o_told1, .int o_isTold, .int o_marks])), (a_o_at, .inl (E.2.1, 3097, .inl o_at))]
set_option maxHeartbeats 4000000 in
set_option maxRecDepth 100000 in
theorem ct_X12_happeningsAt (l : Launch) (E : vE) (F : Nat) (a_o a_o_at a_o_names a_o_sort a_o_trayMany a_o_trays a_o_tape a_o_text a_o_opened a_o_farBy a_o_attendsBy a_o_coveredBy a_o_cameBy a_o_cameThen a_o_fallsBy a_o_loops a_o_ran a_o_told1 : Nat) (o_status : Int32) (o_top : Int64) (o_bottom : Int64) (o_taped : Int32) (o_size : Int32) (o_token : Int32) (o_from : Int32) (o_end : Int32) (o_value : Int32) (o_faultKind : Int32) (o_faultPlace : Int32) (o_faults : Int32) (o_seen : Int32) (o_toldParts : Int32) (o_depth : Int32) (o_counted : Int32) (o_becameThen : Int32) (o_firstCorner : Int32) (o_drawn : Int32) (o_ranSteps : Int32) (o_isTold : Int32) (o_marks : Int32) (o_at : Nat → Int32) (v1 : Int32) (u : Int32) (hf : X12_happeningsAt F o_at v1 = some u) :
    CtI l yX12_happeningsAt cX12_happeningsAt 4 (some .int) 2 E [.ref a_o, .int v1] (wd_X12_happeningsAt E a_o a_o_at a_o_names a_o_sort a_o_trayMany a_o_trays a_o_tape a_o_text a_o_opened a_o_farBy a_o_attendsBy a_o_coveredBy a_o_cameBy a_o_cameThen a_o_fallsBy a_o_loops a_o_ran a_o_told1 o_status o_top o_bottom o_taped o_size o_token o_from o_end o_value o_faultKind o_faultPlace o_faults o_seen o_toldParts o_depth o_counted o_becameThen o_firstCorner o_drawn o_ranSteps o_isTold o_marks o_at) (wd_X12_happeningsAt E a_o a_o_at a_o_names a_o_sort a_o_trayMany a_o_trays a_o_tape a_o_text a_o_opened a_o_farBy a_o_attendsBy a_o_coveredBy a_o_cameBy a_o_cameThen a_o_fallsBy a_o_loops a_o_ran a_o_told1 o_status o_top o_bottom o_taped o_size o_token o_from o_end o_value o_faultKind o_faultPlace o_faults o_seen o_toldParts o_depth o_counted o_becameThen o_firstCorner o_drawn o_ranSteps o_isTold o_marks o_at) u := by
  refine ctI (by decide) (Nat.le_of_ble_eq_true rfl) ?_
  intro p e s m below meth cd A ls aa QQ hq cx hP hD hS hl
  obtain ⟨⟨hx, hb, hml, hown, hts⟩, hr, hlocks, hK, hA, hX⟩ := id cx
  have hl : lv_has ls 4 [(0, .ref a_o), (1, .int v1)] := hl
  unfold X12_happeningsAt at hf
  refine lv_iconst (v := 0) hx hb dX12_happeningsAt_0 (by decide) ?_
  refine lv_istore_n (lv' := [(2, .int 0), (0, .ref a_o), (1, .int v1)]) hx hb dX12_happeningsAt_1 rfl hl (by decide) rfl (fun ls hl => ?_)
  refine lv_iconst (v := 0) hx hb dX12_happeningsAt_2 (by decide) ?_
  refine lv_istore_n (lv' := [(3, .int 0), (2, .int 0), (0, .ref a_o), (1, .int v1)]) hx hb dX12_happeningsAt_3 rfl hl (by decide) rfl (fun ls hl => ?_)
  obtain ⟨e4, hit4, hf⟩ := bd hf
  refine iter_W (b := X12_happeningsAt_b4 F o_at v1) (P := fun st4 => ∀ (H : Heap) (locs : List Loc) (ls : Array Slot), va_P E.1 vwCl (wd_X12_happeningsAt E a_o a_o_at a_o_names a_o_sort a_o_trayMany a_o_trays a_o_tape a_o_text a_o_opened a_o_farBy a_o_attendsBy a_o_coveredBy a_o_cameBy a_o_cameThen a_o_fallsBy a_o_loops a_o_ran a_o_told1 o_status o_top o_bottom o_taped o_size o_token o_from o_end o_value o_faultKind o_faultPlace o_faults o_seen o_toldParts o_depth o_counted o_becameThen o_firstCorner o_drawn o_ranSteps o_isTold o_marks o_at) H → va_D A (wd_X12_happeningsAt E a_o a_o_at a_o_names a_o_sort a_o_trayMany a_o_trays a_o_tape a_o_text a_o_opened a_o_farBy a_o_attendsBy a_o_coveredBy a_o_cameBy a_o_cameThen a_o_fallsBy a_o_loops a_o_ran a_o_told1 o_status o_top o_bottom o_taped o_size o_token o_from o_end o_value o_faultKind o_faultPlace o_faults o_seen o_toldParts o_depth o_counted o_becameThen o_firstCorner o_drawn o_ranSteps o_isTold o_marks o_at) → va_S A s.heap H locs → lv_has ls 4 [(0, .ref a_o), (1, .int v1), (2, .int st4.1), (3, .int st4.2)] → W p l e (rmd 2) s m aa below meth cd H locs 0 0 QQ (F0 m 4 ls [])) (G := (fun (e4 : Int32) => ∀ (H : Heap) (locs : List Loc) (ls : Array Slot), va_P E.1 vwCl (wd_X12_happeningsAt E a_o a_o_at a_o_names a_o_sort a_o_trayMany a_o_trays a_o_tape a_o_text a_o_opened a_o_farBy a_o_attendsBy a_o_coveredBy a_o_cameBy a_o_cameThen a_o_fallsBy a_o_loops a_o_ran a_o_told1 o_status o_top o_bottom o_taped o_size o_token o_from o_end o_value o_faultKind o_faultPlace o_faults o_seen o_toldParts o_depth o_counted o_becameThen o_firstCorner o_drawn o_ranSteps o_isTold o_marks o_at) H → va_D A (wd_X12_happeningsAt E a_o a_o_at a_o_names a_o_sort a_o_trayMany a_o_trays a_o_tape a_o_text a_o_opened a_o_farBy a_o_attendsBy a_o_coveredBy a_o_cameBy a_o_cameThen a_o_fallsBy a_o_loops a_o_ran a_o_told1 o_status o_top o_bottom o_taped o_size o_token o_from o_end o_value o_faultKind o_faultPlace o_faults o_seen o_toldParts o_depth o_counted o_becameThen o_firstCorner o_drawn o_ranSteps o_isTold o_marks o_at) → va_S A s.heap H locs → lv_has ls 4 [(2, .int e4)] → W p l e (rmd 2) s m aa below meth cd H locs 0 0 QQ (F0 m 40 ls []))) ?_ F (0, 0) e4 hit4 ?_ _ _ _ hP hD hS (lv_sub hl [2, 3, 1, 0] rfl)
  · intro st4 r4 hf hk4 he4 H locs ls hP hD hS hl
    have hj32 : ∀ (v3_j32 : Int32) (k0_j32 : Int32) (k1_j32 : Int32) (H : Heap) (locs : List Loc) (ls : Array Slot), X12_happeningsAt_j32 F o_at v1 v3_j32 k0_j32 k1_j32 = some r4 → va_P E.1 vwCl (wd_X12_happeningsAt E a_o a_o_at a_o_names a_o_sort a_o_trayMany a_o_trays a_o_tape a_o_text a_o_opened a_o_farBy a_o_attendsBy a_o_coveredBy a_o_cameBy a_o_cameThen a_o_fallsBy a_o_loops a_o_ran a_o_told1 o_status o_top o_bottom o_taped o_size o_token o_from o_end o_value o_faultKind o_faultPlace o_faults o_seen o_toldParts o_depth o_counted o_becameThen o_firstCorner o_drawn o_ranSteps o_isTold o_marks o_at) H → va_D A (wd_X12_happeningsAt E a_o a_o_at a_o_names a_o_sort a_o_trayMany a_o_trays a_o_tape a_o_text a_o_opened a_o_farBy a_o_attendsBy a_o_coveredBy a_o_cameBy a_o_cameThen a_o_fallsBy a_o_loops a_o_ran a_o_told1 o_status o_top o_bottom o_taped o_size o_token o_from o_end o_value o_faultKind o_faultPlace o_faults o_seen o_toldParts o_depth o_counted o_becameThen o_firstCorner o_drawn o_ranSteps o_isTold o_marks o_at) → va_S A s.heap H locs → lv_has ls 4 [(0, .ref a_o), (1, .int v1), (3, .int v3_j32)] → W p l e (rmd 2) s m aa below meth cd H locs 0 0 QQ (F0 m 32 ls [.int k0_j32, .int k1_j32]) := by
      intro v3_j32 k0_j32 k1_j32 H locs ls hf hP hD hS hl
      unfold X12_happeningsAt_j32 at hf
      refine lv_ior hx hb dX12_happeningsAt_32 ?_
      refine lv_istore_n (lv' := [(2, .int (k1_j32 ||| k0_j32)), (0, .ref a_o), (1, .int v1), (3, .int v3_j32)]) hx hb dX12_happeningsAt_33 rfl hl (by decide) rfl (fun ls hl => ?_)
      refine lv_iinc (v := (v3_j32 + 1)) (lv' := [(3, .int (v3_j32 + 1)), (2, .int (k1_j32 ||| k0_j32)), (0, .ref a_o), (1, .int v1)]) hx hb dX12_happeningsAt_34 hl (k := 3) rfl rfl (by decide) rfl (fun ls hl => ?_)
      refine lv_goto (tgt := 4) hx hb dX12_happeningsAt_37 (by decide) ?_
      exact hk4 _ (Option.some.inj hf).symm _ _ _ hP hD hS (lv_sub hl [2, 3, 1, 0] rfl)
    unfold X12_happeningsAt_b4 at hf
    refine lv_iload_n hx hb dX12_happeningsAt_4 rfl (lv_at hl 3 rfl) ?_
    refine lv_aload_n hx hb dX12_happeningsAt_5 rfl (lv_at hl 0 rfl) ?_
    refine va_get (D := E.1) (ci := 12) (v := .ref a_o_at) (C := RX12) (T := TX12) (N := 39) hx hb hts inX12 hown hK hP 0 rfl rfl 0 (by decide) (hts _ fl_X12_7) (fun _ h9 => h9) rfl dX12_happeningsAt_6 ?_
    refine lv_iconst (v := 3) hx hb dX12_happeningsAt_9 (by decide) ?_
    obtain ⟨hi, hf⟩ := ck hf
    refine r_iald 1 cx hP rfl hi dX12_happeningsAt_10 ?_
    refine lv_icmp_ge (tgt := 40) hx hb dX12_happeningsAt_11 (by decide) (fun hc => ?_) (fun hc => ?_)
    · have hf := it_t hc hf
      exact he4 _ (Option.some.inj hf).symm _ _ _ hP hD hS (lv_sub hl [2] rfl)
    · have hf := it_f hc hf
      refine lv_iload_n hx hb dX12_happeningsAt_14 rfl (lv_at hl 2 rfl) ?_
      refine lv_aload_n hx hb dX12_happeningsAt_15 rfl (lv_at hl 0 rfl) ?_
      refine lv_iload_n hx hb dX12_happeningsAt_16 rfl (lv_at hl 3 rfl) ?_
      refine lv_iconst (v := 0) hx hb dX12_happeningsAt_17 (by decide) ?_
      obtain ⟨u18, hu18, hf⟩ := bd hf
      refine keepVI (ct_X12_happeningOf l E a_o a_o_at a_o_names a_o_sort a_o_trayMany a_o_trays a_o_tape a_o_text a_o_opened a_o_farBy a_o_attendsBy a_o_coveredBy a_o_cameBy a_o_cameThen a_o_fallsBy a_o_loops a_o_ran a_o_told1 o_status o_top o_bottom o_taped o_size o_token o_from o_end o_value o_faultKind o_faultPlace o_faults o_seen o_toldParts o_depth o_counted o_becameThen o_firstCorner o_drawn o_ranSteps o_isTold o_marks o_at st4.2 (0 : Int32) u18 hu18) [0, 1] cal_X12_happeningOf cav_X12_happeningOf lk_X12_278 cx hP hD hS hl dX12_happeningsAt_18 rfl rfl rfl rfl (Nat.le_of_ble_eq_true rfl) ⟨Nat.le_of_ble_eq_true rfl, Nat.le_of_ble_eq_true rfl⟩ rfl (by decide) (fun H locs hP hS => ?_)
      refine lv_iload_n hx hb dX12_happeningsAt_21 rfl (lv_at hl 1 rfl) ?_
      refine lv_icmp_ne (tgt := 31) hx hb dX12_happeningsAt_22 (by decide) (fun hc => ?_) (fun hc => ?_)
      · have hf := it_f hc hf
        refine lv_iconst (v := 0) hx hb dX12_happeningsAt_31 (by decide) ?_
        exact hj32 _ _ _ _ _ _ hf hP hD hS (lv_sub hl [0, 1, 3] rfl)
      · have hf := it_t hc hf
        refine lv_iconst (v := 1) hx hb dX12_happeningsAt_25 (by decide) ?_
        refine lv_iload_n hx hb dX12_happeningsAt_26 rfl (lv_at hl 3 rfl) ?_
        refine r_ishl hx hb dX12_happeningsAt_27 ?_
        refine lv_goto (tgt := 32) hx hb dX12_happeningsAt_28 (by decide) ?_
        exact hj32 _ _ _ _ _ _ hf hP hD hS (lv_sub hl [0, 1, 3] rfl)
  · refine fun H locs ls hP hD hS hl => ?_
    refine lv_iload_n hx hb dX12_happeningsAt_40 rfl (lv_at hl 0 rfl) ?_
    obtain rfl := Option.some.inj hf
    subst hq
    exact retI cx hP hD hS dX12_happeningsAt_41
def X12_warns (F : Nat) (o_at : Nat → Int32) (v1 : Int32) : Option ((Nat → Int32)) :=
  (X12_watcherRow v1).bind fun u5 =>
  if ix (u5 + 2) 3097 then
  if ix (u5 + 2) 3097 then
  (X12_watcherOf (jput o_at (u5 + 2) ((jat o_at (u5 + 2)) + 1)) v1 (0 : Int32)).bind fun u20 =>
  (X12_happeningsAt F (jput o_at (u5 + 2) ((jat o_at (u5 + 2)) + 1)) u20).bind fun u23 =>
  (X12_soonestOf F (jput o_at (u5 + 2) ((jat o_at (u5 + 2)) + 1)) u23).bind fun u26 =>
  if u26 = (-1) then
  some (jput o_at (u5 + 2) ((jat o_at (u5 + 2)) + 1))
  else
  (X12_happeningRow u26).bind fun u40 =>
  (X12_happeningRow u26).bind fun u53 =>
  if ix (u53 + 1) 3097 then
  if ix 6 3097 then
  if ix (u40 + 1) 3097 then
  some (jput (jput o_at (u5 + 2) ((jat o_at (u5 + 2)) + 1)) (u40 + 1) (jmin (9999 : Int32) ((jat (jput o_at (u5 + 2) ((jat o_at (u5 + 2)) + 1)) (u53 + 1)) + (jat (jput o_at (u5 + 2) ((jat o_at (u5 + 2)) + 1)) 6))))
  else none
  else none
  else none
  else none
  else none
abbrev wd_X12_warns (E : vE) (a_o a_o_at a_o_names a_o_sort a_o_trayMany a_o_trays a_o_tape a_o_text a_o_opened a_o_farBy a_o_attendsBy a_o_coveredBy a_o_cameBy a_o_cameThen a_o_fallsBy a_o_loops a_o_ran a_o_told1 : Nat) (o_status : Int32) (o_top : Int64) (o_bottom : Int64) (o_taped : Int32) (o_size : Int32) (o_token : Int32) (o_from : Int32) (o_end : Int32) (o_value : Int32) (o_faultKind : Int32) (o_faultPlace : Int32) (o_faults : Int32) (o_seen : Int32) (o_toldParts : Int32) (o_depth : Int32) (o_counted : Int32) (o_becameThen : Int32) (o_firstCorner : Int32) (o_drawn : Int32) (o_ranSteps : Int32) (o_isTold : Int32) (o_marks : Int32) (o_at : Nat → Int32) : va_W := [(a_o, .inr (12, [.ref a_o_at, .ref a_o_names, .int o_status, .long o_top, .long o_bottom, .ref a_o_sort, .ref a_o_trayMany, .ref a_o_trays, .ref a_o_tape, .ref a_o_text, .int o_taped, .int o_size, .int o_token, .int o_from, .int o_end, .int o_value, .int o_faultKind, .int o_faultPlace, .int o_faults, .int o_seen, .int o_toldParts, .ref a_o_opened, .int o_depth, .int o_counted, .ref a_o_farBy, .int o_becameThen, .ref a_o_attendsBy, .ref a_o_coveredBy, .ref a_o_cameBy, .ref a_o_cameThen, .int o_firstCorner, .ref a_o_fallsBy, .int o_drawn, .int o_ranSteps, .ref a_o_loops, .ref a_o_ran, .ref a_o_told1, .int o_isTold, .int o_marks])), (a_o_at, .inl (E.2.1, 3097, .inl o_at))]
set_option maxHeartbeats 4000000 in
set_option maxRecDepth 100000 in
theorem ct_X12_warns (l : Launch) (E : vE) (F : Nat) (a_o a_o_at a_o_names a_o_sort a_o_trayMany a_o_trays a_o_tape a_o_text a_o_opened a_o_farBy a_o_attendsBy a_o_coveredBy a_o_cameBy a_o_cameThen a_o_fallsBy a_o_loops a_o_ran a_o_told1 : Nat) (o_status : Int32) (o_top : Int64) (o_bottom : Int64) (o_taped : Int32) (o_size : Int32) (o_token : Int32) (o_from : Int32) (o_end : Int32) (o_value : Int32) (o_faultKind : Int32) (o_faultPlace : Int32) (o_faults : Int32) (o_seen : Int32) (o_toldParts : Int32) (o_depth : Int32) (o_counted : Int32) (o_becameThen : Int32) (o_firstCorner : Int32) (o_drawn : Int32) (o_ranSteps : Int32) (o_isTold : Int32) (o_marks : Int32) (o_at : Nat → Int32) (v1 : Int32) (u : (Nat → Int32)) (hf : X12_warns F o_at v1 = some u) :
    CtV l yX12_warns cX12_warns 3 none 4 E [.ref a_o, .int v1] (wd_X12_warns E a_o a_o_at a_o_names a_o_sort a_o_trayMany a_o_trays a_o_tape a_o_text a_o_opened a_o_farBy a_o_attendsBy a_o_coveredBy a_o_cameBy a_o_cameThen a_o_fallsBy a_o_loops a_o_ran a_o_told1 o_status o_top o_bottom o_taped o_size o_token o_from o_end o_value o_faultKind o_faultPlace o_faults o_seen o_toldParts o_depth o_counted o_becameThen o_firstCorner o_drawn o_ranSteps o_isTold o_marks o_at) (wd_X12_warns E a_o a_o_at a_o_names a_o_sort a_o_trayMany a_o_trays a_o_tape a_o_text a_o_opened a_o_farBy a_o_attendsBy a_o_coveredBy a_o_cameBy a_o_cameThen a_o_fallsBy a_o_loops a_o_ran a_o_told1 o_status o_top o_bottom o_taped o_size o_token o_from o_end o_value o_faultKind o_faultPlace o_faults o_seen o_toldParts o_depth o_counted o_becameThen o_firstCorner o_drawn o_ranSteps o_isTold o_marks u) := by
  refine ctV (by decide) (Nat.le_of_ble_eq_true rfl) ?_
  intro p e s m below meth cd A ls aa QQ hq cx hP hD hS hl
  obtain ⟨⟨hx, hb, hml, hown, hts⟩, hr, hlocks, hK, hA, hX⟩ := id cx
  have hl : lv_has ls 3 [(0, .ref a_o), (1, .int v1)] := hl
  unfold X12_warns at hf
  refine lv_aload_n hx hb dX12_warns_0 rfl (lv_at hl 0 rfl) ?_
  refine va_get (D := E.1) (ci := 12) (v := .ref a_o_at) (C := RX12) (T := TX12) (N := 39) hx hb hts inX12 hown hK hP 0 rfl rfl 0 (by decide) (hts _ fl_X12_7) (fun _ h9 => h9) rfl dX12_warns_1 ?_
  refine lv_iload_n hx hb dX12_warns_4 rfl (lv_at hl 1 rfl) ?_
  obtain ⟨u5, hu5, hf⟩ := bd hf
  refine keepSI (ct_X12_watcherRow l E v1 u5 hu5) [] cal_X12_watcherRow sta_X12_watcherRow lk_X12_217 cx hP hD hS hl dX12_warns_5 rfl rfl (Nat.le_of_ble_eq_true rfl) ⟨Nat.le_of_ble_eq_true rfl, Nat.le_of_ble_eq_true rfl⟩ rfl (by decide) (fun H locs hP hS => ?_)
  refine lv_iconst (v := 2) hx hb dX12_warns_8 (by decide) ?_
  refine lv_iadd hx hb dX12_warns_9 ?_
  refine lv_dup2_11 hx hb dX12_warns_10 rfl rfl ?_
  obtain ⟨hi, hf⟩ := ck hf
  refine r_iald 1 cx hP rfl hi dX12_warns_11 ?_
  refine lv_iconst (v := 1) hx hb dX12_warns_12 (by decide) ?_
  refine lv_iadd hx hb dX12_warns_13 ?_
  obtain ⟨hi, hf⟩ := ck hf
  refine r_iast 1 cx hP hD hS rfl hi dX12_warns_14 (fun H locs hP hD hS => ?_)
  have hP : va_P E.1 vwCl (wd_X12_warns E a_o a_o_at a_o_names a_o_sort a_o_trayMany a_o_trays a_o_tape a_o_text a_o_opened a_o_farBy a_o_attendsBy a_o_coveredBy a_o_cameBy a_o_cameThen a_o_fallsBy a_o_loops a_o_ran a_o_told1 o_status o_top o_bottom o_taped o_size o_token o_from o_end o_value o_faultKind o_faultPlace o_faults o_seen o_toldParts o_depth o_counted o_becameThen o_firstCorner o_drawn o_ranSteps o_isTold o_marks (jput o_at (u5 + 2) ((jat o_at (u5 + 2)) + 1))) H := hP
  have hD : va_D A (wd_X12_warns E a_o a_o_at a_o_names a_o_sort a_o_trayMany a_o_trays a_o_tape a_o_text a_o_opened a_o_farBy a_o_attendsBy a_o_coveredBy a_o_cameBy a_o_cameThen a_o_fallsBy a_o_loops a_o_ran a_o_told1 o_status o_top o_bottom o_taped o_size o_token o_from o_end o_value o_faultKind o_faultPlace o_faults o_seen o_toldParts o_depth o_counted o_becameThen o_firstCorner o_drawn o_ranSteps o_isTold o_marks (jput o_at (u5 + 2) ((jat o_at (u5 + 2)) + 1))) := hD
  refine lv_aload_n hx hb dX12_warns_15 rfl (lv_at hl 0 rfl) ?_
  refine lv_aload_n hx hb dX12_warns_16 rfl (lv_at hl 0 rfl) ?_
  refine lv_aload_n hx hb dX12_warns_17 rfl (lv_at hl 0 rfl) ?_
  refine lv_iload_n hx hb dX12_warns_18 rfl (lv_at hl 1 rfl) ?_
  refine lv_iconst (v := 0) hx hb dX12_warns_19 (by decide) ?_
  obtain ⟨u20, hu20, hf⟩ := bd hf
  refine keepVI (ct_X12_watcherOf l E a_o a_o_at a_o_names a_o_sort a_o_trayMany a_o_trays a_o_tape a_o_text a_o_opened a_o_farBy a_o_attendsBy a_o_coveredBy a_o_cameBy a_o_cameThen a_o_fallsBy a_o_loops a_o_ran a_o_told1 o_status o_top o_bottom o_taped o_size o_token o_from o_end o_value o_faultKind o_faultPlace o_faults o_seen o_toldParts o_depth o_counted o_becameThen o_firstCorner o_drawn o_ranSteps o_isTold o_marks (jput o_at (u5 + 2) ((jat o_at (u5 + 2)) + 1)) v1 (0 : Int32) u20 hu20) [0, 1] cal_X12_watcherOf cav_X12_watcherOf lk_X12_308 cx hP hD hS hl dX12_warns_20 rfl rfl rfl rfl (Nat.le_of_ble_eq_true rfl) ⟨Nat.le_of_ble_eq_true rfl, Nat.le_of_ble_eq_true rfl⟩ rfl (by decide) (fun H locs hP hS => ?_)
  obtain ⟨u23, hu23, hf⟩ := bd hf
  refine keepVI (ct_X12_happeningsAt l E F a_o a_o_at a_o_names a_o_sort a_o_trayMany a_o_trays a_o_tape a_o_text a_o_opened a_o_farBy a_o_attendsBy a_o_coveredBy a_o_cameBy a_o_cameThen a_o_fallsBy a_o_loops a_o_ran a_o_told1 o_status o_top o_bottom o_taped o_size o_token o_from o_end o_value o_faultKind o_faultPlace o_faults o_seen o_toldParts o_depth o_counted o_becameThen o_firstCorner o_drawn o_ranSteps o_isTold o_marks (jput o_at (u5 + 2) ((jat o_at (u5 + 2)) + 1)) u20 u23 hu23) [0, 1] cal_X12_happeningsAt cav_X12_happeningsAt lk_X12_342 cx hP hD hS hl dX12_warns_23 rfl rfl rfl rfl (Nat.le_of_ble_eq_true rfl) ⟨Nat.le_of_ble_eq_true rfl, Nat.le_of_ble_eq_true rfl⟩ rfl (by decide) (fun H locs hP hS => ?_)
  obtain ⟨u26, hu26, hf⟩ := bd hf
  refine keepVI (ct_X12_soonestOf l E F a_o a_o_at a_o_names a_o_sort a_o_trayMany a_o_trays a_o_tape a_o_text a_o_opened a_o_farBy a_o_attendsBy a_o_coveredBy a_o_cameBy a_o_cameThen a_o_fallsBy a_o_loops a_o_ran a_o_told1 o_status o_top o_bottom o_taped o_size o_token o_from o_end o_value o_faultKind o_faultPlace o_faults o_seen o_toldParts o_depth o_counted o_becameThen o_firstCorner o_drawn o_ranSteps o_isTold o_marks (jput o_at (u5 + 2) ((jat o_at (u5 + 2)) + 1)) u23 u26 hu26) [0, 1] cal_X12_soonestOf cav_X12_soonestOf lk_X12_336 cx hP hD hS hl dX12_warns_26 rfl rfl rfl rfl (Nat.le_of_ble_eq_true rfl) ⟨Nat.le_of_ble_eq_true rfl, Nat.le_of_ble_eq_true rfl⟩ rfl (by decide) (fun H locs hP hS => ?_)
  refine lv_istore_n (lv' := [(2, .int u26), (0, .ref a_o), (1, .int v1)]) hx hb dX12_warns_29 rfl hl (by decide) rfl (fun ls hl => ?_)
  refine lv_iload_n hx hb dX12_warns_30 rfl (lv_at hl 0 rfl) ?_
  refine lv_iconst (v := (-1)) hx hb dX12_warns_31 (by decide) ?_
  refine lv_icmp_eq (tgt := 71) hx hb dX12_warns_32 (by decide) (fun hc => ?_) (fun hc => ?_)
  · have hf := it_t hc hf
    obtain rfl := Option.some.inj hf
    subst hq
    exact retV cx hP hD hS dX12_warns_71
  · have hf := it_f hc hf
    refine lv_aload_n hx hb dX12_warns_35 rfl (lv_at hl 1 rfl) ?_
    refine va_get (D := E.1) (ci := 12) (v := .ref a_o_at) (C := RX12) (T := TX12) (N := 39) hx hb hts inX12 hown hK hP 0 rfl rfl 0 (by decide) (hts _ fl_X12_7) (fun _ h9 => h9) rfl dX12_warns_36 ?_
    refine lv_iload_n hx hb dX12_warns_39 rfl (lv_at hl 0 rfl) ?_
    obtain ⟨u40, hu40, hf⟩ := bd hf
    refine keepSI (ct_X12_happeningRow l E u26 u40 hu40) [] cal_X12_happeningRow sta_X12_happeningRow lk_X12_214 cx hP hD hS hl dX12_warns_40 rfl rfl (Nat.le_of_ble_eq_true rfl) ⟨Nat.le_of_ble_eq_true rfl, Nat.le_of_ble_eq_true rfl⟩ rfl (by decide) (fun H locs hP hS => ?_)
    refine lv_iconst (v := 1) hx hb dX12_warns_43 (by decide) ?_
    refine lv_iadd hx hb dX12_warns_44 ?_
    refine lv_sipush (v := 9999) hx hb dX12_warns_45 (by decide) ?_
    refine lv_aload_n hx hb dX12_warns_48 rfl (lv_at hl 1 rfl) ?_
    refine va_get (D := E.1) (ci := 12) (v := .ref a_o_at) (C := RX12) (T := TX12) (N := 39) hx hb hts inX12 hown hK hP 0 rfl rfl 0 (by decide) (hts _ fl_X12_7) (fun _ h9 => h9) rfl dX12_warns_49 ?_
    refine lv_iload_n hx hb dX12_warns_52 rfl (lv_at hl 0 rfl) ?_
    obtain ⟨u53, hu53, hf⟩ := bd hf
    refine keepSI (ct_X12_happeningRow l E u26 u53 hu53) [] cal_X12_happeningRow sta_X12_happeningRow lk_X12_214 cx hP hD hS hl dX12_warns_53 rfl rfl (Nat.le_of_ble_eq_true rfl) ⟨Nat.le_of_ble_eq_true rfl, Nat.le_of_ble_eq_true rfl⟩ rfl (by decide) (fun H locs hP hS => ?_)
    refine lv_iconst (v := 1) hx hb dX12_warns_56 (by decide) ?_
    refine lv_iadd hx hb dX12_warns_57 ?_
    obtain ⟨hi, hf⟩ := ck hf
    refine r_iald 1 cx hP rfl hi dX12_warns_58 ?_
    refine lv_aload_n hx hb dX12_warns_59 rfl (lv_at hl 1 rfl) ?_
    refine va_get (D := E.1) (ci := 12) (v := .ref a_o_at) (C := RX12) (T := TX12) (N := 39) hx hb hts inX12 hown hK hP 0 rfl rfl 0 (by decide) (hts _ fl_X12_7) (fun _ h9 => h9) rfl dX12_warns_60 ?_
    refine lv_bipush (v := 6) hx hb dX12_warns_63 (by decide) ?_
    obtain ⟨hi, hf⟩ := ck hf
    refine r_iald 1 cx hP rfl hi dX12_warns_65 ?_
    refine lv_iadd hx hb dX12_warns_66 ?_
    refine r_mmin cx hl lk_X12_140 mt_min (Nat.le_of_ble_eq_true rfl) (Nat.le_of_ble_eq_true rfl) dX12_warns_67 ?_
    obtain ⟨hi, hf⟩ := ck hf
    refine r_iast 1 cx hP hD hS rfl hi dX12_warns_70 (fun H locs hP hD hS => ?_)
    have hP : va_P E.1 vwCl (wd_X12_warns E a_o a_o_at a_o_names a_o_sort a_o_trayMany a_o_trays a_o_tape a_o_text a_o_opened a_o_farBy a_o_attendsBy a_o_coveredBy a_o_cameBy a_o_cameThen a_o_fallsBy a_o_loops a_o_ran a_o_told1 o_status o_top o_bottom o_taped o_size o_token o_from o_end o_value o_faultKind o_faultPlace o_faults o_seen o_toldParts o_depth o_counted o_becameThen o_firstCorner o_drawn o_ranSteps o_isTold o_marks (jput (jput o_at (u5 + 2) ((jat o_at (u5 + 2)) + 1)) (u40 + 1) (jmin (9999 : Int32) ((jat (jput o_at (u5 + 2) ((jat o_at (u5 + 2)) + 1)) (u53 + 1)) + (jat (jput o_at (u5 + 2) ((jat o_at (u5 + 2)) + 1)) 6))))) H := hP
    have hD : va_D A (wd_X12_warns E a_o a_o_at a_o_names a_o_sort a_o_trayMany a_o_trays a_o_tape a_o_text a_o_opened a_o_farBy a_o_attendsBy a_o_coveredBy a_o_cameBy a_o_cameThen a_o_fallsBy a_o_loops a_o_ran a_o_told1 o_status o_top o_bottom o_taped o_size o_token o_from o_end o_value o_faultKind o_faultPlace o_faults o_seen o_toldParts o_depth o_counted o_becameThen o_firstCorner o_drawn o_ranSteps o_isTold o_marks (jput (jput o_at (u5 + 2) ((jat o_at (u5 + 2)) + 1)) (u40 + 1) (jmin (9999 : Int32) ((jat (jput o_at (u5 + 2) ((jat o_at (u5 + 2)) + 1)) (u53 + 1)) + (jat (jput o_at (u5 + 2) ((jat o_at (u5 + 2)) + 1)) 6))))) := hD
    obtain rfl := Option.some.inj hf
    subst hq
    exact retV cx hP hD hS dX12_warns_71
def X12_hourGoes_b4 (F : Nat) (o_farBy : Nat → Int32) (v1 : Int32) (st4 : Int32 × (Nat → Int32)) : Option ((Int32 × (Nat → Int32)) ⊕ (((Nat → Int32)))) :=
  if ix 2 3097 then
  if (jat st4.2 2) ≤ st4.1 then
  some (.inr st4.2)
  else
  (X12_walks F st4.2 o_farBy st4.1).bind fun u16 =>
  some (.inl ((st4.1 + 1), u16))
  else none
def X12_hourGoes_j72 (F : Nat) (o_at : Nat → Int32) (o_farBy : Nat → Int32) (v1 : Int32) (v2 : Int32) : Option ((Int32 × Int32 × (Nat → Int32)) ⊕ ((Int32 × (Nat → Int32)))) :=
  some (.inl (v1, (v2 + 1), o_at))
def X12_hourGoes_b27 (F : Nat) (o_farBy : Nat → Int32) (st27 : Int32 × Int32 × (Nat → Int32)) : Option ((Int32 × Int32 × (Nat → Int32)) ⊕ ((Int32 × (Nat → Int32)))) :=
  if ix 3 3097 then
  if (jat st27.2.2 3) ≤ st27.2.1 then
  some (.inr (st27.1, st27.2.2))
  else
  (X12_isToCome st27.2.2 st27.2.1).bind fun u39 =>
  if u39 = 0 then
  X12_hourGoes_j72 F st27.2.2 o_farBy st27.1 st27.2.1
  else
  (X12_happeningOf st27.2.2 st27.2.1 (1 : Int32)).bind fun u48 =>
  if ix 8 3097 then
  if u48 = (jat st27.2.2 8) then
  (X12_comesAbout F st27.2.2 st27.2.1).bind fun u63 =>
  if u63.1 = 0 then
  X12_hourGoes_j72 F u63.2 o_farBy st27.1 st27.2.1
  else
  X12_hourGoes_j72 F u63.2 o_farBy (st27.1 + 1) st27.2.1
  else
  X12_hourGoes_j72 F st27.2.2 o_farBy st27.1 st27.2.1
  else none
  else none
def X12_hourGoes_j117 (F : Nat) (o_at : Nat → Int32) (o_farBy : Nat → Int32) (v1 : Int32) (v2 : Int32) : Option ((Int32 × (Nat → Int32)) ⊕ (((Nat → Int32)))) :=
  some (.inl ((v2 + 1), o_at))
def X12_hourGoes_b80 (F : Nat) (o_farBy : Nat → Int32) (v1 : Int32) (st80 : Int32 × (Nat → Int32)) : Option ((Int32 × (Nat → Int32)) ⊕ (((Nat → Int32)))) :=
  if ix 4 3097 then
  if (jat st80.2 4) ≤ st80.1 then
  some (.inr st80.2)
  else
  (X12_watcherOf st80.2 st80.1 (0 : Int32)).bind fun u94 =>
  (X12_standingAt F st80.2 u94).bind fun u97 =>
  (X12_bits F u97).bind fun u100 =>
  (X12_watcherOf st80.2 st80.1 (1 : Int32)).bind fun u106 =>
  if u100 < u106 then
  X12_hourGoes_j117 F st80.2 o_farBy v1 st80.1
  else
  (X12_warns F st80.2 st80.1).bind fun u114 =>
  X12_hourGoes_j117 F u114 o_farBy v1 st80.1
  else none
def X12_hourGoes (F : Nat) (o_at : Nat → Int32) (o_farBy : Nat → Int32) : Option (Int32 × (Nat → Int32)) :=
  (iter (X12_hourGoes_b4 F o_farBy 0) F (0, o_at)).bind (fun (e4 : (Nat → Int32)) =>
    (iter (X12_hourGoes_b27 F o_farBy) F (0, 0, e4)).bind (fun (e27 : Int32 × (Nat → Int32)) =>
    (iter (X12_hourGoes_b80 F o_farBy e27.1) F (0, e27.2)).bind (fun (e80 : (Nat → Int32)) =>
    if ix 8 3097 then
  if ix 8 3097 then
  some (e27.1, (jput e80 8 ((jat e80 8) + 1)))
  else none
  else none)))
abbrev wd_X12_hourGoes (E : vE) (a_o a_o_at a_o_names a_o_sort a_o_trayMany a_o_trays a_o_tape a_o_text a_o_opened a_o_farBy a_o_attendsBy a_o_coveredBy a_o_cameBy a_o_cameThen a_o_fallsBy a_o_loops a_o_ran a_o_told1 : Nat) (o_status : Int32) (o_top : Int64) (o_bottom : Int64) (o_taped : Int32) (o_size : Int32) (o_token : Int32) (o_from : Int32) (o_end : Int32) (o_value : Int32) (o_faultKind : Int32) (o_faultPlace : Int32) (o_faults : Int32) (o_seen : Int32) (o_toldParts : Int32) (o_depth : Int32) (o_counted : Int32) (o_becameThen : Int32) (o_firstCorner : Int32) (o_drawn : Int32) (o_ranSteps : Int32) (o_isTold : Int32) (o_marks : Int32) (o_at : Nat → Int32) (o_farBy : Nat → Int32) : va_W := [(a_o, .inr (12, [.ref a_o_at, .ref a_o_names, .int o_status, .long o_top, .long o_bottom, .ref a_o_sort, .ref a_o_trayMany, .ref a_o_trays, .ref a_o_tape, .ref a_o_text, .int o_taped, .int o_size, .int o_token, .int o_from, .int o_end, .int o_value, .int o_faultKind, .int o_faultPlace, .int o_faults, .int o_seen, .int o_toldParts, .ref a_o_opened, .int o_depth, .int o_counted, .ref a_o_farBy, .int o_becameThen, .ref a_o_attendsBy, .ref a_o_coveredBy, .ref a_o_cameBy, .ref a_o_cameThen, .int o_firstCorner, .ref a_o_fallsBy, .int o_drawn, .int o_ranSteps, .ref a_o_loops, .ref a_o_ran, .ref a_o_told1, .int o_isTold, .int o_marks])), (a_o_at, .inl (E.2.1, 3097, .inl o_at)), (a_o_farBy, .inl (E.2.1, 64, .inl o_farBy))]
set_option maxHeartbeats 4000000 in
set_option maxRecDepth 100000 in
theorem ct_X12_hourGoes (l : Launch) (E : vE) (F : Nat) (a_o a_o_at a_o_names a_o_sort a_o_trayMany a_o_trays a_o_tape a_o_text a_o_opened a_o_farBy a_o_attendsBy a_o_coveredBy a_o_cameBy a_o_cameThen a_o_fallsBy a_o_loops a_o_ran a_o_told1 : Nat) (o_status : Int32) (o_top : Int64) (o_bottom : Int64) (o_taped : Int32) (o_size : Int32) (o_token : Int32) (o_from : Int32) (o_end : Int32) (o_value : Int32) (o_faultKind : Int32) (o_faultPlace : Int32) (o_faults : Int32) (o_seen : Int32) (o_toldParts : Int32) (o_depth : Int32) (o_counted : Int32) (o_becameThen : Int32) (o_firstCorner : Int32) (o_drawn : Int32) (o_ranSteps : Int32) (o_isTold : Int32) (o_marks : Int32) (o_at : Nat → Int32) (o_farBy : Nat → Int32) (u : Int32 × (Nat → Int32)) (hf : X12_hourGoes F o_at o_farBy = some u) :
    CtI l yX12_hourGoes cX12_hourGoes 3 (some .int) 6 E [.ref a_o] (wd_X12_hourGoes E a_o a_o_at a_o_names a_o_sort a_o_trayMany a_o_trays a_o_tape a_o_text a_o_opened a_o_farBy a_o_attendsBy a_o_coveredBy a_o_cameBy a_o_cameThen a_o_fallsBy a_o_loops a_o_ran a_o_told1 o_status o_top o_bottom o_taped o_size o_token o_from o_end o_value o_faultKind o_faultPlace o_faults o_seen o_toldParts o_depth o_counted o_becameThen o_firstCorner o_drawn o_ranSteps o_isTold o_marks o_at o_farBy) (wd_X12_hourGoes E a_o a_o_at a_o_names a_o_sort a_o_trayMany a_o_trays a_o_tape a_o_text a_o_opened a_o_farBy a_o_attendsBy a_o_coveredBy a_o_cameBy a_o_cameThen a_o_fallsBy a_o_loops a_o_ran a_o_told1 o_status o_top o_bottom o_taped o_size o_token o_from o_end o_value o_faultKind o_faultPlace o_faults o_seen o_toldParts o_depth o_counted o_becameThen o_firstCorner o_drawn o_ranSteps o_isTold o_marks u.2 o_farBy) u.1 := by
  refine ctI (by decide) (Nat.le_of_ble_eq_true rfl) ?_
  intro p e s m below meth cd A ls aa QQ hq cx hP hD hS hl
  obtain ⟨⟨hx, hb, hml, hown, hts⟩, hr, hlocks, hK, hA, hX⟩ := id cx
  have hl : lv_has ls 3 [(0, .ref a_o)] := hl
  unfold X12_hourGoes at hf
  refine lv_iconst (v := 0) hx hb dX12_hourGoes_0 (by decide) ?_
  refine lv_istore_n (lv' := [(1, .int 0), (0, .ref a_o)]) hx hb dX12_hourGoes_1 rfl hl (by decide) rfl (fun ls hl => ?_)
  refine lv_iconst (v := 0) hx hb dX12_hourGoes_2 (by decide) ?_
  refine lv_istore_n (lv' := [(2, .int 0), (1, .int 0), (0, .ref a_o)]) hx hb dX12_hourGoes_3 rfl hl (by decide) rfl (fun ls hl => ?_)
  obtain ⟨e4, hit4, hf⟩ := bd hf
  refine iter_W (b := X12_hourGoes_b4 F o_farBy 0) (P := fun st4 => ∀ (H : Heap) (locs : List Loc) (ls : Array Slot), va_P E.1 vwCl (wd_X12_hourGoes E a_o a_o_at a_o_names a_o_sort a_o_trayMany a_o_trays a_o_tape a_o_text a_o_opened a_o_farBy a_o_attendsBy a_o_coveredBy a_o_cameBy a_o_cameThen a_o_fallsBy a_o_loops a_o_ran a_o_told1 o_status o_top o_bottom o_taped o_size o_token o_from o_end o_value o_faultKind o_faultPlace o_faults o_seen o_toldParts o_depth o_counted o_becameThen o_firstCorner o_drawn o_ranSteps o_isTold o_marks st4.2 o_farBy) H → va_D A (wd_X12_hourGoes E a_o a_o_at a_o_names a_o_sort a_o_trayMany a_o_trays a_o_tape a_o_text a_o_opened a_o_farBy a_o_attendsBy a_o_coveredBy a_o_cameBy a_o_cameThen a_o_fallsBy a_o_loops a_o_ran a_o_told1 o_status o_top o_bottom o_taped o_size o_token o_from o_end o_value o_faultKind o_faultPlace o_faults o_seen o_toldParts o_depth o_counted o_becameThen o_firstCorner o_drawn o_ranSteps o_isTold o_marks st4.2 o_farBy) → va_S A s.heap H locs → lv_has ls 3 [(0, .ref a_o), (1, .int 0), (2, .int st4.1)] → W p l e (rmd 6) s m aa below meth cd H locs 0 0 QQ (F0 m 4 ls [])) (G := (fun (e4 : (Nat → Int32)) => ∀ (H : Heap) (locs : List Loc) (ls : Array Slot), va_P E.1 vwCl (wd_X12_hourGoes E a_o a_o_at a_o_names a_o_sort a_o_trayMany a_o_trays a_o_tape a_o_text a_o_opened a_o_farBy a_o_attendsBy a_o_coveredBy a_o_cameBy a_o_cameThen a_o_fallsBy a_o_loops a_o_ran a_o_told1 o_status o_top o_bottom o_taped o_size o_token o_from o_end o_value o_faultKind o_faultPlace o_faults o_seen o_toldParts o_depth o_counted o_becameThen o_firstCorner o_drawn o_ranSteps o_isTold o_marks e4 o_farBy) H → va_D A (wd_X12_hourGoes E a_o a_o_at a_o_names a_o_sort a_o_trayMany a_o_trays a_o_tape a_o_text a_o_opened a_o_farBy a_o_attendsBy a_o_coveredBy a_o_cameBy a_o_cameThen a_o_fallsBy a_o_loops a_o_ran a_o_told1 o_status o_top o_bottom o_taped o_size o_token o_from o_end o_value o_faultKind o_faultPlace o_faults o_seen o_toldParts o_depth o_counted o_becameThen o_firstCorner o_drawn o_ranSteps o_isTold o_marks e4 o_farBy) → va_S A s.heap H locs → lv_has ls 3 [(0, .ref a_o), (1, .int 0)] → W p l e (rmd 6) s m aa below meth cd H locs 0 0 QQ (F0 m 25 ls []))) ?_ F (0, o_at) e4 hit4 ?_ _ _ _ hP hD hS (lv_sub hl [2, 1, 0] rfl)
  · intro st4 r4 hf hk4 he4 H locs ls hP hD hS hl
    unfold X12_hourGoes_b4 at hf
    refine lv_iload_n hx hb dX12_hourGoes_4 rfl (lv_at hl 2 rfl) ?_
    refine lv_aload_n hx hb dX12_hourGoes_5 rfl (lv_at hl 0 rfl) ?_
    refine va_get (D := E.1) (ci := 12) (v := .ref a_o_at) (C := RX12) (T := TX12) (N := 39) hx hb hts inX12 hown hK hP 0 rfl rfl 0 (by decide) (hts _ fl_X12_7) (fun _ h9 => h9) rfl dX12_hourGoes_6 ?_
    refine lv_iconst (v := 2) hx hb dX12_hourGoes_9 (by decide) ?_
    obtain ⟨hi, hf⟩ := ck hf
    refine r_iald 1 cx hP rfl hi dX12_hourGoes_10 ?_
    refine lv_icmp_ge (tgt := 25) hx hb dX12_hourGoes_11 (by decide) (fun hc => ?_) (fun hc => ?_)
    · have hf := it_t hc hf
      exact he4 _ (Option.some.inj hf).symm _ _ _ hP hD hS (lv_sub hl [0, 1] rfl)
    · have hf := it_f hc hf
      refine lv_aload_n hx hb dX12_hourGoes_14 rfl (lv_at hl 0 rfl) ?_
      refine lv_iload_n hx hb dX12_hourGoes_15 rfl (lv_at hl 2 rfl) ?_
      obtain ⟨u16, hu16, hf⟩ := bd hf
      refine callVV (wn := (wd_X12_hourGoes E a_o a_o_at a_o_names a_o_sort a_o_trayMany a_o_trays a_o_tape a_o_text a_o_opened a_o_farBy a_o_attendsBy a_o_coveredBy a_o_cameBy a_o_cameThen a_o_fallsBy a_o_loops a_o_ran a_o_told1 o_status o_top o_bottom o_taped o_size o_token o_from o_end o_value o_faultKind o_faultPlace o_faults o_seen o_toldParts o_depth o_counted o_becameThen o_firstCorner o_drawn o_ranSteps o_isTold o_marks u16 o_farBy)) (n1 := 3) (ct_X12_walks l E F a_o a_o_at a_o_names a_o_sort a_o_trayMany a_o_trays a_o_tape a_o_text a_o_opened a_o_farBy a_o_attendsBy a_o_coveredBy a_o_cameBy a_o_cameThen a_o_fallsBy a_o_loops a_o_ran a_o_told1 o_status o_top o_bottom o_taped o_size o_token o_from o_end o_value o_faultKind o_faultPlace o_faults o_seen o_toldParts o_depth o_counted o_becameThen o_firstCorner o_drawn o_ranSteps o_isTold o_marks st4.2 o_farBy st4.1 u16 hu16) [0, 1, 2] cal_X12_walks cav_X12_walks lk_X12_345 cx hP hD hS hl dX12_hourGoes_16 rfl rfl rfl rfl (Nat.le_of_ble_eq_true rfl) ⟨Nat.le_of_ble_eq_true rfl, Nat.le_of_ble_eq_true rfl⟩ rfl (by decide +kernel) rfl [some 0, some 1, some 2] rfl (by decide +kernel) rfl (fun H locs hP hD hS => ?_)
      refine lv_iinc (v := (st4.1 + 1)) (lv' := [(2, .int (st4.1 + 1)), (0, .ref a_o), (1, .int 0)]) hx hb dX12_hourGoes_19 hl (k := 2) rfl rfl (by decide) rfl (fun ls hl => ?_)
      refine lv_goto (tgt := 4) hx hb dX12_hourGoes_22 (by decide) ?_
      exact hk4 _ (Option.some.inj hf).symm _ _ _ hP hD hS (lv_sub hl [1, 2, 0] rfl)
  · refine fun H locs ls hP hD hS hl => ?_
    refine lv_iconst (v := 0) hx hb dX12_hourGoes_25 (by decide) ?_
    refine lv_istore_n (lv' := [(2, .int 0), (0, .ref a_o), (1, .int 0)]) hx hb dX12_hourGoes_26 rfl hl (by decide) rfl (fun ls hl => ?_)
    obtain ⟨e27, hit27, hf⟩ := bd hf
    refine iter_W (b := X12_hourGoes_b27 F o_farBy) (P := fun st27 => ∀ (H : Heap) (locs : List Loc) (ls : Array Slot), va_P E.1 vwCl (wd_X12_hourGoes E a_o a_o_at a_o_names a_o_sort a_o_trayMany a_o_trays a_o_tape a_o_text a_o_opened a_o_farBy a_o_attendsBy a_o_coveredBy a_o_cameBy a_o_cameThen a_o_fallsBy a_o_loops a_o_ran a_o_told1 o_status o_top o_bottom o_taped o_size o_token o_from o_end o_value o_faultKind o_faultPlace o_faults o_seen o_toldParts o_depth o_counted o_becameThen o_firstCorner o_drawn o_ranSteps o_isTold o_marks st27.2.2 o_farBy) H → va_D A (wd_X12_hourGoes E a_o a_o_at a_o_names a_o_sort a_o_trayMany a_o_trays a_o_tape a_o_text a_o_opened a_o_farBy a_o_attendsBy a_o_coveredBy a_o_cameBy a_o_cameThen a_o_fallsBy a_o_loops a_o_ran a_o_told1 o_status o_top o_bottom o_taped o_size o_token o_from o_end o_value o_faultKind o_faultPlace o_faults o_seen o_toldParts o_depth o_counted o_becameThen o_firstCorner o_drawn o_ranSteps o_isTold o_marks st27.2.2 o_farBy) → va_S A s.heap H locs → lv_has ls 3 [(0, .ref a_o), (1, .int st27.1), (2, .int st27.2.1)] → W p l e (rmd 6) s m aa below meth cd H locs 0 0 QQ (F0 m 27 ls [])) (G := (fun (e27 : Int32 × (Nat → Int32)) => ∀ (H : Heap) (locs : List Loc) (ls : Array Slot), va_P E.1 vwCl (wd_X12_hourGoes E a_o a_o_at a_o_names a_o_sort a_o_trayMany a_o_trays a_o_tape a_o_text a_o_opened a_o_farBy a_o_attendsBy a_o_coveredBy a_o_cameBy a_o_cameThen a_o_fallsBy a_o_loops a_o_ran a_o_told1 o_status o_top o_bottom o_taped o_size o_token o_from o_end o_value o_faultKind o_faultPlace o_faults o_seen o_toldParts o_depth o_counted o_becameThen o_firstCorner o_drawn o_ranSteps o_isTold o_marks e27.2 o_farBy) H → va_D A (wd_X12_hourGoes E a_o a_o_at a_o_names a_o_sort a_o_trayMany a_o_trays a_o_tape a_o_text a_o_opened a_o_farBy a_o_attendsBy a_o_coveredBy a_o_cameBy a_o_cameThen a_o_fallsBy a_o_loops a_o_ran a_o_told1 o_status o_top o_bottom o_taped o_size o_token o_from o_end o_value o_faultKind o_faultPlace o_faults o_seen o_toldParts o_depth o_counted o_becameThen o_firstCorner o_drawn o_ranSteps o_isTold o_marks e27.2 o_farBy) → va_S A s.heap H locs → lv_has ls 3 [(0, .ref a_o), (1, .int e27.1)] → W p l e (rmd 6) s m aa below meth cd H locs 0 0 QQ (F0 m 78 ls []))) ?_ F (0, 0, e4) e27 hit27 ?_ _ _ _ hP hD hS (lv_sub hl [1, 2, 0] rfl)
    · intro st27 r27 hf hk27 he27 H locs ls hP hD hS hl
      have hj72 : ∀ (v1_j72 : Int32) (v2_j72 : Int32) (o_at_j72 : Nat → Int32) (H : Heap) (locs : List Loc) (ls : Array Slot), X12_hourGoes_j72 F o_at_j72 o_farBy v1_j72 v2_j72 = some r27 → va_P E.1 vwCl (wd_X12_hourGoes E a_o a_o_at a_o_names a_o_sort a_o_trayMany a_o_trays a_o_tape a_o_text a_o_opened a_o_farBy a_o_attendsBy a_o_coveredBy a_o_cameBy a_o_cameThen a_o_fallsBy a_o_loops a_o_ran a_o_told1 o_status o_top o_bottom o_taped o_size o_token o_from o_end o_value o_faultKind o_faultPlace o_faults o_seen o_toldParts o_depth o_counted o_becameThen o_firstCorner o_drawn o_ranSteps o_isTold o_marks o_at_j72 o_farBy) H → va_D A (wd_X12_hourGoes E a_o a_o_at a_o_names a_o_sort a_o_trayMany a_o_trays a_o_tape a_o_text a_o_opened a_o_farBy a_o_attendsBy a_o_coveredBy a_o_cameBy a_o_cameThen a_o_fallsBy a_o_loops a_o_ran a_o_told1 o_status o_top o_bottom o_taped o_size o_token o_from o_end o_value o_faultKind o_faultPlace o_faults o_seen o_toldParts o_depth o_counted o_becameThen o_firstCorner o_drawn o_ranSteps o_isTold o_marks o_at_j72 o_farBy) → va_S A s.heap H locs → lv_has ls 3 [(0, .ref a_o), (1, .int v1_j72), (2, .int v2_j72)] → W p l e (rmd 6) s m aa below meth cd H locs 0 0 QQ (F0 m 72 ls []) := by
        intro v1_j72 v2_j72 o_at_j72 H locs ls hf hP hD hS hl
        unfold X12_hourGoes_j72 at hf
        refine lv_iinc (v := (v2_j72 + 1)) (lv' := [(2, .int (v2_j72 + 1)), (0, .ref a_o), (1, .int v1_j72)]) hx hb dX12_hourGoes_72 hl (k := 2) rfl rfl (by decide) rfl (fun ls hl => ?_)
        refine lv_goto (tgt := 27) hx hb dX12_hourGoes_75 (by decide) ?_
        exact hk27 _ (Option.some.inj hf).symm _ _ _ hP hD hS (lv_sub hl [1, 2, 0] rfl)
      unfold X12_hourGoes_b27 at hf
      refine lv_iload_n hx hb dX12_hourGoes_27 rfl (lv_at hl 2 rfl) ?_
      refine lv_aload_n hx hb dX12_hourGoes_28 rfl (lv_at hl 0 rfl) ?_
      refine va_get (D := E.1) (ci := 12) (v := .ref a_o_at) (C := RX12) (T := TX12) (N := 39) hx hb hts inX12 hown hK hP 0 rfl rfl 0 (by decide) (hts _ fl_X12_7) (fun _ h9 => h9) rfl dX12_hourGoes_29 ?_
      refine lv_iconst (v := 3) hx hb dX12_hourGoes_32 (by decide) ?_
      obtain ⟨hi, hf⟩ := ck hf
      refine r_iald 1 cx hP rfl hi dX12_hourGoes_33 ?_
      refine lv_icmp_ge (tgt := 78) hx hb dX12_hourGoes_34 (by decide) (fun hc => ?_) (fun hc => ?_)
      · have hf := it_t hc hf
        exact he27 _ (Option.some.inj hf).symm _ _ _ hP hD hS (lv_sub hl [0, 1] rfl)
      · have hf := it_f hc hf
        refine lv_aload_n hx hb dX12_hourGoes_37 rfl (lv_at hl 0 rfl) ?_
        refine lv_iload_n hx hb dX12_hourGoes_38 rfl (lv_at hl 2 rfl) ?_
        obtain ⟨u39, hu39, hf⟩ := bd hf
        refine keepVI (ct_X12_isToCome l E a_o a_o_at a_o_names a_o_sort a_o_trayMany a_o_trays a_o_tape a_o_text a_o_opened a_o_farBy a_o_attendsBy a_o_coveredBy a_o_cameBy a_o_cameThen a_o_fallsBy a_o_loops a_o_ran a_o_told1 o_status o_top o_bottom o_taped o_size o_token o_from o_end o_value o_faultKind o_faultPlace o_faults o_seen o_toldParts o_depth o_counted o_becameThen o_firstCorner o_drawn o_ranSteps o_isTold o_marks st27.2.2 st27.2.1 u39 hu39) [0, 1] cal_X12_isToCome cav_X12_isToCome lk_X12_333 cx hP hD hS hl dX12_hourGoes_39 rfl rfl rfl rfl (Nat.le_of_ble_eq_true rfl) ⟨Nat.le_of_ble_eq_true rfl, Nat.le_of_ble_eq_true rfl⟩ rfl (by decide) (fun H locs hP hS => ?_)
        refine lv_if_eq (tgt := 72) hx hb dX12_hourGoes_42 (by decide) (fun hc => ?_) (fun hc => ?_)
        · have hf := it_t hc hf
          exact hj72 _ _ _ _ _ _ hf hP hD hS (lv_sub hl [0, 1, 2] rfl)
        · have hf := it_f hc hf
          refine lv_aload_n hx hb dX12_hourGoes_45 rfl (lv_at hl 0 rfl) ?_
          refine lv_iload_n hx hb dX12_hourGoes_46 rfl (lv_at hl 2 rfl) ?_
          refine lv_iconst (v := 1) hx hb dX12_hourGoes_47 (by decide) ?_
          obtain ⟨u48, hu48, hf⟩ := bd hf
          refine keepVI (ct_X12_happeningOf l E a_o a_o_at a_o_names a_o_sort a_o_trayMany a_o_trays a_o_tape a_o_text a_o_opened a_o_farBy a_o_attendsBy a_o_coveredBy a_o_cameBy a_o_cameThen a_o_fallsBy a_o_loops a_o_ran a_o_told1 o_status o_top o_bottom o_taped o_size o_token o_from o_end o_value o_faultKind o_faultPlace o_faults o_seen o_toldParts o_depth o_counted o_becameThen o_firstCorner o_drawn o_ranSteps o_isTold o_marks st27.2.2 st27.2.1 (1 : Int32) u48 hu48) [0, 1] cal_X12_happeningOf cav_X12_happeningOf lk_X12_278 cx hP hD hS hl dX12_hourGoes_48 rfl rfl rfl rfl (Nat.le_of_ble_eq_true rfl) ⟨Nat.le_of_ble_eq_true rfl, Nat.le_of_ble_eq_true rfl⟩ rfl (by decide) (fun H locs hP hS => ?_)
          refine lv_aload_n hx hb dX12_hourGoes_51 rfl (lv_at hl 0 rfl) ?_
          refine va_get (D := E.1) (ci := 12) (v := .ref a_o_at) (C := RX12) (T := TX12) (N := 39) hx hb hts inX12 hown hK hP 0 rfl rfl 0 (by decide) (hts _ fl_X12_7) (fun _ h9 => h9) rfl dX12_hourGoes_52 ?_
          refine lv_bipush (v := 8) hx hb dX12_hourGoes_55 (by decide) ?_
          obtain ⟨hi, hf⟩ := ck hf
          refine r_iald 1 cx hP rfl hi dX12_hourGoes_57 ?_
          refine lv_icmp_ne (tgt := 72) hx hb dX12_hourGoes_58 (by decide) (fun hc => ?_) (fun hc => ?_)
          · have hf := it_f hc hf
            exact hj72 _ _ _ _ _ _ hf hP hD hS (lv_sub hl [0, 1, 2] rfl)
          · have hf := it_t hc hf
            refine lv_aload_n hx hb dX12_hourGoes_61 rfl (lv_at hl 0 rfl) ?_
            refine lv_iload_n hx hb dX12_hourGoes_62 rfl (lv_at hl 2 rfl) ?_
            obtain ⟨u63, hu63, hf⟩ := bd hf
            refine callVI (wn := (wd_X12_hourGoes E a_o a_o_at a_o_names a_o_sort a_o_trayMany a_o_trays a_o_tape a_o_text a_o_opened a_o_farBy a_o_attendsBy a_o_coveredBy a_o_cameBy a_o_cameThen a_o_fallsBy a_o_loops a_o_ran a_o_told1 o_status o_top o_bottom o_taped o_size o_token o_from o_end o_value o_faultKind o_faultPlace o_faults o_seen o_toldParts o_depth o_counted o_becameThen o_firstCorner o_drawn o_ranSteps o_isTold o_marks u63.2 o_farBy)) (n1 := 3) (ct_X12_comesAbout l E F a_o a_o_at a_o_names a_o_sort a_o_trayMany a_o_trays a_o_tape a_o_text a_o_opened a_o_farBy a_o_attendsBy a_o_coveredBy a_o_cameBy a_o_cameThen a_o_fallsBy a_o_loops a_o_ran a_o_told1 o_status o_top o_bottom o_taped o_size o_token o_from o_end o_value o_faultKind o_faultPlace o_faults o_seen o_toldParts o_depth o_counted o_becameThen o_firstCorner o_drawn o_ranSteps o_isTold o_marks st27.2.2 st27.2.1 u63 hu63) [0, 1] cal_X12_comesAbout cav_X12_comesAbout lk_X12_348 cx hP hD hS hl dX12_hourGoes_63 rfl rfl rfl rfl (Nat.le_of_ble_eq_true rfl) ⟨Nat.le_of_ble_eq_true rfl, Nat.le_of_ble_eq_true rfl⟩ rfl (by decide +kernel) rfl [some 0, some 1, none] rfl (by decide +kernel) rfl (fun H locs hP hD hS => ?_)
            refine lv_if_eq (tgt := 72) hx hb dX12_hourGoes_66 (by decide) (fun hc => ?_) (fun hc => ?_)
            · have hf := it_t hc hf
              exact hj72 _ _ _ _ _ _ hf hP hD hS (lv_sub hl [0, 1, 2] rfl)
            · have hf := it_f hc hf
              refine lv_iinc (v := (st27.1 + 1)) (lv' := [(1, .int (st27.1 + 1)), (0, .ref a_o), (2, .int st27.2.1)]) hx hb dX12_hourGoes_69 hl (k := 1) rfl rfl (by decide) rfl (fun ls hl => ?_)
              exact hj72 _ _ _ _ _ _ hf hP hD hS (lv_sub hl [1, 0, 2] rfl)
    · refine fun H locs ls hP hD hS hl => ?_
      refine lv_iconst (v := 0) hx hb dX12_hourGoes_78 (by decide) ?_
      refine lv_istore_n (lv' := [(2, .int 0), (0, .ref a_o), (1, .int e27.1)]) hx hb dX12_hourGoes_79 rfl hl (by decide) rfl (fun ls hl => ?_)
      obtain ⟨e80, hit80, hf⟩ := bd hf
      refine iter_W (b := X12_hourGoes_b80 F o_farBy e27.1) (P := fun st80 => ∀ (H : Heap) (locs : List Loc) (ls : Array Slot), va_P E.1 vwCl (wd_X12_hourGoes E a_o a_o_at a_o_names a_o_sort a_o_trayMany a_o_trays a_o_tape a_o_text a_o_opened a_o_farBy a_o_attendsBy a_o_coveredBy a_o_cameBy a_o_cameThen a_o_fallsBy a_o_loops a_o_ran a_o_told1 o_status o_top o_bottom o_taped o_size o_token o_from o_end o_value o_faultKind o_faultPlace o_faults o_seen o_toldParts o_depth o_counted o_becameThen o_firstCorner o_drawn o_ranSteps o_isTold o_marks st80.2 o_farBy) H → va_D A (wd_X12_hourGoes E a_o a_o_at a_o_names a_o_sort a_o_trayMany a_o_trays a_o_tape a_o_text a_o_opened a_o_farBy a_o_attendsBy a_o_coveredBy a_o_cameBy a_o_cameThen a_o_fallsBy a_o_loops a_o_ran a_o_told1 o_status o_top o_bottom o_taped o_size o_token o_from o_end o_value o_faultKind o_faultPlace o_faults o_seen o_toldParts o_depth o_counted o_becameThen o_firstCorner o_drawn o_ranSteps o_isTold o_marks st80.2 o_farBy) → va_S A s.heap H locs → lv_has ls 3 [(0, .ref a_o), (1, .int e27.1), (2, .int st80.1)] → W p l e (rmd 6) s m aa below meth cd H locs 0 0 QQ (F0 m 80 ls [])) (G := (fun (e80 : (Nat → Int32)) => ∀ (H : Heap) (locs : List Loc) (ls : Array Slot), va_P E.1 vwCl (wd_X12_hourGoes E a_o a_o_at a_o_names a_o_sort a_o_trayMany a_o_trays a_o_tape a_o_text a_o_opened a_o_farBy a_o_attendsBy a_o_coveredBy a_o_cameBy a_o_cameThen a_o_fallsBy a_o_loops a_o_ran a_o_told1 o_status o_top o_bottom o_taped o_size o_token o_from o_end o_value o_faultKind o_faultPlace o_faults o_seen o_toldParts o_depth o_counted o_becameThen o_firstCorner o_drawn o_ranSteps o_isTold o_marks e80 o_farBy) H → va_D A (wd_X12_hourGoes E a_o a_o_at a_o_names a_o_sort a_o_trayMany a_o_trays a_o_tape a_o_text a_o_opened a_o_farBy a_o_attendsBy a_o_coveredBy a_o_cameBy a_o_cameThen a_o_fallsBy a_o_loops a_o_ran a_o_told1 o_status o_top o_bottom o_taped o_size o_token o_from o_end o_value o_faultKind o_faultPlace o_faults o_seen o_toldParts o_depth o_counted o_becameThen o_firstCorner o_drawn o_ranSteps o_isTold o_marks e80 o_farBy) → va_S A s.heap H locs → lv_has ls 3 [(0, .ref a_o), (1, .int e27.1)] → W p l e (rmd 6) s m aa below meth cd H locs 0 0 QQ (F0 m 123 ls []))) ?_ F (0, e27.2) e80 hit80 ?_ _ _ _ hP hD hS (lv_sub hl [1, 2, 0] rfl)
      · intro st80 r80 hf hk80 he80 H locs ls hP hD hS hl
        have hj117 : ∀ (v2_j117 : Int32) (o_at_j117 : Nat → Int32) (H : Heap) (locs : List Loc) (ls : Array Slot), X12_hourGoes_j117 F o_at_j117 o_farBy e27.1 v2_j117 = some r80 → va_P E.1 vwCl (wd_X12_hourGoes E a_o a_o_at a_o_names a_o_sort a_o_trayMany a_o_trays a_o_tape a_o_text a_o_opened a_o_farBy a_o_attendsBy a_o_coveredBy a_o_cameBy a_o_cameThen a_o_fallsBy a_o_loops a_o_ran a_o_told1 o_status o_top o_bottom o_taped o_size o_token o_from o_end o_value o_faultKind o_faultPlace o_faults o_seen o_toldParts o_depth o_counted o_becameThen o_firstCorner o_drawn o_ranSteps o_isTold o_marks o_at_j117 o_farBy) H → va_D A (wd_X12_hourGoes E a_o a_o_at a_o_names a_o_sort a_o_trayMany a_o_trays a_o_tape a_o_text a_o_opened a_o_farBy a_o_attendsBy a_o_coveredBy a_o_cameBy a_o_cameThen a_o_fallsBy a_o_loops a_o_ran a_o_told1 o_status o_top o_bottom o_taped o_size o_token o_from o_end o_value o_faultKind o_faultPlace o_faults o_seen o_toldParts o_depth o_counted o_becameThen o_firstCorner o_drawn o_ranSteps o_isTold o_marks o_at_j117 o_farBy) → va_S A s.heap H locs → lv_has ls 3 [(0, .ref a_o), (1, .int e27.1), (2, .int v2_j117)] → W p l e (rmd 6) s m aa below meth cd H locs 0 0 QQ (F0 m 117 ls []) := by
          intro v2_j117 o_at_j117 H locs ls hf hP hD hS hl
          unfold X12_hourGoes_j117 at hf
          refine lv_iinc (v := (v2_j117 + 1)) (lv' := [(2, .int (v2_j117 + 1)), (0, .ref a_o), (1, .int e27.1)]) hx hb dX12_hourGoes_117 hl (k := 2) rfl rfl (by decide) rfl (fun ls hl => ?_)
          refine lv_goto (tgt := 80) hx hb dX12_hourGoes_120 (by decide) ?_
          exact hk80 _ (Option.some.inj hf).symm _ _ _ hP hD hS (lv_sub hl [1, 2, 0] rfl)
        unfold X12_hourGoes_b80 at hf
        refine lv_iload_n hx hb dX12_hourGoes_80 rfl (lv_at hl 2 rfl) ?_
        refine lv_aload_n hx hb dX12_hourGoes_81 rfl (lv_at hl 0 rfl) ?_
        refine va_get (D := E.1) (ci := 12) (v := .ref a_o_at) (C := RX12) (T := TX12) (N := 39) hx hb hts inX12 hown hK hP 0 rfl rfl 0 (by decide) (hts _ fl_X12_7) (fun _ h9 => h9) rfl dX12_hourGoes_82 ?_
        refine lv_iconst (v := 4) hx hb dX12_hourGoes_85 (by decide) ?_
        obtain ⟨hi, hf⟩ := ck hf
        refine r_iald 1 cx hP rfl hi dX12_hourGoes_86 ?_
        refine lv_icmp_ge (tgt := 123) hx hb dX12_hourGoes_87 (by decide) (fun hc => ?_) (fun hc => ?_)
        · have hf := it_t hc hf
          exact he80 _ (Option.some.inj hf).symm _ _ _ hP hD hS (lv_sub hl [0, 1] rfl)
        · have hf := it_f hc hf
          refine lv_aload_n hx hb dX12_hourGoes_90 rfl (lv_at hl 0 rfl) ?_
          refine lv_aload_n hx hb dX12_hourGoes_91 rfl (lv_at hl 0 rfl) ?_
          refine lv_iload_n hx hb dX12_hourGoes_92 rfl (lv_at hl 2 rfl) ?_
          refine lv_iconst (v := 0) hx hb dX12_hourGoes_93 (by decide) ?_
          obtain ⟨u94, hu94, hf⟩ := bd hf
          refine keepVI (ct_X12_watcherOf l E a_o a_o_at a_o_names a_o_sort a_o_trayMany a_o_trays a_o_tape a_o_text a_o_opened a_o_farBy a_o_attendsBy a_o_coveredBy a_o_cameBy a_o_cameThen a_o_fallsBy a_o_loops a_o_ran a_o_told1 o_status o_top o_bottom o_taped o_size o_token o_from o_end o_value o_faultKind o_faultPlace o_faults o_seen o_toldParts o_depth o_counted o_becameThen o_firstCorner o_drawn o_ranSteps o_isTold o_marks st80.2 st80.1 (0 : Int32) u94 hu94) [0, 1] cal_X12_watcherOf cav_X12_watcherOf lk_X12_308 cx hP hD hS hl dX12_hourGoes_94 rfl rfl rfl rfl (Nat.le_of_ble_eq_true rfl) ⟨Nat.le_of_ble_eq_true rfl, Nat.le_of_ble_eq_true rfl⟩ rfl (by decide) (fun H locs hP hS => ?_)
          obtain ⟨u97, hu97, hf⟩ := bd hf
          refine keepVI (ct_X12_standingAt l E F a_o a_o_at a_o_names a_o_sort a_o_trayMany a_o_trays a_o_tape a_o_text a_o_opened a_o_farBy a_o_attendsBy a_o_coveredBy a_o_cameBy a_o_cameThen a_o_fallsBy a_o_loops a_o_ran a_o_told1 o_status o_top o_bottom o_taped o_size o_token o_from o_end o_value o_faultKind o_faultPlace o_faults o_seen o_toldParts o_depth o_counted o_becameThen o_firstCorner o_drawn o_ranSteps o_isTold o_marks st80.2 u94 u97 hu97) [0, 1] cal_X12_standingAt cav_X12_standingAt lk_X12_299 cx hP hD hS hl dX12_hourGoes_97 rfl rfl rfl rfl (Nat.le_of_ble_eq_true rfl) ⟨Nat.le_of_ble_eq_true rfl, Nat.le_of_ble_eq_true rfl⟩ rfl (by decide) (fun H locs hP hS => ?_)
          obtain ⟨u100, hu100, hf⟩ := bd hf
          refine keepSI (ct_X12_bits l E F u97 u100 hu100) [] cal_X12_bits sta_X12_bits lk_X12_302 cx hP hD hS hl dX12_hourGoes_100 rfl rfl (Nat.le_of_ble_eq_true rfl) ⟨Nat.le_of_ble_eq_true rfl, Nat.le_of_ble_eq_true rfl⟩ rfl (by decide) (fun H locs hP hS => ?_)
          refine lv_aload_n hx hb dX12_hourGoes_103 rfl (lv_at hl 0 rfl) ?_
          refine lv_iload_n hx hb dX12_hourGoes_104 rfl (lv_at hl 2 rfl) ?_
          refine lv_iconst (v := 1) hx hb dX12_hourGoes_105 (by decide) ?_
          obtain ⟨u106, hu106, hf⟩ := bd hf
          refine keepVI (ct_X12_watcherOf l E a_o a_o_at a_o_names a_o_sort a_o_trayMany a_o_trays a_o_tape a_o_text a_o_opened a_o_farBy a_o_attendsBy a_o_coveredBy a_o_cameBy a_o_cameThen a_o_fallsBy a_o_loops a_o_ran a_o_told1 o_status o_top o_bottom o_taped o_size o_token o_from o_end o_value o_faultKind o_faultPlace o_faults o_seen o_toldParts o_depth o_counted o_becameThen o_firstCorner o_drawn o_ranSteps o_isTold o_marks st80.2 st80.1 (1 : Int32) u106 hu106) [0, 1] cal_X12_watcherOf cav_X12_watcherOf lk_X12_308 cx hP hD hS hl dX12_hourGoes_106 rfl rfl rfl rfl (Nat.le_of_ble_eq_true rfl) ⟨Nat.le_of_ble_eq_true rfl, Nat.le_of_ble_eq_true rfl⟩ rfl (by decide) (fun H locs hP hS => ?_)
          refine lv_icmp_lt (tgt := 117) hx hb dX12_hourGoes_109 (by decide) (fun hc => ?_) (fun hc => ?_)
          · have hf := it_t hc hf
            exact hj117 _ _ _ _ _ hf hP hD hS (lv_sub hl [0, 1, 2] rfl)
          · have hf := it_f hc hf
            refine lv_aload_n hx hb dX12_hourGoes_112 rfl (lv_at hl 0 rfl) ?_
            refine lv_iload_n hx hb dX12_hourGoes_113 rfl (lv_at hl 2 rfl) ?_
            obtain ⟨u114, hu114, hf⟩ := bd hf
            refine callVV (wn := (wd_X12_hourGoes E a_o a_o_at a_o_names a_o_sort a_o_trayMany a_o_trays a_o_tape a_o_text a_o_opened a_o_farBy a_o_attendsBy a_o_coveredBy a_o_cameBy a_o_cameThen a_o_fallsBy a_o_loops a_o_ran a_o_told1 o_status o_top o_bottom o_taped o_size o_token o_from o_end o_value o_faultKind o_faultPlace o_faults o_seen o_toldParts o_depth o_counted o_becameThen o_firstCorner o_drawn o_ranSteps o_isTold o_marks u114 o_farBy)) (n1 := 3) (ct_X12_warns l E F a_o a_o_at a_o_names a_o_sort a_o_trayMany a_o_trays a_o_tape a_o_text a_o_opened a_o_farBy a_o_attendsBy a_o_coveredBy a_o_cameBy a_o_cameThen a_o_fallsBy a_o_loops a_o_ran a_o_told1 o_status o_top o_bottom o_taped o_size o_token o_from o_end o_value o_faultKind o_faultPlace o_faults o_seen o_toldParts o_depth o_counted o_becameThen o_firstCorner o_drawn o_ranSteps o_isTold o_marks st80.2 st80.1 u114 hu114) [0, 1] cal_X12_warns cav_X12_warns lk_X12_351 cx hP hD hS hl dX12_hourGoes_114 rfl rfl rfl rfl (Nat.le_of_ble_eq_true rfl) ⟨Nat.le_of_ble_eq_true rfl, Nat.le_of_ble_eq_true rfl⟩ rfl (by decide +kernel) rfl [some 0, some 1, none] rfl (by decide +kernel) rfl (fun H locs hP hD hS => ?_)
            exact hj117 _ _ _ _ _ hf hP hD hS (lv_sub hl [0, 1, 2] rfl)
      · refine fun H locs ls hP hD hS hl => ?_
        refine lv_aload_n hx hb dX12_hourGoes_123 rfl (lv_at hl 0 rfl) ?_
        refine va_get (D := E.1) (ci := 12) (v := .ref a_o_at) (C := RX12) (T := TX12) (N := 39) hx hb hts inX12 hown hK hP 0 rfl rfl 0 (by decide) (hts _ fl_X12_7) (fun _ h9 => h9) rfl dX12_hourGoes_124 ?_
        refine lv_bipush (v := 8) hx hb dX12_hourGoes_127 (by decide) ?_
        refine lv_dup2_11 hx hb dX12_hourGoes_129 rfl rfl ?_
        obtain ⟨hi, hf⟩ := ck hf
        refine r_iald 1 cx hP rfl hi dX12_hourGoes_130 ?_
        refine lv_iconst (v := 1) hx hb dX12_hourGoes_131 (by decide) ?_
        refine lv_iadd hx hb dX12_hourGoes_132 ?_
        obtain ⟨hi, hf⟩ := ck hf
        refine r_iast 1 cx hP hD hS rfl hi dX12_hourGoes_133 (fun H locs hP hD hS => ?_)
        have hP : va_P E.1 vwCl (wd_X12_hourGoes E a_o a_o_at a_o_names a_o_sort a_o_trayMany a_o_trays a_o_tape a_o_text a_o_opened a_o_farBy a_o_attendsBy a_o_coveredBy a_o_cameBy a_o_cameThen a_o_fallsBy a_o_loops a_o_ran a_o_told1 o_status o_top o_bottom o_taped o_size o_token o_from o_end o_value o_faultKind o_faultPlace o_faults o_seen o_toldParts o_depth o_counted o_becameThen o_firstCorner o_drawn o_ranSteps o_isTold o_marks (jput e80 8 ((jat e80 8) + 1)) o_farBy) H := hP
        have hD : va_D A (wd_X12_hourGoes E a_o a_o_at a_o_names a_o_sort a_o_trayMany a_o_trays a_o_tape a_o_text a_o_opened a_o_farBy a_o_attendsBy a_o_coveredBy a_o_cameBy a_o_cameThen a_o_fallsBy a_o_loops a_o_ran a_o_told1 o_status o_top o_bottom o_taped o_size o_token o_from o_end o_value o_faultKind o_faultPlace o_faults o_seen o_toldParts o_depth o_counted o_becameThen o_firstCorner o_drawn o_ranSteps o_isTold o_marks (jput e80 8 ((jat e80 8) + 1)) o_farBy) := hD
        refine lv_iload_n hx hb dX12_hourGoes_134 rfl (lv_at hl 1 rfl) ?_
        obtain rfl := Option.some.inj hf
        subst hq
        exact retI cx hP hD hS dX12_hourGoes_135
def X12_hoursGo_b8 (F : Nat) (o_farBy : Nat → Int32) (v1 : Int32) (st8 : Int32 × Int32 × (Nat → Int32)) : Option ((Int32 × Int32 × (Nat → Int32)) ⊕ ((Int32 × (Nat → Int32)))) :=
  if v1 ≤ st8.2.1 then
  some (.inr (st8.1, st8.2.2))
  else
  (X12_hourGoes F st8.2.2 o_farBy).bind fun u15 =>
  some (.inl ((st8.1 + u15.1), (st8.2.1 + 1), u15.2))
def X12_hoursGo (F : Nat) (o_at : Nat → Int32) (o_farBy : Nat → Int32) (v1 : Int32) : Option (Int32 × (Nat → Int32) × (Nat → Int32)) :=
  (X12_laysFar F o_at o_farBy).bind fun u1 =>
  (iter (X12_hoursGo_b8 F u1 v1) F (0, 0, o_at)).bind (fun (e8 : Int32 × (Nat → Int32)) =>
    some (e8.1, e8.2, u1))
abbrev wd_X12_hoursGo (E : vE) (a_o a_o_at a_o_names a_o_sort a_o_trayMany a_o_trays a_o_tape a_o_text a_o_opened a_o_farBy a_o_attendsBy a_o_coveredBy a_o_cameBy a_o_cameThen a_o_fallsBy a_o_loops a_o_ran a_o_told1 : Nat) (o_status : Int32) (o_top : Int64) (o_bottom : Int64) (o_taped : Int32) (o_size : Int32) (o_token : Int32) (o_from : Int32) (o_end : Int32) (o_value : Int32) (o_faultKind : Int32) (o_faultPlace : Int32) (o_faults : Int32) (o_seen : Int32) (o_toldParts : Int32) (o_depth : Int32) (o_counted : Int32) (o_becameThen : Int32) (o_firstCorner : Int32) (o_drawn : Int32) (o_ranSteps : Int32) (o_isTold : Int32) (o_marks : Int32) (o_at : Nat → Int32) (o_farBy : Nat → Int32) : va_W := [(a_o, .inr (12, [.ref a_o_at, .ref a_o_names, .int o_status, .long o_top, .long o_bottom, .ref a_o_sort, .ref a_o_trayMany, .ref a_o_trays, .ref a_o_tape, .ref a_o_text, .int o_taped, .int o_size, .int o_token, .int o_from, .int o_end, .int o_value, .int o_faultKind, .int o_faultPlace, .int o_faults, .int o_seen, .int o_toldParts, .ref a_o_opened, .int o_depth, .int o_counted, .ref a_o_farBy, .int o_becameThen, .ref a_o_attendsBy, .ref a_o_coveredBy, .ref a_o_cameBy, .ref a_o_cameThen, .int o_firstCorner, .ref a_o_fallsBy, .int o_drawn, .int o_ranSteps, .ref a_o_loops, .ref a_o_ran, .ref a_o_told1, .int o_isTold, .int o_marks])), (a_o_at, .inl (E.2.1, 3097, .inl o_at)), (a_o_farBy, .inl (E.2.1, 64, .inl o_farBy))]
set_option maxHeartbeats 4000000 in
set_option maxRecDepth 100000 in
theorem ct_X12_hoursGo (l : Launch) (E : vE) (F : Nat) (a_o a_o_at a_o_names a_o_sort a_o_trayMany a_o_trays a_o_tape a_o_text a_o_opened a_o_farBy a_o_attendsBy a_o_coveredBy a_o_cameBy a_o_cameThen a_o_fallsBy a_o_loops a_o_ran a_o_told1 : Nat) (o_status : Int32) (o_top : Int64) (o_bottom : Int64) (o_taped : Int32) (o_size : Int32) (o_token : Int32) (o_from : Int32) (o_end : Int32) (o_value : Int32) (o_faultKind : Int32) (o_faultPlace : Int32) (o_faults : Int32) (o_seen : Int32) (o_toldParts : Int32) (o_depth : Int32) (o_counted : Int32) (o_becameThen : Int32) (o_firstCorner : Int32) (o_drawn : Int32) (o_ranSteps : Int32) (o_isTold : Int32) (o_marks : Int32) (o_at : Nat → Int32) (o_farBy : Nat → Int32) (v1 : Int32) (u : Int32 × (Nat → Int32) × (Nat → Int32)) (hf : X12_hoursGo F o_at o_farBy v1 = some u) :
    CtI l yX12_hoursGo cX12_hoursGo 4 (some .int) 7 E [.ref a_o, .int v1] (wd_X12_hoursGo E a_o a_o_at a_o_names a_o_sort a_o_trayMany a_o_trays a_o_tape a_o_text a_o_opened a_o_farBy a_o_attendsBy a_o_coveredBy a_o_cameBy a_o_cameThen a_o_fallsBy a_o_loops a_o_ran a_o_told1 o_status o_top o_bottom o_taped o_size o_token o_from o_end o_value o_faultKind o_faultPlace o_faults o_seen o_toldParts o_depth o_counted o_becameThen o_firstCorner o_drawn o_ranSteps o_isTold o_marks o_at o_farBy) (wd_X12_hoursGo E a_o a_o_at a_o_names a_o_sort a_o_trayMany a_o_trays a_o_tape a_o_text a_o_opened a_o_farBy a_o_attendsBy a_o_coveredBy a_o_cameBy a_o_cameThen a_o_fallsBy a_o_loops a_o_ran a_o_told1 o_status o_top o_bottom o_taped o_size o_token o_from o_end o_value o_faultKind o_faultPlace o_faults o_seen o_toldParts o_depth o_counted o_becameThen o_firstCorner o_drawn o_ranSteps o_isTold o_marks u.2.1 u.2.2) u.1 := by
  refine ctI (by decide) (Nat.le_of_ble_eq_true rfl) ?_
  intro p e s m below meth cd A ls aa QQ hq cx hP hD hS hl
  obtain ⟨⟨hx, hb, hml, hown, hts⟩, hr, hlocks, hK, hA, hX⟩ := id cx
  have hl : lv_has ls 4 [(0, .ref a_o), (1, .int v1)] := hl
  unfold X12_hoursGo at hf
  refine lv_aload_n hx hb dX12_hoursGo_0 rfl (lv_at hl 0 rfl) ?_
  obtain ⟨u1, hu1, hf⟩ := bd hf
  refine callVV (wn := (wd_X12_hoursGo E a_o a_o_at a_o_names a_o_sort a_o_trayMany a_o_trays a_o_tape a_o_text a_o_opened a_o_farBy a_o_attendsBy a_o_coveredBy a_o_cameBy a_o_cameThen a_o_fallsBy a_o_loops a_o_ran a_o_told1 o_status o_top o_bottom o_taped o_size o_token o_from o_end o_value o_faultKind o_faultPlace o_faults o_seen o_toldParts o_depth o_counted o_becameThen o_firstCorner o_drawn o_ranSteps o_isTold o_marks o_at u1)) (n1 := 3) (ct_X12_laysFar l E F a_o a_o_at a_o_names a_o_sort a_o_trayMany a_o_trays a_o_tape a_o_text a_o_opened a_o_farBy a_o_attendsBy a_o_coveredBy a_o_cameBy a_o_cameThen a_o_fallsBy a_o_loops a_o_ran a_o_told1 o_status o_top o_bottom o_taped o_size o_token o_from o_end o_value o_faultKind o_faultPlace o_faults o_seen o_toldParts o_depth o_counted o_becameThen o_firstCorner o_drawn o_ranSteps o_isTold o_marks o_at o_farBy u1 hu1) [0, 1, 2] cal_X12_laysFar cav_X12_laysFar lk_X12_318 cx hP hD hS hl dX12_hoursGo_1 rfl rfl rfl rfl (Nat.le_of_ble_eq_true rfl) ⟨Nat.le_of_ble_eq_true rfl, Nat.le_of_ble_eq_true rfl⟩ rfl (by decide +kernel) rfl [some 0, some 1, some 2] rfl (by decide +kernel) rfl (fun H locs hP hD hS => ?_)
  refine lv_iconst (v := 0) hx hb dX12_hoursGo_4 (by decide) ?_
  refine lv_istore_n (lv' := [(2, .int 0), (0, .ref a_o), (1, .int v1)]) hx hb dX12_hoursGo_5 rfl hl (by decide) rfl (fun ls hl => ?_)
  refine lv_iconst (v := 0) hx hb dX12_hoursGo_6 (by decide) ?_
  refine lv_istore_n (lv' := [(3, .int 0), (2, .int 0), (0, .ref a_o), (1, .int v1)]) hx hb dX12_hoursGo_7 rfl hl (by decide) rfl (fun ls hl => ?_)
  obtain ⟨e8, hit8, hf⟩ := bd hf
  refine iter_W (b := X12_hoursGo_b8 F u1 v1) (P := fun st8 => ∀ (H : Heap) (locs : List Loc) (ls : Array Slot), va_P E.1 vwCl (wd_X12_hoursGo E a_o a_o_at a_o_names a_o_sort a_o_trayMany a_o_trays a_o_tape a_o_text a_o_opened a_o_farBy a_o_attendsBy a_o_coveredBy a_o_cameBy a_o_cameThen a_o_fallsBy a_o_loops a_o_ran a_o_told1 o_status o_top o_bottom o_taped o_size o_token o_from o_end o_value o_faultKind o_faultPlace o_faults o_seen o_toldParts o_depth o_counted o_becameThen o_firstCorner o_drawn o_ranSteps o_isTold o_marks st8.2.2 u1) H → va_D A (wd_X12_hoursGo E a_o a_o_at a_o_names a_o_sort a_o_trayMany a_o_trays a_o_tape a_o_text a_o_opened a_o_farBy a_o_attendsBy a_o_coveredBy a_o_cameBy a_o_cameThen a_o_fallsBy a_o_loops a_o_ran a_o_told1 o_status o_top o_bottom o_taped o_size o_token o_from o_end o_value o_faultKind o_faultPlace o_faults o_seen o_toldParts o_depth o_counted o_becameThen o_firstCorner o_drawn o_ranSteps o_isTold o_marks st8.2.2 u1) → va_S A s.heap H locs → lv_has ls 4 [(0, .ref a_o), (1, .int v1), (2, .int st8.1), (3, .int st8.2.1)] → W p l e (rmd 7) s m aa below meth cd H locs 0 0 QQ (F0 m 8 ls [])) (G := (fun (e8 : Int32 × (Nat → Int32)) => ∀ (H : Heap) (locs : List Loc) (ls : Array Slot), va_P E.1 vwCl (wd_X12_hoursGo E a_o a_o_at a_o_names a_o_sort a_o_trayMany a_o_trays a_o_tape a_o_text a_o_opened a_o_farBy a_o_attendsBy a_o_coveredBy a_o_cameBy a_o_cameThen a_o_fallsBy a_o_loops a_o_ran a_o_told1 o_status o_top o_bottom o_taped o_size o_token o_from o_end o_value o_faultKind o_faultPlace o_faults o_seen o_toldParts o_depth o_counted o_becameThen o_firstCorner o_drawn o_ranSteps o_isTold o_marks e8.2 u1) H → va_D A (wd_X12_hoursGo E a_o a_o_at a_o_names a_o_sort a_o_trayMany a_o_trays a_o_tape a_o_text a_o_opened a_o_farBy a_o_attendsBy a_o_coveredBy a_o_cameBy a_o_cameThen a_o_fallsBy a_o_loops a_o_ran a_o_told1 o_status o_top o_bottom o_taped o_size o_token o_from o_end o_value o_faultKind o_faultPlace o_faults o_seen o_toldParts o_depth o_counted o_becameThen o_firstCorner o_drawn o_ranSteps o_isTold o_marks e8.2 u1) → va_S A s.heap H locs → lv_has ls 4 [(2, .int e8.1)] → W p l e (rmd 7) s m aa below meth cd H locs 0 0 QQ (F0 m 26 ls []))) ?_ F (0, 0, o_at) e8 hit8 ?_ _ _ _ hP hD hS (lv_sub hl [2, 3, 1, 0] rfl)
  · intro st8 r8 hf hk8 he8 H locs ls hP hD hS hl
    unfold X12_hoursGo_b8 at hf
    refine lv_iload_n hx hb dX12_hoursGo_8 rfl (lv_at hl 3 rfl) ?_
    refine lv_iload_n hx hb dX12_hoursGo_9 rfl (lv_at hl 1 rfl) ?_
    refine lv_icmp_ge (tgt := 26) hx hb dX12_hoursGo_10 (by decide) (fun hc => ?_) (fun hc => ?_)
    · have hf := it_t hc hf
      exact he8 _ (Option.some.inj hf).symm _ _ _ hP hD hS (lv_sub hl [2] rfl)
    · have hf := it_f hc hf
      refine lv_iload_n hx hb dX12_hoursGo_13 rfl (lv_at hl 2 rfl) ?_
      refine lv_aload_n hx hb dX12_hoursGo_14 rfl (lv_at hl 0 rfl) ?_
      obtain ⟨u15, hu15, hf⟩ := bd hf
      refine callVI (wn := (wd_X12_hoursGo E a_o a_o_at a_o_names a_o_sort a_o_trayMany a_o_trays a_o_tape a_o_text a_o_opened a_o_farBy a_o_attendsBy a_o_coveredBy a_o_cameBy a_o_cameThen a_o_fallsBy a_o_loops a_o_ran a_o_told1 o_status o_top o_bottom o_taped o_size o_token o_from o_end o_value o_faultKind o_faultPlace o_faults o_seen o_toldParts o_depth o_counted o_becameThen o_firstCorner o_drawn o_ranSteps o_isTold o_marks u15.2 u1)) (n1 := 3) (ct_X12_hourGoes l E F a_o a_o_at a_o_names a_o_sort a_o_trayMany a_o_trays a_o_tape a_o_text a_o_opened a_o_farBy a_o_attendsBy a_o_coveredBy a_o_cameBy a_o_cameThen a_o_fallsBy a_o_loops a_o_ran a_o_told1 o_status o_top o_bottom o_taped o_size o_token o_from o_end o_value o_faultKind o_faultPlace o_faults o_seen o_toldParts o_depth o_counted o_becameThen o_firstCorner o_drawn o_ranSteps o_isTold o_marks st8.2.2 u1 u15 hu15) [0, 1, 2] cal_X12_hourGoes cav_X12_hourGoes lk_X12_354 cx hP hD hS hl dX12_hoursGo_15 rfl rfl rfl rfl (Nat.le_of_ble_eq_true rfl) ⟨Nat.le_of_ble_eq_true rfl, Nat.le_of_ble_eq_true rfl⟩ rfl (by decide +kernel) rfl [some 0, some 1, some 2] rfl (by decide +kernel) rfl (fun H locs hP hD hS => ?_)
      refine lv_iadd hx hb dX12_hoursGo_18 ?_
      refine lv_istore_n (lv' := [(2, .int (st8.1 + u15.1)), (0, .ref a_o), (1, .int v1), (3, .int st8.2.1)]) hx hb dX12_hoursGo_19 rfl hl (by decide) rfl (fun ls hl => ?_)
      refine lv_iinc (v := (st8.2.1 + 1)) (lv' := [(3, .int (st8.2.1 + 1)), (2, .int (st8.1 + u15.1)), (0, .ref a_o), (1, .int v1)]) hx hb dX12_hoursGo_20 hl (k := 3) rfl rfl (by decide) rfl (fun ls hl => ?_)
      refine lv_goto (tgt := 8) hx hb dX12_hoursGo_23 (by decide) ?_
      exact hk8 _ (Option.some.inj hf).symm _ _ _ hP hD hS (lv_sub hl [2, 3, 1, 0] rfl)
  · refine fun H locs ls hP hD hS hl => ?_
    refine lv_iload_n hx hb dX12_hoursGo_26 rfl (lv_at hl 0 rfl) ?_
    obtain rfl := Option.some.inj hf
    subst hq
    exact retI cx hP hD hS dX12_hoursGo_27
def X12_hour (F : Nat) (o_status : Int32) (o_at : Nat → Int32) (o_farBy : Nat → Int32) (v1 : Int32) : Option (Int32 × Int32 × (Nat → Int32) × (Nat → Int32)) :=
  (X12_isFrom (v1.toInt64) (1 : Int64) (99 : Int64)).bind fun u6 =>
  if u6 = 0 then
  (X12_refuse o_status (1 : Int32)).bind fun u14 =>
  some (u14.1, u14.2, o_at, o_farBy)
  else
  if ix 8 3097 then
  if ((jat o_at 8) + v1) ≤ 9999 then
  (X12_hoursGo F o_at o_farBy v1).bind fun u44 =>
  (X12_gives o_status u44.1).bind fun u47 =>
  some (u47.1, u47.2, u44.2.1, u44.2.2)
  else
  (X12_refuse o_status (4 : Int32)).bind fun u35 =>
  some (u35.1, u35.2, o_at, o_farBy)
  else none
abbrev wd_X12_hour (E : vE) (a_o a_o_at a_o_names a_o_sort a_o_trayMany a_o_trays a_o_tape a_o_text a_o_opened a_o_farBy a_o_attendsBy a_o_coveredBy a_o_cameBy a_o_cameThen a_o_fallsBy a_o_loops a_o_ran a_o_told1 : Nat) (o_status : Int32) (o_top : Int64) (o_bottom : Int64) (o_taped : Int32) (o_size : Int32) (o_token : Int32) (o_from : Int32) (o_end : Int32) (o_value : Int32) (o_faultKind : Int32) (o_faultPlace : Int32) (o_faults : Int32) (o_seen : Int32) (o_toldParts : Int32) (o_depth : Int32) (o_counted : Int32) (o_becameThen : Int32) (o_firstCorner : Int32) (o_drawn : Int32) (o_ranSteps : Int32) (o_isTold : Int32) (o_marks : Int32) (o_at : Nat → Int32) (o_farBy : Nat → Int32) : va_W := [(a_o, .inr (12, [.ref a_o_at, .ref a_o_names, .int o_status, .long o_top, .long o_bottom, .ref a_o_sort, .ref a_o_trayMany, .ref a_o_trays, .ref a_o_tape, .ref a_o_text, .int o_taped, .int o_size, .int o_token, .int o_from, .int o_end, .int o_value, .int o_faultKind, .int o_faultPlace, .int o_faults, .int o_seen, .int o_toldParts, .ref a_o_opened, .int o_depth, .int o_counted, .ref a_o_farBy, .int o_becameThen, .ref a_o_attendsBy, .ref a_o_coveredBy, .ref a_o_cameBy, .ref a_o_cameThen, .int o_firstCorner, .ref a_o_fallsBy, .int o_drawn, .int o_ranSteps, .ref a_o_loops, .ref a_o_ran, .ref a_o_told1, .int o_isTold, .int o_marks])), (a_o_at, .inl (E.2.1, 3097, .inl o_at)), (a_o_farBy, .inl (E.2.1, 64, .inl o_farBy))]
set_option maxHeartbeats 4000000 in
set_option maxRecDepth 100000 in
theorem ct_X12_hour (l : Launch) (E : vE) (F : Nat) (a_o a_o_at a_o_names a_o_sort a_o_trayMany a_o_trays a_o_tape a_o_text a_o_opened a_o_farBy a_o_attendsBy a_o_coveredBy a_o_cameBy a_o_cameThen a_o_fallsBy a_o_loops a_o_ran a_o_told1 : Nat) (o_status : Int32) (o_top : Int64) (o_bottom : Int64) (o_taped : Int32) (o_size : Int32) (o_token : Int32) (o_from : Int32) (o_end : Int32) (o_value : Int32) (o_faultKind : Int32) (o_faultPlace : Int32) (o_faults : Int32) (o_seen : Int32) (o_toldParts : Int32) (o_depth : Int32) (o_counted : Int32) (o_becameThen : Int32) (o_firstCorner : Int32) (o_drawn : Int32) (o_ranSteps : Int32) (o_isTold : Int32) (o_marks : Int32) (o_at : Nat → Int32) (o_farBy : Nat → Int32) (v1 : Int32) (u : Int32 × Int32 × (Nat → Int32) × (Nat → Int32)) (hf : X12_hour F o_status o_at o_farBy v1 = some u) :
    CtI l yX12_hour cX12_hour 2 (some .int) 8 E [.ref a_o, .int v1] (wd_X12_hour E a_o a_o_at a_o_names a_o_sort a_o_trayMany a_o_trays a_o_tape a_o_text a_o_opened a_o_farBy a_o_attendsBy a_o_coveredBy a_o_cameBy a_o_cameThen a_o_fallsBy a_o_loops a_o_ran a_o_told1 o_status o_top o_bottom o_taped o_size o_token o_from o_end o_value o_faultKind o_faultPlace o_faults o_seen o_toldParts o_depth o_counted o_becameThen o_firstCorner o_drawn o_ranSteps o_isTold o_marks o_at o_farBy) (wd_X12_hour E a_o a_o_at a_o_names a_o_sort a_o_trayMany a_o_trays a_o_tape a_o_text a_o_opened a_o_farBy a_o_attendsBy a_o_coveredBy a_o_cameBy a_o_cameThen a_o_fallsBy a_o_loops a_o_ran a_o_told1 u.2.1 o_top o_bottom o_taped o_size o_token o_from o_end o_value o_faultKind o_faultPlace o_faults o_seen o_toldParts o_depth o_counted o_becameThen o_firstCorner o_drawn o_ranSteps o_isTold o_marks u.2.2.1 u.2.2.2) u.1 := by
  refine ctI (by decide) (Nat.le_of_ble_eq_true rfl) ?_
  intro p e s m below meth cd A ls aa QQ hq cx hP hD hS hl
  obtain ⟨⟨hx, hb, hml, hown, hts⟩, hr, hlocks, hK, hA, hX⟩ := id cx
  have hl : lv_has ls 2 [(0, .ref a_o), (1, .int v1)] := hl
  unfold X12_hour at hf
  refine lv_iload_n hx hb dX12_hour_0 rfl (lv_at hl 1 rfl) ?_
  refine lv_i2l (v := (v1.toInt64)) hx hb dX12_hour_1 rfl ?_
  refine lv_lconst (v := 1) hx hb dX12_hour_2 (by decide) ?_
  refine lv_ldc2 (v := 99) hx hb hown (hts _ kl_X12_357) dX12_hour_3 ?_
  obtain ⟨u6, hu6, hf⟩ := bd hf
  refine keepSI (ct_X12_isFrom l E (v1.toInt64) (1 : Int64) (99 : Int64) u6 hu6) [] cal_X12_isFrom sta_X12_isFrom lk_X12_359 cx hP hD hS hl dX12_hour_6 rfl rfl (Nat.le_of_ble_eq_true rfl) ⟨Nat.le_of_ble_eq_true rfl, Nat.le_of_ble_eq_true rfl⟩ rfl (by decide) (fun H locs hP hS => ?_)
  refine lv_if_ne (tgt := 18) hx hb dX12_hour_9 (by decide) (fun hc => ?_) (fun hc => ?_)
  · have hf := it_f hc hf
    refine lv_aload_n hx hb dX12_hour_18 rfl (lv_at hl 0 rfl) ?_
    refine va_get (D := E.1) (ci := 12) (v := .ref a_o_at) (C := RX12) (T := TX12) (N := 39) hx hb hts inX12 hown hK hP 0 rfl rfl 0 (by decide) (hts _ fl_X12_7) (fun _ h9 => h9) rfl dX12_hour_19 ?_
    refine lv_bipush (v := 8) hx hb dX12_hour_22 (by decide) ?_
    obtain ⟨hi, hf⟩ := ck hf
    refine r_iald 1 cx hP rfl hi dX12_hour_24 ?_
    refine lv_iload_n hx hb dX12_hour_25 rfl (lv_at hl 1 rfl) ?_
    refine lv_iadd hx hb dX12_hour_26 ?_
    refine lv_sipush (v := 9999) hx hb dX12_hour_27 (by decide) ?_
    refine lv_icmp_le (tgt := 41) hx hb dX12_hour_30 (by decide) (fun hc => ?_) (fun hc => ?_)
    · have hf := it_t hc hf
      refine lv_aload_n hx hb dX12_hour_41 rfl (lv_at hl 0 rfl) ?_
      refine lv_aload_n hx hb dX12_hour_42 rfl (lv_at hl 0 rfl) ?_
      refine lv_iload_n hx hb dX12_hour_43 rfl (lv_at hl 1 rfl) ?_
      obtain ⟨u44, hu44, hf⟩ := bd hf
      refine callVI (wn := (wd_X12_hour E a_o a_o_at a_o_names a_o_sort a_o_trayMany a_o_trays a_o_tape a_o_text a_o_opened a_o_farBy a_o_attendsBy a_o_coveredBy a_o_cameBy a_o_cameThen a_o_fallsBy a_o_loops a_o_ran a_o_told1 o_status o_top o_bottom o_taped o_size o_token o_from o_end o_value o_faultKind o_faultPlace o_faults o_seen o_toldParts o_depth o_counted o_becameThen o_firstCorner o_drawn o_ranSteps o_isTold o_marks u44.2.1 u44.2.2)) (n1 := 3) (ct_X12_hoursGo l E F a_o a_o_at a_o_names a_o_sort a_o_trayMany a_o_trays a_o_tape a_o_text a_o_opened a_o_farBy a_o_attendsBy a_o_coveredBy a_o_cameBy a_o_cameThen a_o_fallsBy a_o_loops a_o_ran a_o_told1 o_status o_top o_bottom o_taped o_size o_token o_from o_end o_value o_faultKind o_faultPlace o_faults o_seen o_toldParts o_depth o_counted o_becameThen o_firstCorner o_drawn o_ranSteps o_isTold o_marks o_at o_farBy v1 u44 hu44) [0, 1, 2] cal_X12_hoursGo cav_X12_hoursGo lk_X12_363 cx hP hD hS hl dX12_hour_44 rfl rfl rfl rfl (Nat.le_of_ble_eq_true rfl) ⟨Nat.le_of_ble_eq_true rfl, Nat.le_of_ble_eq_true rfl⟩ rfl (by decide +kernel) rfl [some 0, some 1, some 2] rfl (by decide +kernel) rfl (fun H locs hP hD hS => ?_)
      obtain ⟨u47, hu47, hf⟩ := bd hf
      refine callVI (wn := (wd_X12_hour E a_o a_o_at a_o_names a_o_sort a_o_trayMany a_o_trays a_o_tape a_o_text a_o_opened a_o_farBy a_o_attendsBy a_o_coveredBy a_o_cameBy a_o_cameThen a_o_fallsBy a_o_loops a_o_ran a_o_told1 u47.2 o_top o_bottom o_taped o_size o_token o_from o_end o_value o_faultKind o_faultPlace o_faults o_seen o_toldParts o_depth o_counted o_becameThen o_firstCorner o_drawn o_ranSteps o_isTold o_marks u44.2.1 u44.2.2)) (n1 := 3) (ct_X12_gives l E a_o a_o_at a_o_names a_o_sort a_o_trayMany a_o_trays a_o_tape a_o_text a_o_opened a_o_farBy a_o_attendsBy a_o_coveredBy a_o_cameBy a_o_cameThen a_o_fallsBy a_o_loops a_o_ran a_o_told1 o_status o_top o_bottom o_taped o_size o_token o_from o_end o_value o_faultKind o_faultPlace o_faults o_seen o_toldParts o_depth o_counted o_becameThen o_firstCorner o_drawn o_ranSteps o_isTold o_marks u44.1 u47 hu47) [0] cal_X12_gives cav_X12_gives lk_X12_89 cx hP hD hS hl dX12_hour_47 rfl rfl rfl rfl (Nat.le_of_ble_eq_true rfl) ⟨Nat.le_of_ble_eq_true rfl, Nat.le_of_ble_eq_true rfl⟩ rfl (by decide +kernel) rfl [some 0, none, none] rfl (by decide +kernel) rfl (fun H locs hP hD hS => ?_)
      obtain rfl := Option.some.inj hf
      subst hq
      exact retI cx hP hD hS dX12_hour_50
    · have hf := it_f hc hf
      refine lv_aload_n hx hb dX12_hour_33 rfl (lv_at hl 0 rfl) ?_
      refine lv_iconst (v := 4) hx hb dX12_hour_34 (by decide) ?_
      obtain ⟨u35, hu35, hf⟩ := bd hf
      refine callVI (wn := (wd_X12_hour E a_o a_o_at a_o_names a_o_sort a_o_trayMany a_o_trays a_o_tape a_o_text a_o_opened a_o_farBy a_o_attendsBy a_o_coveredBy a_o_cameBy a_o_cameThen a_o_fallsBy a_o_loops a_o_ran a_o_told1 u35.2 o_top o_bottom o_taped o_size o_token o_from o_end o_value o_faultKind o_faultPlace o_faults o_seen o_toldParts o_depth o_counted o_becameThen o_firstCorner o_drawn o_ranSteps o_isTold o_marks o_at o_farBy)) (n1 := 3) (ct_X12_refuse l E a_o a_o_at a_o_names a_o_sort a_o_trayMany a_o_trays a_o_tape a_o_text a_o_opened a_o_farBy a_o_attendsBy a_o_coveredBy a_o_cameBy a_o_cameThen a_o_fallsBy a_o_loops a_o_ran a_o_told1 o_status o_top o_bottom o_taped o_size o_token o_from o_end o_value o_faultKind o_faultPlace o_faults o_seen o_toldParts o_depth o_counted o_becameThen o_firstCorner o_drawn o_ranSteps o_isTold o_marks (4 : Int32) u35 hu35) [0] cal_X12_refuse cav_X12_refuse lk_X12_85 cx hP hD hS hl dX12_hour_35 rfl rfl rfl rfl (Nat.le_of_ble_eq_true rfl) ⟨Nat.le_of_ble_eq_true rfl, Nat.le_of_ble_eq_true rfl⟩ rfl (by decide +kernel) rfl [some 0, none, none] rfl (by decide +kernel) rfl (fun H locs hP hD hS => ?_)
      refine lv_goto (tgt := 50) hx hb dX12_hour_38 (by decide) ?_
      obtain rfl := Option.some.inj hf
      subst hq
      exact retI cx hP hD hS dX12_hour_50
  · have hf := it_t hc hf
    refine lv_aload_n hx hb dX12_hour_12 rfl (lv_at hl 0 rfl) ?_
    refine lv_iconst (v := 1) hx hb dX12_hour_13 (by decide) ?_
    obtain ⟨u14, hu14, hf⟩ := bd hf
    refine callVI (wn := (wd_X12_hour E a_o a_o_at a_o_names a_o_sort a_o_trayMany a_o_trays a_o_tape a_o_text a_o_opened a_o_farBy a_o_attendsBy a_o_coveredBy a_o_cameBy a_o_cameThen a_o_fallsBy a_o_loops a_o_ran a_o_told1 u14.2 o_top o_bottom o_taped o_size o_token o_from o_end o_value o_faultKind o_faultPlace o_faults o_seen o_toldParts o_depth o_counted o_becameThen o_firstCorner o_drawn o_ranSteps o_isTold o_marks o_at o_farBy)) (n1 := 3) (ct_X12_refuse l E a_o a_o_at a_o_names a_o_sort a_o_trayMany a_o_trays a_o_tape a_o_text a_o_opened a_o_farBy a_o_attendsBy a_o_coveredBy a_o_cameBy a_o_cameThen a_o_fallsBy a_o_loops a_o_ran a_o_told1 o_status o_top o_bottom o_taped o_size o_token o_from o_end o_value o_faultKind o_faultPlace o_faults o_seen o_toldParts o_depth o_counted o_becameThen o_firstCorner o_drawn o_ranSteps o_isTold o_marks (1 : Int32) u14 hu14) [0] cal_X12_refuse cav_X12_refuse lk_X12_85 cx hP hD hS hl dX12_hour_14 rfl rfl rfl rfl (Nat.le_of_ble_eq_true rfl) ⟨Nat.le_of_ble_eq_true rfl, Nat.le_of_ble_eq_true rfl⟩ rfl (by decide +kernel) rfl [some 0, none, none] rfl (by decide +kernel) rfl (fun H locs hP hD hS => ?_)
    obtain rfl := Option.some.inj hf
    subst hq
    exact retI cx hP hD hS dX12_hour_17
def X12_order_j16 (o_status : Int32) (o_at : Nat → Int32) : Option (Int32 × Int32 × (Nat → Int32)) :=
  (X12_is o_status (1 : Int32)).bind fun u18 =>
  if isZ u18.1 then some (u18.1, u18.2, o_at) else none
def X12_order (o_status : Int32) (o_at : Nat → Int32) (v1 : Int32) (v2 : Int32) (v3 : Int32) : Option (Int32 × Int32 × (Nat → Int32)) :=
  (X12_isExtra o_at v1).bind fun u2 =>
  if u2 = 0 then
  X12_order_j16 o_status o_at
  else
  (X12_isHappening o_at v2).bind fun u10 =>
  if u10 = 0 then
  X12_order_j16 o_status o_at
  else
  (X12_extraOf o_at v1 (2 : Int32)).bind fun u26 =>
  (X12_isIn u26 v2).bind fun u30 =>
  if u30 = v3 then
  (X12_is o_status (7 : Int32)).bind fun u40 =>
  if isZ u40.1 then some (u40.1, u40.2, o_at) else none
  else
  (X12_extraRow v1).bind fun u49 =>
  if ix (u49 + 2) 3097 then
  if ix (u49 + 2) 3097 then
  (X12_is o_status (0 : Int32)).bind fun u63 =>
  if isZ u63.1 then some (u63.1, u63.2, (jput o_at (u49 + 2) ((jat o_at (u49 + 2)) ^^^ (jshl 1 v2)))) else none
  else none
  else none
abbrev wd_X12_order (E : vE) (a_o a_o_at a_o_names a_o_sort a_o_trayMany a_o_trays a_o_tape a_o_text a_o_opened a_o_farBy a_o_attendsBy a_o_coveredBy a_o_cameBy a_o_cameThen a_o_fallsBy a_o_loops a_o_ran a_o_told1 : Nat) (o_status : Int32) (o_top : Int64) (o_bottom : Int64) (o_taped : Int32) (o_size : Int32) (o_token : Int32) (o_from : Int32) (o_end : Int32) (o_value : Int32) (o_faultKind : Int32) (o_faultPlace : Int32) (o_faults : Int32) (o_seen : Int32) (o_toldParts : Int32) (o_depth : Int32) (o_counted : Int32) (o_becameThen : Int32) (o_firstCorner : Int32) (o_drawn : Int32) (o_ranSteps : Int32) (o_isTold : Int32) (o_marks : Int32) (o_at : Nat → Int32) : va_W := [(a_o, .inr (12, [.ref a_o_at, .ref a_o_names, .int o_status, .long o_top, .long o_bottom, .ref a_o_sort, .ref a_o_trayMany, .ref a_o_trays, .ref a_o_tape, .ref a_o_text, .int o_taped, .int o_size, .int o_token, .int o_from, .int o_end, .int o_value, .int o_faultKind, .int o_faultPlace, .int o_faults, .int o_seen, .int o_toldParts, .ref a_o_opened, .int o_depth, .int o_counted, .ref a_o_farBy, .int o_becameThen, .ref a_o_attendsBy, .ref a_o_coveredBy, .ref a_o_cameBy, .ref a_o_cameThen, .int o_firstCorner, .ref a_o_fallsBy, .int o_drawn, .int o_ranSteps, .ref a_o_loops, .ref a_o_ran, .ref a_o_told1, .int o_isTold, .int o_marks])), (a_o_at, .inl (E.2.1, 3097, .inl o_at))]
set_option maxHeartbeats 4000000 in
set_option maxRecDepth 100000 in
theorem ct_X12_order (l : Launch) (E : vE) (a_o a_o_at a_o_names a_o_sort a_o_trayMany a_o_trays a_o_tape a_o_text a_o_opened a_o_farBy a_o_attendsBy a_o_coveredBy a_o_cameBy a_o_cameThen a_o_fallsBy a_o_loops a_o_ran a_o_told1 : Nat) (o_status : Int32) (o_top : Int64) (o_bottom : Int64) (o_taped : Int32) (o_size : Int32) (o_token : Int32) (o_from : Int32) (o_end : Int32) (o_value : Int32) (o_faultKind : Int32) (o_faultPlace : Int32) (o_faults : Int32) (o_seen : Int32) (o_toldParts : Int32) (o_depth : Int32) (o_counted : Int32) (o_becameThen : Int32) (o_firstCorner : Int32) (o_drawn : Int32) (o_ranSteps : Int32) (o_isTold : Int32) (o_marks : Int32) (o_at : Nat → Int32) (v1 : Int32) (v2 : Int32) (v3 : Int32) (u : Int32 × Int32 × (Nat → Int32)) (hf : X12_order o_status o_at v1 v2 v3 = some u) :
    CtI l yX12_order cX12_order 4 (some .boolean) 2 E [.ref a_o, .int v1, .int v2, .int v3] (wd_X12_order E a_o a_o_at a_o_names a_o_sort a_o_trayMany a_o_trays a_o_tape a_o_text a_o_opened a_o_farBy a_o_attendsBy a_o_coveredBy a_o_cameBy a_o_cameThen a_o_fallsBy a_o_loops a_o_ran a_o_told1 o_status o_top o_bottom o_taped o_size o_token o_from o_end o_value o_faultKind o_faultPlace o_faults o_seen o_toldParts o_depth o_counted o_becameThen o_firstCorner o_drawn o_ranSteps o_isTold o_marks o_at) (wd_X12_order E a_o a_o_at a_o_names a_o_sort a_o_trayMany a_o_trays a_o_tape a_o_text a_o_opened a_o_farBy a_o_attendsBy a_o_coveredBy a_o_cameBy a_o_cameThen a_o_fallsBy a_o_loops a_o_ran a_o_told1 u.2.1 o_top o_bottom o_taped o_size o_token o_from o_end o_value o_faultKind o_faultPlace o_faults o_seen o_toldParts o_depth o_counted o_becameThen o_firstCorner o_drawn o_ranSteps o_isTold o_marks u.2.2) u.1 := by
  refine ctI (by decide) (Nat.le_of_ble_eq_true rfl) ?_
  intro p e s m below meth cd A ls aa QQ hq cx hP hD hS hl
  obtain ⟨⟨hx, hb, hml, hown, hts⟩, hr, hlocks, hK, hA, hX⟩ := id cx
  have hl : lv_has ls 4 [(0, .ref a_o), (1, .int v1), (2, .int v2), (3, .int v3)] := hl
  have hj16 : ∀ (o_status_j16 : Int32) (o_at_j16 : Nat → Int32) (H : Heap) (locs : List Loc) (ls : Array Slot), X12_order_j16 o_status_j16 o_at_j16 = some u → va_P E.1 vwCl (wd_X12_order E a_o a_o_at a_o_names a_o_sort a_o_trayMany a_o_trays a_o_tape a_o_text a_o_opened a_o_farBy a_o_attendsBy a_o_coveredBy a_o_cameBy a_o_cameThen a_o_fallsBy a_o_loops a_o_ran a_o_told1 o_status_j16 o_top o_bottom o_taped o_size o_token o_from o_end o_value o_faultKind o_faultPlace o_faults o_seen o_toldParts o_depth o_counted o_becameThen o_firstCorner o_drawn o_ranSteps o_isTold o_marks o_at_j16) H → va_D A (wd_X12_order E a_o a_o_at a_o_names a_o_sort a_o_trayMany a_o_trays a_o_tape a_o_text a_o_opened a_o_farBy a_o_attendsBy a_o_coveredBy a_o_cameBy a_o_cameThen a_o_fallsBy a_o_loops a_o_ran a_o_told1 o_status_j16 o_top o_bottom o_taped o_size o_token o_from o_end o_value o_faultKind o_faultPlace o_faults o_seen o_toldParts o_depth o_counted o_becameThen o_firstCorner o_drawn o_ranSteps o_isTold o_marks o_at_j16) → va_S A s.heap H locs → lv_has ls 4 [(0, .ref a_o)] → W p l e (rmd 2) s m aa below meth cd H locs 0 0 QQ (F0 m 16 ls []) := by
    intro o_status_j16 o_at_j16 H locs ls hf hP hD hS hl
    unfold X12_order_j16 at hf
    refine lv_aload_n hx hb dX12_order_16 rfl (lv_at hl 0 rfl) ?_
    refine lv_iconst (v := 1) hx hb dX12_order_17 (by decide) ?_
    obtain ⟨u18, hu18, hf⟩ := bd hf
    refine callVI (wn := (wd_X12_order E a_o a_o_at a_o_names a_o_sort a_o_trayMany a_o_trays a_o_tape a_o_text a_o_opened a_o_farBy a_o_attendsBy a_o_coveredBy a_o_cameBy a_o_cameThen a_o_fallsBy a_o_loops a_o_ran a_o_told1 u18.2 o_top o_bottom o_taped o_size o_token o_from o_end o_value o_faultKind o_faultPlace o_faults o_seen o_toldParts o_depth o_counted o_becameThen o_firstCorner o_drawn o_ranSteps o_isTold o_marks o_at_j16)) (n1 := 2) (ct_X12_is l E a_o a_o_at a_o_names a_o_sort a_o_trayMany a_o_trays a_o_tape a_o_text a_o_opened a_o_farBy a_o_attendsBy a_o_coveredBy a_o_cameBy a_o_cameThen a_o_fallsBy a_o_loops a_o_ran a_o_told1 o_status_j16 o_top o_bottom o_taped o_size o_token o_from o_end o_value o_faultKind o_faultPlace o_faults o_seen o_toldParts o_depth o_counted o_becameThen o_firstCorner o_drawn o_ranSteps o_isTold o_marks (1 : Int32) u18 hu18) [0] cal_X12_is cav_X12_is lk_X12_92 cx hP hD hS hl dX12_order_18 rfl rfl rfl rfl (Nat.le_of_ble_eq_true rfl) ⟨Nat.le_of_ble_eq_true rfl, Nat.le_of_ble_eq_true rfl⟩ rfl (by decide +kernel) rfl [some 0, none] rfl (by decide +kernel) rfl (fun H locs hP hD hS => ?_)
    obtain ⟨hz, hf⟩ := ck hf
    obtain rfl := Option.some.inj hf
    subst hq
    exact retZ cx hz hP hD hS dX12_order_21
  unfold X12_order at hf
  refine lv_aload_n hx hb dX12_order_0 rfl (lv_at hl 0 rfl) ?_
  refine lv_iload_n hx hb dX12_order_1 rfl (lv_at hl 1 rfl) ?_
  obtain ⟨u2, hu2, hf⟩ := bd hf
  refine keepVI (ct_X12_isExtra l E a_o a_o_at a_o_names a_o_sort a_o_trayMany a_o_trays a_o_tape a_o_text a_o_opened a_o_farBy a_o_attendsBy a_o_coveredBy a_o_cameBy a_o_cameThen a_o_fallsBy a_o_loops a_o_ran a_o_told1 o_status o_top o_bottom o_taped o_size o_token o_from o_end o_value o_faultKind o_faultPlace o_faults o_seen o_toldParts o_depth o_counted o_becameThen o_firstCorner o_drawn o_ranSteps o_isTold o_marks o_at v1 u2 hu2) [0, 1] cal_X12_isExtra cav_X12_isExtra lk_X12_293 cx hP hD hS hl dX12_order_2 rfl rfl rfl rfl (Nat.le_of_ble_eq_true rfl) ⟨Nat.le_of_ble_eq_true rfl, Nat.le_of_ble_eq_true rfl⟩ rfl (by decide) (fun H locs hP hS => ?_)
  refine lv_if_eq (tgt := 16) hx hb dX12_order_5 (by decide) (fun hc => ?_) (fun hc => ?_)
  · have hf := it_t hc hf
    exact hj16 _ _ _ _ _ hf hP hD hS (lv_sub hl [0] rfl)
  · have hf := it_f hc hf
    refine lv_aload_n hx hb dX12_order_8 rfl (lv_at hl 0 rfl) ?_
    refine lv_iload_n hx hb dX12_order_9 rfl (lv_at hl 2 rfl) ?_
    obtain ⟨u10, hu10, hf⟩ := bd hf
    refine keepVI (ct_X12_isHappening l E a_o a_o_at a_o_names a_o_sort a_o_trayMany a_o_trays a_o_tape a_o_text a_o_opened a_o_farBy a_o_attendsBy a_o_coveredBy a_o_cameBy a_o_cameThen a_o_fallsBy a_o_loops a_o_ran a_o_told1 o_status o_top o_bottom o_taped o_size o_token o_from o_end o_value o_faultKind o_faultPlace o_faults o_seen o_toldParts o_depth o_counted o_becameThen o_firstCorner o_drawn o_ranSteps o_isTold o_marks o_at v2 u10 hu10) [0, 1] cal_X12_isHappening cav_X12_isHappening lk_X12_296 cx hP hD hS hl dX12_order_10 rfl rfl rfl rfl (Nat.le_of_ble_eq_true rfl) ⟨Nat.le_of_ble_eq_true rfl, Nat.le_of_ble_eq_true rfl⟩ rfl (by decide) (fun H locs hP hS => ?_)
    refine lv_if_ne (tgt := 22) hx hb dX12_order_13 (by decide) (fun hc => ?_) (fun hc => ?_)
    · have hf := it_f hc hf
      refine lv_aload_n hx hb dX12_order_22 rfl (lv_at hl 0 rfl) ?_
      refine lv_aload_n hx hb dX12_order_23 rfl (lv_at hl 0 rfl) ?_
      refine lv_iload_n hx hb dX12_order_24 rfl (lv_at hl 1 rfl) ?_
      refine lv_iconst (v := 2) hx hb dX12_order_25 (by decide) ?_
      obtain ⟨u26, hu26, hf⟩ := bd hf
      refine keepVI (ct_X12_extraOf l E a_o a_o_at a_o_names a_o_sort a_o_trayMany a_o_trays a_o_tape a_o_text a_o_opened a_o_farBy a_o_attendsBy a_o_coveredBy a_o_cameBy a_o_cameThen a_o_fallsBy a_o_loops a_o_ran a_o_told1 o_status o_top o_bottom o_taped o_size o_token o_from o_end o_value o_faultKind o_faultPlace o_faults o_seen o_toldParts o_depth o_counted o_becameThen o_firstCorner o_drawn o_ranSteps o_isTold o_marks o_at v1 (2 : Int32) u26 hu26) [0, 1] cal_X12_extraOf cav_X12_extraOf lk_X12_275 cx hP hD hS hl dX12_order_26 rfl rfl rfl rfl (Nat.le_of_ble_eq_true rfl) ⟨Nat.le_of_ble_eq_true rfl, Nat.le_of_ble_eq_true rfl⟩ rfl (by decide) (fun H locs hP hS => ?_)
      refine lv_iload_n hx hb dX12_order_29 rfl (lv_at hl 2 rfl) ?_
      obtain ⟨u30, hu30, hf⟩ := bd hf
      refine keepVI (ct_X12_isIn l E a_o a_o_at a_o_names a_o_sort a_o_trayMany a_o_trays a_o_tape a_o_text a_o_opened a_o_farBy a_o_attendsBy a_o_coveredBy a_o_cameBy a_o_cameThen a_o_fallsBy a_o_loops a_o_ran a_o_told1 o_status o_top o_bottom o_taped o_size o_token o_from o_end o_value o_faultKind o_faultPlace o_faults o_seen o_toldParts o_depth o_counted o_becameThen o_firstCorner o_drawn o_ranSteps o_isTold o_marks u26 v2 u30 hu30) [0] cal_X12_isIn cav_X12_isIn lk_X12_327 cx hP hD hS hl dX12_order_30 rfl rfl rfl rfl (Nat.le_of_ble_eq_true rfl) ⟨Nat.le_of_ble_eq_true rfl, Nat.le_of_ble_eq_true rfl⟩ rfl (by decide) (fun H locs hP hS => ?_)
      refine lv_iload_n hx hb dX12_order_33 rfl (lv_at hl 3 rfl) ?_
      refine lv_icmp_ne (tgt := 44) hx hb dX12_order_34 (by decide) (fun hc => ?_) (fun hc => ?_)
      · have hf := it_f hc hf
        refine lv_aload_n hx hb dX12_order_44 rfl (lv_at hl 0 rfl) ?_
        refine va_get (D := E.1) (ci := 12) (v := .ref a_o_at) (C := RX12) (T := TX12) (N := 39) hx hb hts inX12 hown hK hP 0 rfl rfl 0 (by decide) (hts _ fl_X12_7) (fun _ h9 => h9) rfl dX12_order_45 ?_
        refine lv_iload_n hx hb dX12_order_48 rfl (lv_at hl 1 rfl) ?_
        obtain ⟨u49, hu49, hf⟩ := bd hf
        refine keepSI (ct_X12_extraRow l E v1 u49 hu49) [] cal_X12_extraRow sta_X12_extraRow lk_X12_211 cx hP hD hS hl dX12_order_49 rfl rfl (Nat.le_of_ble_eq_true rfl) ⟨Nat.le_of_ble_eq_true rfl, Nat.le_of_ble_eq_true rfl⟩ rfl (by decide) (fun H locs hP hS => ?_)
        refine lv_iconst (v := 2) hx hb dX12_order_52 (by decide) ?_
        refine lv_iadd hx hb dX12_order_53 ?_
        refine lv_dup2_11 hx hb dX12_order_54 rfl rfl ?_
        obtain ⟨hi, hf⟩ := ck hf
        refine r_iald 1 cx hP rfl hi dX12_order_55 ?_
        refine lv_iconst (v := 1) hx hb dX12_order_56 (by decide) ?_
        refine lv_iload_n hx hb dX12_order_57 rfl (lv_at hl 2 rfl) ?_
        refine r_ishl hx hb dX12_order_58 ?_
        refine lv_ixor hx hb dX12_order_59 ?_
        obtain ⟨hi, hf⟩ := ck hf
        refine r_iast 1 cx hP hD hS rfl hi dX12_order_60 (fun H locs hP hD hS => ?_)
        have hP : va_P E.1 vwCl (wd_X12_order E a_o a_o_at a_o_names a_o_sort a_o_trayMany a_o_trays a_o_tape a_o_text a_o_opened a_o_farBy a_o_attendsBy a_o_coveredBy a_o_cameBy a_o_cameThen a_o_fallsBy a_o_loops a_o_ran a_o_told1 o_status o_top o_bottom o_taped o_size o_token o_from o_end o_value o_faultKind o_faultPlace o_faults o_seen o_toldParts o_depth o_counted o_becameThen o_firstCorner o_drawn o_ranSteps o_isTold o_marks (jput o_at (u49 + 2) ((jat o_at (u49 + 2)) ^^^ (jshl 1 v2)))) H := hP
        have hD : va_D A (wd_X12_order E a_o a_o_at a_o_names a_o_sort a_o_trayMany a_o_trays a_o_tape a_o_text a_o_opened a_o_farBy a_o_attendsBy a_o_coveredBy a_o_cameBy a_o_cameThen a_o_fallsBy a_o_loops a_o_ran a_o_told1 o_status o_top o_bottom o_taped o_size o_token o_from o_end o_value o_faultKind o_faultPlace o_faults o_seen o_toldParts o_depth o_counted o_becameThen o_firstCorner o_drawn o_ranSteps o_isTold o_marks (jput o_at (u49 + 2) ((jat o_at (u49 + 2)) ^^^ (jshl 1 v2)))) := hD
        refine lv_aload_n hx hb dX12_order_61 rfl (lv_at hl 0 rfl) ?_
        refine lv_iconst (v := 0) hx hb dX12_order_62 (by decide) ?_
        obtain ⟨u63, hu63, hf⟩ := bd hf
        refine callVI (wn := (wd_X12_order E a_o a_o_at a_o_names a_o_sort a_o_trayMany a_o_trays a_o_tape a_o_text a_o_opened a_o_farBy a_o_attendsBy a_o_coveredBy a_o_cameBy a_o_cameThen a_o_fallsBy a_o_loops a_o_ran a_o_told1 u63.2 o_top o_bottom o_taped o_size o_token o_from o_end o_value o_faultKind o_faultPlace o_faults o_seen o_toldParts o_depth o_counted o_becameThen o_firstCorner o_drawn o_ranSteps o_isTold o_marks (jput o_at (u49 + 2) ((jat o_at (u49 + 2)) ^^^ (jshl 1 v2))))) (n1 := 2) (ct_X12_is l E a_o a_o_at a_o_names a_o_sort a_o_trayMany a_o_trays a_o_tape a_o_text a_o_opened a_o_farBy a_o_attendsBy a_o_coveredBy a_o_cameBy a_o_cameThen a_o_fallsBy a_o_loops a_o_ran a_o_told1 o_status o_top o_bottom o_taped o_size o_token o_from o_end o_value o_faultKind o_faultPlace o_faults o_seen o_toldParts o_depth o_counted o_becameThen o_firstCorner o_drawn o_ranSteps o_isTold o_marks (0 : Int32) u63 hu63) [0] cal_X12_is cav_X12_is lk_X12_92 cx hP hD hS hl dX12_order_63 rfl rfl rfl rfl (Nat.le_of_ble_eq_true rfl) ⟨Nat.le_of_ble_eq_true rfl, Nat.le_of_ble_eq_true rfl⟩ rfl (by decide +kernel) rfl [some 0, none] rfl (by decide +kernel) rfl (fun H locs hP hD hS => ?_)
        obtain ⟨hz, hf⟩ := ck hf
        obtain rfl := Option.some.inj hf
        subst hq
        exact retZ cx hz hP hD hS dX12_order_66
      · have hf := it_t hc hf
        refine lv_aload_n hx hb dX12_order_37 rfl (lv_at hl 0 rfl) ?_
        refine lv_bipush (v := 7) hx hb dX12_order_38 (by decide) ?_
        obtain ⟨u40, hu40, hf⟩ := bd hf
        refine callVI (wn := (wd_X12_order E a_o a_o_at a_o_names a_o_sort a_o_trayMany a_o_trays a_o_tape a_o_text a_o_opened a_o_farBy a_o_attendsBy a_o_coveredBy a_o_cameBy a_o_cameThen a_o_fallsBy a_o_loops a_o_ran a_o_told1 u40.2 o_top o_bottom o_taped o_size o_token o_from o_end o_value o_faultKind o_faultPlace o_faults o_seen o_toldParts o_depth o_counted o_becameThen o_firstCorner o_drawn o_ranSteps o_isTold o_marks o_at)) (n1 := 2) (ct_X12_is l E a_o a_o_at a_o_names a_o_sort a_o_trayMany a_o_trays a_o_tape a_o_text a_o_opened a_o_farBy a_o_attendsBy a_o_coveredBy a_o_cameBy a_o_cameThen a_o_fallsBy a_o_loops a_o_ran a_o_told1 o_status o_top o_bottom o_taped o_size o_token o_from o_end o_value o_faultKind o_faultPlace o_faults o_seen o_toldParts o_depth o_counted o_becameThen o_firstCorner o_drawn o_ranSteps o_isTold o_marks (7 : Int32) u40 hu40) [0] cal_X12_is cav_X12_is lk_X12_92 cx hP hD hS hl dX12_order_40 rfl rfl rfl rfl (Nat.le_of_ble_eq_true rfl) ⟨Nat.le_of_ble_eq_true rfl, Nat.le_of_ble_eq_true rfl⟩ rfl (by decide +kernel) rfl [some 0, none] rfl (by decide +kernel) rfl (fun H locs hP hD hS => ?_)
        obtain ⟨hz, hf⟩ := ck hf
        obtain rfl := Option.some.inj hf
        subst hq
        exact retZ cx hz hP hD hS dX12_order_43
    · have hf := it_t hc hf
      exact hj16 _ _ _ _ _ hf hP hD hS (lv_sub hl [0] rfl)
def X12_puts (o_at : Nat → Int32) (v1 : Int32) (v2 : Int32) : Option (Int32 × (Nat → Int32)) :=
  (X12_isToCome o_at v1).bind fun u2 =>
  if u2 = 0 then
  some (0, o_at)
  else
  (X12_happeningOf o_at v1 (1 : Int32)).bind fun u11 =>
  if (u11 + v2) ≤ 9999 then
  (X12_happeningRow v1).bind fun u29 =>
  if ix (u29 + 1) 3097 then
  if ix (u29 + 1) 3097 then
  some (1, (jput o_at (u29 + 1) ((jat o_at (u29 + 1)) + v2)))
  else none
  else none
  else
  some (0, o_at)
abbrev wd_X12_puts (E : vE) (a_o a_o_at a_o_names a_o_sort a_o_trayMany a_o_trays a_o_tape a_o_text a_o_opened a_o_farBy a_o_attendsBy a_o_coveredBy a_o_cameBy a_o_cameThen a_o_fallsBy a_o_loops a_o_ran a_o_told1 : Nat) (o_status : Int32) (o_top : Int64) (o_bottom : Int64) (o_taped : Int32) (o_size : Int32) (o_token : Int32) (o_from : Int32) (o_end : Int32) (o_value : Int32) (o_faultKind : Int32) (o_faultPlace : Int32) (o_faults : Int32) (o_seen : Int32) (o_toldParts : Int32) (o_depth : Int32) (o_counted : Int32) (o_becameThen : Int32) (o_firstCorner : Int32) (o_drawn : Int32) (o_ranSteps : Int32) (o_isTold : Int32) (o_marks : Int32) (o_at : Nat → Int32) : va_W := [(a_o, .inr (12, [.ref a_o_at, .ref a_o_names, .int o_status, .long o_top, .long o_bottom, .ref a_o_sort, .ref a_o_trayMany, .ref a_o_trays, .ref a_o_tape, .ref a_o_text, .int o_taped, .int o_size, .int o_token, .int o_from, .int o_end, .int o_value, .int o_faultKind, .int o_faultPlace, .int o_faults, .int o_seen, .int o_toldParts, .ref a_o_opened, .int o_depth, .int o_counted, .ref a_o_farBy, .int o_becameThen, .ref a_o_attendsBy, .ref a_o_coveredBy, .ref a_o_cameBy, .ref a_o_cameThen, .int o_firstCorner, .ref a_o_fallsBy, .int o_drawn, .int o_ranSteps, .ref a_o_loops, .ref a_o_ran, .ref a_o_told1, .int o_isTold, .int o_marks])), (a_o_at, .inl (E.2.1, 3097, .inl o_at))]
set_option maxHeartbeats 4000000 in
set_option maxRecDepth 100000 in
theorem ct_X12_puts (l : Launch) (E : vE) (a_o a_o_at a_o_names a_o_sort a_o_trayMany a_o_trays a_o_tape a_o_text a_o_opened a_o_farBy a_o_attendsBy a_o_coveredBy a_o_cameBy a_o_cameThen a_o_fallsBy a_o_loops a_o_ran a_o_told1 : Nat) (o_status : Int32) (o_top : Int64) (o_bottom : Int64) (o_taped : Int32) (o_size : Int32) (o_token : Int32) (o_from : Int32) (o_end : Int32) (o_value : Int32) (o_faultKind : Int32) (o_faultPlace : Int32) (o_faults : Int32) (o_seen : Int32) (o_toldParts : Int32) (o_depth : Int32) (o_counted : Int32) (o_becameThen : Int32) (o_firstCorner : Int32) (o_drawn : Int32) (o_ranSteps : Int32) (o_isTold : Int32) (o_marks : Int32) (o_at : Nat → Int32) (v1 : Int32) (v2 : Int32) (u : Int32 × (Nat → Int32)) (hf : X12_puts o_at v1 v2 = some u) :
    CtI l yX12_puts cX12_puts 3 (some .boolean) 3 E [.ref a_o, .int v1, .int v2] (wd_X12_puts E a_o a_o_at a_o_names a_o_sort a_o_trayMany a_o_trays a_o_tape a_o_text a_o_opened a_o_farBy a_o_attendsBy a_o_coveredBy a_o_cameBy a_o_cameThen a_o_fallsBy a_o_loops a_o_ran a_o_told1 o_status o_top o_bottom o_taped o_size o_token o_from o_end o_value o_faultKind o_faultPlace o_faults o_seen o_toldParts o_depth o_counted o_becameThen o_firstCorner o_drawn o_ranSteps o_isTold o_marks o_at) (wd_X12_puts E a_o a_o_at a_o_names a_o_sort a_o_trayMany a_o_trays a_o_tape a_o_text a_o_opened a_o_farBy a_o_attendsBy a_o_coveredBy a_o_cameBy a_o_cameThen a_o_fallsBy a_o_loops a_o_ran a_o_told1 o_status o_top o_bottom o_taped o_size o_token o_from o_end o_value o_faultKind o_faultPlace o_faults o_seen o_toldParts o_depth o_counted o_becameThen o_firstCorner o_drawn o_ranSteps o_isTold o_marks u.2) u.1 := by
  refine ctI (by decide) (Nat.le_of_ble_eq_true rfl) ?_
  intro p e s m below meth cd A ls aa QQ hq cx hP hD hS hl
  obtain ⟨⟨hx, hb, hml, hown, hts⟩, hr, hlocks, hK, hA, hX⟩ := id cx
  have hl : lv_has ls 3 [(0, .ref a_o), (1, .int v1), (2, .int v2)] := hl
  unfold X12_puts at hf
  refine lv_aload_n hx hb dX12_puts_0 rfl (lv_at hl 0 rfl) ?_
  refine lv_iload_n hx hb dX12_puts_1 rfl (lv_at hl 1 rfl) ?_
  obtain ⟨u2, hu2, hf⟩ := bd hf
  refine keepVI (ct_X12_isToCome l E a_o a_o_at a_o_names a_o_sort a_o_trayMany a_o_trays a_o_tape a_o_text a_o_opened a_o_farBy a_o_attendsBy a_o_coveredBy a_o_cameBy a_o_cameThen a_o_fallsBy a_o_loops a_o_ran a_o_told1 o_status o_top o_bottom o_taped o_size o_token o_from o_end o_value o_faultKind o_faultPlace o_faults o_seen o_toldParts o_depth o_counted o_becameThen o_firstCorner o_drawn o_ranSteps o_isTold o_marks o_at v1 u2 hu2) [0, 1] cal_X12_isToCome cav_X12_isToCome lk_X12_333 cx hP hD hS hl dX12_puts_2 rfl rfl rfl rfl (Nat.le_of_ble_eq_true rfl) ⟨Nat.le_of_ble_eq_true rfl, Nat.le_of_ble_eq_true rfl⟩ rfl (by decide) (fun H locs hP hS => ?_)
  refine lv_if_eq (tgt := 22) hx hb dX12_puts_5 (by decide) (fun hc => ?_) (fun hc => ?_)
  · have hf := it_t hc hf
    refine lv_iconst (v := 0) hx hb dX12_puts_22 (by decide) ?_
    obtain rfl := Option.some.inj hf
    subst hq
    exact retZ cx rfl hP hD hS dX12_puts_23
  · have hf := it_f hc hf
    refine lv_aload_n hx hb dX12_puts_8 rfl (lv_at hl 0 rfl) ?_
    refine lv_iload_n hx hb dX12_puts_9 rfl (lv_at hl 1 rfl) ?_
    refine lv_iconst (v := 1) hx hb dX12_puts_10 (by decide) ?_
    obtain ⟨u11, hu11, hf⟩ := bd hf
    refine keepVI (ct_X12_happeningOf l E a_o a_o_at a_o_names a_o_sort a_o_trayMany a_o_trays a_o_tape a_o_text a_o_opened a_o_farBy a_o_attendsBy a_o_coveredBy a_o_cameBy a_o_cameThen a_o_fallsBy a_o_loops a_o_ran a_o_told1 o_status o_top o_bottom o_taped o_size o_token o_from o_end o_value o_faultKind o_faultPlace o_faults o_seen o_toldParts o_depth o_counted o_becameThen o_firstCorner o_drawn o_ranSteps o_isTold o_marks o_at v1 (1 : Int32) u11 hu11) [0, 1] cal_X12_happeningOf cav_X12_happeningOf lk_X12_278 cx hP hD hS hl dX12_puts_11 rfl rfl rfl rfl (Nat.le_of_ble_eq_true rfl) ⟨Nat.le_of_ble_eq_true rfl, Nat.le_of_ble_eq_true rfl⟩ rfl (by decide) (fun H locs hP hS => ?_)
    refine lv_iload_n hx hb dX12_puts_14 rfl (lv_at hl 2 rfl) ?_
    refine lv_iadd hx hb dX12_puts_15 ?_
    refine lv_sipush (v := 9999) hx hb dX12_puts_16 (by decide) ?_
    refine lv_icmp_le (tgt := 24) hx hb dX12_puts_19 (by decide) (fun hc => ?_) (fun hc => ?_)
    · have hf := it_t hc hf
      refine lv_aload_n hx hb dX12_puts_24 rfl (lv_at hl 0 rfl) ?_
      refine va_get (D := E.1) (ci := 12) (v := .ref a_o_at) (C := RX12) (T := TX12) (N := 39) hx hb hts inX12 hown hK hP 0 rfl rfl 0 (by decide) (hts _ fl_X12_7) (fun _ h9 => h9) rfl dX12_puts_25 ?_
      refine lv_iload_n hx hb dX12_puts_28 rfl (lv_at hl 1 rfl) ?_
      obtain ⟨u29, hu29, hf⟩ := bd hf
      refine keepSI (ct_X12_happeningRow l E v1 u29 hu29) [] cal_X12_happeningRow sta_X12_happeningRow lk_X12_214 cx hP hD hS hl dX12_puts_29 rfl rfl (Nat.le_of_ble_eq_true rfl) ⟨Nat.le_of_ble_eq_true rfl, Nat.le_of_ble_eq_true rfl⟩ rfl (by decide) (fun H locs hP hS => ?_)
      refine lv_iconst (v := 1) hx hb dX12_puts_32 (by decide) ?_
      refine lv_iadd hx hb dX12_puts_33 ?_
      refine lv_dup2_11 hx hb dX12_puts_34 rfl rfl ?_
      obtain ⟨hi, hf⟩ := ck hf
      refine r_iald 1 cx hP rfl hi dX12_puts_35 ?_
      refine lv_iload_n hx hb dX12_puts_36 rfl (lv_at hl 2 rfl) ?_
      refine lv_iadd hx hb dX12_puts_37 ?_
      obtain ⟨hi, hf⟩ := ck hf
      refine r_iast 1 cx hP hD hS rfl hi dX12_puts_38 (fun H locs hP hD hS => ?_)
      have hP : va_P E.1 vwCl (wd_X12_puts E a_o a_o_at a_o_names a_o_sort a_o_trayMany a_o_trays a_o_tape a_o_text a_o_opened a_o_farBy a_o_attendsBy a_o_coveredBy a_o_cameBy a_o_cameThen a_o_fallsBy a_o_loops a_o_ran a_o_told1 o_status o_top o_bottom o_taped o_size o_token o_from o_end o_value o_faultKind o_faultPlace o_faults o_seen o_toldParts o_depth o_counted o_becameThen o_firstCorner o_drawn o_ranSteps o_isTold o_marks (jput o_at (u29 + 1) ((jat o_at (u29 + 1)) + v2))) H := hP
      have hD : va_D A (wd_X12_puts E a_o a_o_at a_o_names a_o_sort a_o_trayMany a_o_trays a_o_tape a_o_text a_o_opened a_o_farBy a_o_attendsBy a_o_coveredBy a_o_cameBy a_o_cameThen a_o_fallsBy a_o_loops a_o_ran a_o_told1 o_status o_top o_bottom o_taped o_size o_token o_from o_end o_value o_faultKind o_faultPlace o_faults o_seen o_toldParts o_depth o_counted o_becameThen o_firstCorner o_drawn o_ranSteps o_isTold o_marks (jput o_at (u29 + 1) ((jat o_at (u29 + 1)) + v2))) := hD
      refine lv_iconst (v := 1) hx hb dX12_puts_39 (by decide) ?_
      obtain rfl := Option.some.inj hf
      subst hq
      exact retZ cx rfl hP hD hS dX12_puts_40
    · have hf := it_f hc hf
      refine lv_iconst (v := 0) hx hb dX12_puts_22 (by decide) ?_
      obtain rfl := Option.some.inj hf
      subst hq
      exact retZ cx rfl hP hD hS dX12_puts_23
def X12_put_j20 (o_status : Int32) (o_at : Nat → Int32) : Option (Int32 × Int32 × (Nat → Int32)) :=
  (X12_refuse o_status (1 : Int32)).bind fun u22 =>
  some (u22.1, u22.2, o_at)
def X12_put (o_status : Int32) (o_at : Nat → Int32) (v1 : Int32) (v2 : Int32) : Option (Int32 × Int32 × (Nat → Int32)) :=
  (X12_isHappening o_at v1).bind fun u2 =>
  if u2 = 0 then
  X12_put_j20 o_status o_at
  else
  (X12_isFrom (v2.toInt64) (1 : Int64) (99 : Int64)).bind fun u14 =>
  if u14 = 0 then
  X12_put_j20 o_status o_at
  else
  (X12_puts o_at v1 v2).bind fun u29 =>
  if u29.1 = 0 then
  (X12_refuse o_status (7 : Int32)).bind fun u51 =>
  some (u51.1, u51.2, u29.2)
  else
  (X12_happeningOf u29.2 v1 (1 : Int32)).bind fun u39 =>
  (X12_gives o_status u39).bind fun u42 =>
  some (u42.1, u42.2, u29.2)
abbrev wd_X12_put (E : vE) (a_o a_o_at a_o_names a_o_sort a_o_trayMany a_o_trays a_o_tape a_o_text a_o_opened a_o_farBy a_o_attendsBy a_o_coveredBy a_o_cameBy a_o_cameThen a_o_fallsBy a_o_loops a_o_ran a_o_told1 : Nat) (o_status : Int32) (o_top : Int64) (o_bottom : Int64) (o_taped : Int32) (o_size : Int32) (o_token : Int32) (o_from : Int32) (o_end : Int32) (o_value : Int32) (o_faultKind : Int32) (o_faultPlace : Int32) (o_faults : Int32) (o_seen : Int32) (o_toldParts : Int32) (o_depth : Int32) (o_counted : Int32) (o_becameThen : Int32) (o_firstCorner : Int32) (o_drawn : Int32) (o_ranSteps : Int32) (o_isTold : Int32) (o_marks : Int32) (o_at : Nat → Int32) : va_W := [(a_o, .inr (12, [.ref a_o_at, .ref a_o_names, .int o_status, .long o_top, .long o_bottom, .ref a_o_sort, .ref a_o_trayMany, .ref a_o_trays, .ref a_o_tape, .ref a_o_text, .int o_taped, .int o_size, .int o_token, .int o_from, .int o_end, .int o_value, .int o_faultKind, .int o_faultPlace, .int o_faults, .int o_seen, .int o_toldParts, .ref a_o_opened, .int o_depth, .int o_counted, .ref a_o_farBy, .int o_becameThen, .ref a_o_attendsBy, .ref a_o_coveredBy, .ref a_o_cameBy, .ref a_o_cameThen, .int o_firstCorner, .ref a_o_fallsBy, .int o_drawn, .int o_ranSteps, .ref a_o_loops, .ref a_o_ran, .ref a_o_told1, .int o_isTold, .int o_marks])), (a_o_at, .inl (E.2.1, 3097, .inl o_at))]
set_option maxHeartbeats 4000000 in
set_option maxRecDepth 100000 in
theorem ct_X12_put (l : Launch) (E : vE) (a_o a_o_at a_o_names a_o_sort a_o_trayMany a_o_trays a_o_tape a_o_text a_o_opened a_o_farBy a_o_attendsBy a_o_coveredBy a_o_cameBy a_o_cameThen a_o_fallsBy a_o_loops a_o_ran a_o_told1 : Nat) (o_status : Int32) (o_top : Int64) (o_bottom : Int64) (o_taped : Int32) (o_size : Int32) (o_token : Int32) (o_from : Int32) (o_end : Int32) (o_value : Int32) (o_faultKind : Int32) (o_faultPlace : Int32) (o_faults : Int32) (o_seen : Int32) (o_toldParts : Int32) (o_depth : Int32) (o_counted : Int32) (o_becameThen : Int32) (o_firstCorner : Int32) (o_drawn : Int32) (o_ranSteps : Int32) (o_isTold : Int32) (o_marks : Int32) (o_at : Nat → Int32) (v1 : Int32) (v2 : Int32) (u : Int32 × Int32 × (Nat → Int32)) (hf : X12_put o_status o_at v1 v2 = some u) :
    CtI l yX12_put cX12_put 3 (some .int) 4 E [.ref a_o, .int v1, .int v2] (wd_X12_put E a_o a_o_at a_o_names a_o_sort a_o_trayMany a_o_trays a_o_tape a_o_text a_o_opened a_o_farBy a_o_attendsBy a_o_coveredBy a_o_cameBy a_o_cameThen a_o_fallsBy a_o_loops a_o_ran a_o_told1 o_status o_top o_bottom o_taped o_size o_token o_from o_end o_value o_faultKind o_faultPlace o_faults o_seen o_toldParts o_depth o_counted o_becameThen o_firstCorner o_drawn o_ranSteps o_isTold o_marks o_at) (wd_X12_put E a_o a_o_at a_o_names a_o_sort a_o_trayMany a_o_trays a_o_tape a_o_text a_o_opened a_o_farBy a_o_attendsBy a_o_coveredBy a_o_cameBy a_o_cameThen a_o_fallsBy a_o_loops a_o_ran a_o_told1 u.2.1 o_top o_bottom o_taped o_size o_token o_from o_end o_value o_faultKind o_faultPlace o_faults o_seen o_toldParts o_depth o_counted o_becameThen o_firstCorner o_drawn o_ranSteps o_isTold o_marks u.2.2) u.1 := by
  refine ctI (by decide) (Nat.le_of_ble_eq_true rfl) ?_
  intro p e s m below meth cd A ls aa QQ hq cx hP hD hS hl
  obtain ⟨⟨hx, hb, hml, hown, hts⟩, hr, hlocks, hK, hA, hX⟩ := id cx
  have hl : lv_has ls 3 [(0, .ref a_o), (1, .int v1), (2, .int v2)] := hl
  have hj20 : ∀ (o_status_j20 : Int32) (o_at_j20 : Nat → Int32) (H : Heap) (locs : List Loc) (ls : Array Slot), X12_put_j20 o_status_j20 o_at_j20 = some u → va_P E.1 vwCl (wd_X12_put E a_o a_o_at a_o_names a_o_sort a_o_trayMany a_o_trays a_o_tape a_o_text a_o_opened a_o_farBy a_o_attendsBy a_o_coveredBy a_o_cameBy a_o_cameThen a_o_fallsBy a_o_loops a_o_ran a_o_told1 o_status_j20 o_top o_bottom o_taped o_size o_token o_from o_end o_value o_faultKind o_faultPlace o_faults o_seen o_toldParts o_depth o_counted o_becameThen o_firstCorner o_drawn o_ranSteps o_isTold o_marks o_at_j20) H → va_D A (wd_X12_put E a_o a_o_at a_o_names a_o_sort a_o_trayMany a_o_trays a_o_tape a_o_text a_o_opened a_o_farBy a_o_attendsBy a_o_coveredBy a_o_cameBy a_o_cameThen a_o_fallsBy a_o_loops a_o_ran a_o_told1 o_status_j20 o_top o_bottom o_taped o_size o_token o_from o_end o_value o_faultKind o_faultPlace o_faults o_seen o_toldParts o_depth o_counted o_becameThen o_firstCorner o_drawn o_ranSteps o_isTold o_marks o_at_j20) → va_S A s.heap H locs → lv_has ls 3 [(0, .ref a_o)] → W p l e (rmd 4) s m aa below meth cd H locs 0 0 QQ (F0 m 20 ls []) := by
    intro o_status_j20 o_at_j20 H locs ls hf hP hD hS hl
    unfold X12_put_j20 at hf
    refine lv_aload_n hx hb dX12_put_20 rfl (lv_at hl 0 rfl) ?_
    refine lv_iconst (v := 1) hx hb dX12_put_21 (by decide) ?_
    obtain ⟨u22, hu22, hf⟩ := bd hf
    refine callVI (wn := (wd_X12_put E a_o a_o_at a_o_names a_o_sort a_o_trayMany a_o_trays a_o_tape a_o_text a_o_opened a_o_farBy a_o_attendsBy a_o_coveredBy a_o_cameBy a_o_cameThen a_o_fallsBy a_o_loops a_o_ran a_o_told1 u22.2 o_top o_bottom o_taped o_size o_token o_from o_end o_value o_faultKind o_faultPlace o_faults o_seen o_toldParts o_depth o_counted o_becameThen o_firstCorner o_drawn o_ranSteps o_isTold o_marks o_at_j20)) (n1 := 2) (ct_X12_refuse l E a_o a_o_at a_o_names a_o_sort a_o_trayMany a_o_trays a_o_tape a_o_text a_o_opened a_o_farBy a_o_attendsBy a_o_coveredBy a_o_cameBy a_o_cameThen a_o_fallsBy a_o_loops a_o_ran a_o_told1 o_status_j20 o_top o_bottom o_taped o_size o_token o_from o_end o_value o_faultKind o_faultPlace o_faults o_seen o_toldParts o_depth o_counted o_becameThen o_firstCorner o_drawn o_ranSteps o_isTold o_marks (1 : Int32) u22 hu22) [0] cal_X12_refuse cav_X12_refuse lk_X12_85 cx hP hD hS hl dX12_put_22 rfl rfl rfl rfl (Nat.le_of_ble_eq_true rfl) ⟨Nat.le_of_ble_eq_true rfl, Nat.le_of_ble_eq_true rfl⟩ rfl (by decide +kernel) rfl [some 0, none] rfl (by decide +kernel) rfl (fun H locs hP hD hS => ?_)
    obtain rfl := Option.some.inj hf
    subst hq
    exact retI cx hP hD hS dX12_put_25
  unfold X12_put at hf
  refine lv_aload_n hx hb dX12_put_0 rfl (lv_at hl 0 rfl) ?_
  refine lv_iload_n hx hb dX12_put_1 rfl (lv_at hl 1 rfl) ?_
  obtain ⟨u2, hu2, hf⟩ := bd hf
  refine keepVI (ct_X12_isHappening l E a_o a_o_at a_o_names a_o_sort a_o_trayMany a_o_trays a_o_tape a_o_text a_o_opened a_o_farBy a_o_attendsBy a_o_coveredBy a_o_cameBy a_o_cameThen a_o_fallsBy a_o_loops a_o_ran a_o_told1 o_status o_top o_bottom o_taped o_size o_token o_from o_end o_value o_faultKind o_faultPlace o_faults o_seen o_toldParts o_depth o_counted o_becameThen o_firstCorner o_drawn o_ranSteps o_isTold o_marks o_at v1 u2 hu2) [0, 1] cal_X12_isHappening cav_X12_isHappening lk_X12_296 cx hP hD hS hl dX12_put_2 rfl rfl rfl rfl (Nat.le_of_ble_eq_true rfl) ⟨Nat.le_of_ble_eq_true rfl, Nat.le_of_ble_eq_true rfl⟩ rfl (by decide) (fun H locs hP hS => ?_)
  refine lv_if_eq (tgt := 20) hx hb dX12_put_5 (by decide) (fun hc => ?_) (fun hc => ?_)
  · have hf := it_t hc hf
    exact hj20 _ _ _ _ _ hf hP hD hS (lv_sub hl [0] rfl)
  · have hf := it_f hc hf
    refine lv_iload_n hx hb dX12_put_8 rfl (lv_at hl 2 rfl) ?_
    refine lv_i2l (v := (v2.toInt64)) hx hb dX12_put_9 rfl ?_
    refine lv_lconst (v := 1) hx hb dX12_put_10 (by decide) ?_
    refine lv_ldc2 (v := 99) hx hb hown (hts _ kl_X12_357) dX12_put_11 ?_
    obtain ⟨u14, hu14, hf⟩ := bd hf
    refine keepSI (ct_X12_isFrom l E (v2.toInt64) (1 : Int64) (99 : Int64) u14 hu14) [] cal_X12_isFrom sta_X12_isFrom lk_X12_359 cx hP hD hS hl dX12_put_14 rfl rfl (Nat.le_of_ble_eq_true rfl) ⟨Nat.le_of_ble_eq_true rfl, Nat.le_of_ble_eq_true rfl⟩ rfl (by decide) (fun H locs hP hS => ?_)
    refine lv_if_ne (tgt := 26) hx hb dX12_put_17 (by decide) (fun hc => ?_) (fun hc => ?_)
    · have hf := it_f hc hf
      refine lv_aload_n hx hb dX12_put_26 rfl (lv_at hl 0 rfl) ?_
      refine lv_iload_n hx hb dX12_put_27 rfl (lv_at hl 1 rfl) ?_
      refine lv_iload_n hx hb dX12_put_28 rfl (lv_at hl 2 rfl) ?_
      obtain ⟨u29, hu29, hf⟩ := bd hf
      refine callVI (wn := (wd_X12_put E a_o a_o_at a_o_names a_o_sort a_o_trayMany a_o_trays a_o_tape a_o_text a_o_opened a_o_farBy a_o_attendsBy a_o_coveredBy a_o_cameBy a_o_cameThen a_o_fallsBy a_o_loops a_o_ran a_o_told1 o_status o_top o_bottom o_taped o_size o_token o_from o_end o_value o_faultKind o_faultPlace o_faults o_seen o_toldParts o_depth o_counted o_becameThen o_firstCorner o_drawn o_ranSteps o_isTold o_marks u29.2)) (n1 := 2) (ct_X12_puts l E a_o a_o_at a_o_names a_o_sort a_o_trayMany a_o_trays a_o_tape a_o_text a_o_opened a_o_farBy a_o_attendsBy a_o_coveredBy a_o_cameBy a_o_cameThen a_o_fallsBy a_o_loops a_o_ran a_o_told1 o_status o_top o_bottom o_taped o_size o_token o_from o_end o_value o_faultKind o_faultPlace o_faults o_seen o_toldParts o_depth o_counted o_becameThen o_firstCorner o_drawn o_ranSteps o_isTold o_marks o_at v1 v2 u29 hu29) [0, 1] cal_X12_puts cav_X12_puts lk_X12_366 cx hP hD hS hl dX12_put_29 rfl rfl rfl rfl (Nat.le_of_ble_eq_true rfl) ⟨Nat.le_of_ble_eq_true rfl, Nat.le_of_ble_eq_true rfl⟩ rfl (by decide +kernel) rfl [some 0, some 1] rfl (by decide +kernel) rfl (fun H locs hP hD hS => ?_)
      refine lv_if_eq (tgt := 48) hx hb dX12_put_32 (by decide) (fun hc => ?_) (fun hc => ?_)
      · have hf := it_t hc hf
        refine lv_aload_n hx hb dX12_put_48 rfl (lv_at hl 0 rfl) ?_
        refine lv_bipush (v := 7) hx hb dX12_put_49 (by decide) ?_
        obtain ⟨u51, hu51, hf⟩ := bd hf
        refine callVI (wn := (wd_X12_put E a_o a_o_at a_o_names a_o_sort a_o_trayMany a_o_trays a_o_tape a_o_text a_o_opened a_o_farBy a_o_attendsBy a_o_coveredBy a_o_cameBy a_o_cameThen a_o_fallsBy a_o_loops a_o_ran a_o_told1 u51.2 o_top o_bottom o_taped o_size o_token o_from o_end o_value o_faultKind o_faultPlace o_faults o_seen o_toldParts o_depth o_counted o_becameThen o_firstCorner o_drawn o_ranSteps o_isTold o_marks u29.2)) (n1 := 2) (ct_X12_refuse l E a_o a_o_at a_o_names a_o_sort a_o_trayMany a_o_trays a_o_tape a_o_text a_o_opened a_o_farBy a_o_attendsBy a_o_coveredBy a_o_cameBy a_o_cameThen a_o_fallsBy a_o_loops a_o_ran a_o_told1 o_status o_top o_bottom o_taped o_size o_token o_from o_end o_value o_faultKind o_faultPlace o_faults o_seen o_toldParts o_depth o_counted o_becameThen o_firstCorner o_drawn o_ranSteps o_isTold o_marks (7 : Int32) u51 hu51) [0] cal_X12_refuse cav_X12_refuse lk_X12_85 cx hP hD hS hl dX12_put_51 rfl rfl rfl rfl (Nat.le_of_ble_eq_true rfl) ⟨Nat.le_of_ble_eq_true rfl, Nat.le_of_ble_eq_true rfl⟩ rfl (by decide +kernel) rfl [some 0, none] rfl (by decide +kernel) rfl (fun H locs hP hD hS => ?_)
        obtain rfl := Option.some.inj hf
        subst hq
        exact retI cx hP hD hS dX12_put_54
      · have hf := it_f hc hf
        refine lv_aload_n hx hb dX12_put_35 rfl (lv_at hl 0 rfl) ?_
        refine lv_aload_n hx hb dX12_put_36 rfl (lv_at hl 0 rfl) ?_
        refine lv_iload_n hx hb dX12_put_37 rfl (lv_at hl 1 rfl) ?_
        refine lv_iconst (v := 1) hx hb dX12_put_38 (by decide) ?_
        obtain ⟨u39, hu39, hf⟩ := bd hf
        refine keepVI (ct_X12_happeningOf l E a_o a_o_at a_o_names a_o_sort a_o_trayMany a_o_trays a_o_tape a_o_text a_o_opened a_o_farBy a_o_attendsBy a_o_coveredBy a_o_cameBy a_o_cameThen a_o_fallsBy a_o_loops a_o_ran a_o_told1 o_status o_top o_bottom o_taped o_size o_token o_from o_end o_value o_faultKind o_faultPlace o_faults o_seen o_toldParts o_depth o_counted o_becameThen o_firstCorner o_drawn o_ranSteps o_isTold o_marks u29.2 v1 (1 : Int32) u39 hu39) [0, 1] cal_X12_happeningOf cav_X12_happeningOf lk_X12_278 cx hP hD hS hl dX12_put_39 rfl rfl rfl rfl (Nat.le_of_ble_eq_true rfl) ⟨Nat.le_of_ble_eq_true rfl, Nat.le_of_ble_eq_true rfl⟩ rfl (by decide) (fun H locs hP hS => ?_)
        obtain ⟨u42, hu42, hf⟩ := bd hf
        refine callVI (wn := (wd_X12_put E a_o a_o_at a_o_names a_o_sort a_o_trayMany a_o_trays a_o_tape a_o_text a_o_opened a_o_farBy a_o_attendsBy a_o_coveredBy a_o_cameBy a_o_cameThen a_o_fallsBy a_o_loops a_o_ran a_o_told1 u42.2 o_top o_bottom o_taped o_size o_token o_from o_end o_value o_faultKind o_faultPlace o_faults o_seen o_toldParts o_depth o_counted o_becameThen o_firstCorner o_drawn o_ranSteps o_isTold o_marks u29.2)) (n1 := 2) (ct_X12_gives l E a_o a_o_at a_o_names a_o_sort a_o_trayMany a_o_trays a_o_tape a_o_text a_o_opened a_o_farBy a_o_attendsBy a_o_coveredBy a_o_cameBy a_o_cameThen a_o_fallsBy a_o_loops a_o_ran a_o_told1 o_status o_top o_bottom o_taped o_size o_token o_from o_end o_value o_faultKind o_faultPlace o_faults o_seen o_toldParts o_depth o_counted o_becameThen o_firstCorner o_drawn o_ranSteps o_isTold o_marks u39 u42 hu42) [0] cal_X12_gives cav_X12_gives lk_X12_89 cx hP hD hS hl dX12_put_42 rfl rfl rfl rfl (Nat.le_of_ble_eq_true rfl) ⟨Nat.le_of_ble_eq_true rfl, Nat.le_of_ble_eq_true rfl⟩ rfl (by decide +kernel) rfl [some 0, none] rfl (by decide +kernel) rfl (fun H locs hP hD hS => ?_)
        refine lv_goto (tgt := 54) hx hb dX12_put_45 (by decide) ?_
        obtain rfl := Option.some.inj hf
        subst hq
        exact retI cx hP hD hS dX12_put_54
    · have hf := it_t hc hf
      exact hj20 _ _ _ _ _ hf hP hD hS (lv_sub hl [0] rfl)
def X12_raise_j20 (o_status : Int32) (o_at : Nat → Int32) : Option (Int32 × Int32 × (Nat → Int32)) :=
  (X12_is o_status (1 : Int32)).bind fun u22 =>
  if isZ u22.1 then some (u22.1, u22.2, o_at) else none
def X12_raise (o_status : Int32) (o_at : Nat → Int32) (v1 : Int32) (v2 : Int32) : Option (Int32 × Int32 × (Nat → Int32)) :=
  (X12_isHappening o_at v1).bind fun u2 =>
  if u2 = 0 then
  X12_raise_j20 o_status o_at
  else
  (X12_isFrom (v2.toInt64) (1 : Int64) (4 : Int64)).bind fun u14 =>
  if u14 = 0 then
  X12_raise_j20 o_status o_at
  else
  (X12_isToCome o_at v1).bind fun u28 =>
  if u28 = 0 then
  (X12_is o_status (7 : Int32)).bind fun u37 =>
  if isZ u37.1 then some (u37.1, u37.2, o_at) else none
  else
  (X12_happeningRow v1).bind fun u46 =>
  if ix (u46 + 2) 3097 then
  (X12_is o_status (0 : Int32)).bind fun u55 =>
  if isZ u55.1 then some (u55.1, u55.2, (jput o_at (u46 + 2) v2)) else none
  else none
abbrev wd_X12_raise (E : vE) (a_o a_o_at a_o_names a_o_sort a_o_trayMany a_o_trays a_o_tape a_o_text a_o_opened a_o_farBy a_o_attendsBy a_o_coveredBy a_o_cameBy a_o_cameThen a_o_fallsBy a_o_loops a_o_ran a_o_told1 : Nat) (o_status : Int32) (o_top : Int64) (o_bottom : Int64) (o_taped : Int32) (o_size : Int32) (o_token : Int32) (o_from : Int32) (o_end : Int32) (o_value : Int32) (o_faultKind : Int32) (o_faultPlace : Int32) (o_faults : Int32) (o_seen : Int32) (o_toldParts : Int32) (o_depth : Int32) (o_counted : Int32) (o_becameThen : Int32) (o_firstCorner : Int32) (o_drawn : Int32) (o_ranSteps : Int32) (o_isTold : Int32) (o_marks : Int32) (o_at : Nat → Int32) : va_W := [(a_o, .inr (12, [.ref a_o_at, .ref a_o_names, .int o_status, .long o_top, .long o_bottom, .ref a_o_sort, .ref a_o_trayMany, .ref a_o_trays, .ref a_o_tape, .ref a_o_text, .int o_taped, .int o_size, .int o_token, .int o_from, .int o_end, .int o_value, .int o_faultKind, .int o_faultPlace, .int o_faults, .int o_seen, .int o_toldParts, .ref a_o_opened, .int o_depth, .int o_counted, .ref a_o_farBy, .int o_becameThen, .ref a_o_attendsBy, .ref a_o_coveredBy, .ref a_o_cameBy, .ref a_o_cameThen, .int o_firstCorner, .ref a_o_fallsBy, .int o_drawn, .int o_ranSteps, .ref a_o_loops, .ref a_o_ran, .ref a_o_told1, .int o_isTold, .int o_marks])), (a_o_at, .inl (E.2.1, 3097, .inl o_at))]
set_option maxHeartbeats 4000000 in
set_option maxRecDepth 100000 in
theorem ct_X12_raise (l : Launch) (E : vE) (a_o a_o_at a_o_names a_o_sort a_o_trayMany a_o_trays a_o_tape a_o_text a_o_opened a_o_farBy a_o_attendsBy a_o_coveredBy a_o_cameBy a_o_cameThen a_o_fallsBy a_o_loops a_o_ran a_o_told1 : Nat) (o_status : Int32) (o_top : Int64) (o_bottom : Int64) (o_taped : Int32) (o_size : Int32) (o_token : Int32) (o_from : Int32) (o_end : Int32) (o_value : Int32) (o_faultKind : Int32) (o_faultPlace : Int32) (o_faults : Int32) (o_seen : Int32) (o_toldParts : Int32) (o_depth : Int32) (o_counted : Int32) (o_becameThen : Int32) (o_firstCorner : Int32) (o_drawn : Int32) (o_ranSteps : Int32) (o_isTold : Int32) (o_marks : Int32) (o_at : Nat → Int32) (v1 : Int32) (v2 : Int32) (u : Int32 × Int32 × (Nat → Int32)) (hf : X12_raise o_status o_at v1 v2 = some u) :
    CtI l yX12_raise cX12_raise 3 (some .boolean) 3 E [.ref a_o, .int v1, .int v2] (wd_X12_raise E a_o a_o_at a_o_names a_o_sort a_o_trayMany a_o_trays a_o_tape a_o_text a_o_opened a_o_farBy a_o_attendsBy a_o_coveredBy a_o_cameBy a_o_cameThen a_o_fallsBy a_o_loops a_o_ran a_o_told1 o_status o_top o_bottom o_taped o_size o_token o_from o_end o_value o_faultKind o_faultPlace o_faults o_seen o_toldParts o_depth o_counted o_becameThen o_firstCorner o_drawn o_ranSteps o_isTold o_marks o_at) (wd_X12_raise E a_o a_o_at a_o_names a_o_sort a_o_trayMany a_o_trays a_o_tape a_o_text a_o_opened a_o_farBy a_o_attendsBy a_o_coveredBy a_o_cameBy a_o_cameThen a_o_fallsBy a_o_loops a_o_ran a_o_told1 u.2.1 o_top o_bottom o_taped o_size o_token o_from o_end o_value o_faultKind o_faultPlace o_faults o_seen o_toldParts o_depth o_counted o_becameThen o_firstCorner o_drawn o_ranSteps o_isTold o_marks u.2.2) u.1 := by
  refine ctI (by decide) (Nat.le_of_ble_eq_true rfl) ?_
  intro p e s m below meth cd A ls aa QQ hq cx hP hD hS hl
  obtain ⟨⟨hx, hb, hml, hown, hts⟩, hr, hlocks, hK, hA, hX⟩ := id cx
  have hl : lv_has ls 3 [(0, .ref a_o), (1, .int v1), (2, .int v2)] := hl
  have hj20 : ∀ (o_status_j20 : Int32) (o_at_j20 : Nat → Int32) (H : Heap) (locs : List Loc) (ls : Array Slot), X12_raise_j20 o_status_j20 o_at_j20 = some u → va_P E.1 vwCl (wd_X12_raise E a_o a_o_at a_o_names a_o_sort a_o_trayMany a_o_trays a_o_tape a_o_text a_o_opened a_o_farBy a_o_attendsBy a_o_coveredBy a_o_cameBy a_o_cameThen a_o_fallsBy a_o_loops a_o_ran a_o_told1 o_status_j20 o_top o_bottom o_taped o_size o_token o_from o_end o_value o_faultKind o_faultPlace o_faults o_seen o_toldParts o_depth o_counted o_becameThen o_firstCorner o_drawn o_ranSteps o_isTold o_marks o_at_j20) H → va_D A (wd_X12_raise E a_o a_o_at a_o_names a_o_sort a_o_trayMany a_o_trays a_o_tape a_o_text a_o_opened a_o_farBy a_o_attendsBy a_o_coveredBy a_o_cameBy a_o_cameThen a_o_fallsBy a_o_loops a_o_ran a_o_told1 o_status_j20 o_top o_bottom o_taped o_size o_token o_from o_end o_value o_faultKind o_faultPlace o_faults o_seen o_toldParts o_depth o_counted o_becameThen o_firstCorner o_drawn o_ranSteps o_isTold o_marks o_at_j20) → va_S A s.heap H locs → lv_has ls 3 [(0, .ref a_o)] → W p l e (rmd 3) s m aa below meth cd H locs 0 0 QQ (F0 m 20 ls []) := by
    intro o_status_j20 o_at_j20 H locs ls hf hP hD hS hl
    unfold X12_raise_j20 at hf
    refine lv_aload_n hx hb dX12_raise_20 rfl (lv_at hl 0 rfl) ?_
    refine lv_iconst (v := 1) hx hb dX12_raise_21 (by decide) ?_
    obtain ⟨u22, hu22, hf⟩ := bd hf
    refine callVI (wn := (wd_X12_raise E a_o a_o_at a_o_names a_o_sort a_o_trayMany a_o_trays a_o_tape a_o_text a_o_opened a_o_farBy a_o_attendsBy a_o_coveredBy a_o_cameBy a_o_cameThen a_o_fallsBy a_o_loops a_o_ran a_o_told1 u22.2 o_top o_bottom o_taped o_size o_token o_from o_end o_value o_faultKind o_faultPlace o_faults o_seen o_toldParts o_depth o_counted o_becameThen o_firstCorner o_drawn o_ranSteps o_isTold o_marks o_at_j20)) (n1 := 2) (ct_X12_is l E a_o a_o_at a_o_names a_o_sort a_o_trayMany a_o_trays a_o_tape a_o_text a_o_opened a_o_farBy a_o_attendsBy a_o_coveredBy a_o_cameBy a_o_cameThen a_o_fallsBy a_o_loops a_o_ran a_o_told1 o_status_j20 o_top o_bottom o_taped o_size o_token o_from o_end o_value o_faultKind o_faultPlace o_faults o_seen o_toldParts o_depth o_counted o_becameThen o_firstCorner o_drawn o_ranSteps o_isTold o_marks (1 : Int32) u22 hu22) [0] cal_X12_is cav_X12_is lk_X12_92 cx hP hD hS hl dX12_raise_22 rfl rfl rfl rfl (Nat.le_of_ble_eq_true rfl) ⟨Nat.le_of_ble_eq_true rfl, Nat.le_of_ble_eq_true rfl⟩ rfl (by decide +kernel) rfl [some 0, none] rfl (by decide +kernel) rfl (fun H locs hP hD hS => ?_)
    obtain ⟨hz, hf⟩ := ck hf
    obtain rfl := Option.some.inj hf
    subst hq
    exact retZ cx hz hP hD hS dX12_raise_25
  unfold X12_raise at hf
  refine lv_aload_n hx hb dX12_raise_0 rfl (lv_at hl 0 rfl) ?_
  refine lv_iload_n hx hb dX12_raise_1 rfl (lv_at hl 1 rfl) ?_
  obtain ⟨u2, hu2, hf⟩ := bd hf
  refine keepVI (ct_X12_isHappening l E a_o a_o_at a_o_names a_o_sort a_o_trayMany a_o_trays a_o_tape a_o_text a_o_opened a_o_farBy a_o_attendsBy a_o_coveredBy a_o_cameBy a_o_cameThen a_o_fallsBy a_o_loops a_o_ran a_o_told1 o_status o_top o_bottom o_taped o_size o_token o_from o_end o_value o_faultKind o_faultPlace o_faults o_seen o_toldParts o_depth o_counted o_becameThen o_firstCorner o_drawn o_ranSteps o_isTold o_marks o_at v1 u2 hu2) [0, 1] cal_X12_isHappening cav_X12_isHappening lk_X12_296 cx hP hD hS hl dX12_raise_2 rfl rfl rfl rfl (Nat.le_of_ble_eq_true rfl) ⟨Nat.le_of_ble_eq_true rfl, Nat.le_of_ble_eq_true rfl⟩ rfl (by decide) (fun H locs hP hS => ?_)
  refine lv_if_eq (tgt := 20) hx hb dX12_raise_5 (by decide) (fun hc => ?_) (fun hc => ?_)
  · have hf := it_t hc hf
    exact hj20 _ _ _ _ _ hf hP hD hS (lv_sub hl [0] rfl)
  · have hf := it_f hc hf
    refine lv_iload_n hx hb dX12_raise_8 rfl (lv_at hl 2 rfl) ?_
    refine lv_i2l (v := (v2.toInt64)) hx hb dX12_raise_9 rfl ?_
    refine lv_lconst (v := 1) hx hb dX12_raise_10 (by decide) ?_
    refine lv_ldc2 (v := 4) hx hb hown (hts _ kl_X12_369) dX12_raise_11 ?_
    obtain ⟨u14, hu14, hf⟩ := bd hf
    refine keepSI (ct_X12_isFrom l E (v2.toInt64) (1 : Int64) (4 : Int64) u14 hu14) [] cal_X12_isFrom sta_X12_isFrom lk_X12_359 cx hP hD hS hl dX12_raise_14 rfl rfl (Nat.le_of_ble_eq_true rfl) ⟨Nat.le_of_ble_eq_true rfl, Nat.le_of_ble_eq_true rfl⟩ rfl (by decide) (fun H locs hP hS => ?_)
    refine lv_if_ne (tgt := 26) hx hb dX12_raise_17 (by decide) (fun hc => ?_) (fun hc => ?_)
    · have hf := it_f hc hf
      refine lv_aload_n hx hb dX12_raise_26 rfl (lv_at hl 0 rfl) ?_
      refine lv_iload_n hx hb dX12_raise_27 rfl (lv_at hl 1 rfl) ?_
      obtain ⟨u28, hu28, hf⟩ := bd hf
      refine keepVI (ct_X12_isToCome l E a_o a_o_at a_o_names a_o_sort a_o_trayMany a_o_trays a_o_tape a_o_text a_o_opened a_o_farBy a_o_attendsBy a_o_coveredBy a_o_cameBy a_o_cameThen a_o_fallsBy a_o_loops a_o_ran a_o_told1 o_status o_top o_bottom o_taped o_size o_token o_from o_end o_value o_faultKind o_faultPlace o_faults o_seen o_toldParts o_depth o_counted o_becameThen o_firstCorner o_drawn o_ranSteps o_isTold o_marks o_at v1 u28 hu28) [0, 1] cal_X12_isToCome cav_X12_isToCome lk_X12_333 cx hP hD hS hl dX12_raise_28 rfl rfl rfl rfl (Nat.le_of_ble_eq_true rfl) ⟨Nat.le_of_ble_eq_true rfl, Nat.le_of_ble_eq_true rfl⟩ rfl (by decide) (fun H locs hP hS => ?_)
      refine lv_if_ne (tgt := 41) hx hb dX12_raise_31 (by decide) (fun hc => ?_) (fun hc => ?_)
      · have hf := it_f hc hf
        refine lv_aload_n hx hb dX12_raise_41 rfl (lv_at hl 0 rfl) ?_
        refine va_get (D := E.1) (ci := 12) (v := .ref a_o_at) (C := RX12) (T := TX12) (N := 39) hx hb hts inX12 hown hK hP 0 rfl rfl 0 (by decide) (hts _ fl_X12_7) (fun _ h9 => h9) rfl dX12_raise_42 ?_
        refine lv_iload_n hx hb dX12_raise_45 rfl (lv_at hl 1 rfl) ?_
        obtain ⟨u46, hu46, hf⟩ := bd hf
        refine keepSI (ct_X12_happeningRow l E v1 u46 hu46) [] cal_X12_happeningRow sta_X12_happeningRow lk_X12_214 cx hP hD hS hl dX12_raise_46 rfl rfl (Nat.le_of_ble_eq_true rfl) ⟨Nat.le_of_ble_eq_true rfl, Nat.le_of_ble_eq_true rfl⟩ rfl (by decide) (fun H locs hP hS => ?_)
        refine lv_iconst (v := 2) hx hb dX12_raise_49 (by decide) ?_
        refine lv_iadd hx hb dX12_raise_50 ?_
        refine lv_iload_n hx hb dX12_raise_51 rfl (lv_at hl 2 rfl) ?_
        obtain ⟨hi, hf⟩ := ck hf
        refine r_iast 1 cx hP hD hS rfl hi dX12_raise_52 (fun H locs hP hD hS => ?_)
        have hP : va_P E.1 vwCl (wd_X12_raise E a_o a_o_at a_o_names a_o_sort a_o_trayMany a_o_trays a_o_tape a_o_text a_o_opened a_o_farBy a_o_attendsBy a_o_coveredBy a_o_cameBy a_o_cameThen a_o_fallsBy a_o_loops a_o_ran a_o_told1 o_status o_top o_bottom o_taped o_size o_token o_from o_end o_value o_faultKind o_faultPlace o_faults o_seen o_toldParts o_depth o_counted o_becameThen o_firstCorner o_drawn o_ranSteps o_isTold o_marks (jput o_at (u46 + 2) v2)) H := hP
        have hD : va_D A (wd_X12_raise E a_o a_o_at a_o_names a_o_sort a_o_trayMany a_o_trays a_o_tape a_o_text a_o_opened a_o_farBy a_o_attendsBy a_o_coveredBy a_o_cameBy a_o_cameThen a_o_fallsBy a_o_loops a_o_ran a_o_told1 o_status o_top o_bottom o_taped o_size o_token o_from o_end o_value o_faultKind o_faultPlace o_faults o_seen o_toldParts o_depth o_counted o_becameThen o_firstCorner o_drawn o_ranSteps o_isTold o_marks (jput o_at (u46 + 2) v2)) := hD
        refine lv_aload_n hx hb dX12_raise_53 rfl (lv_at hl 0 rfl) ?_
        refine lv_iconst (v := 0) hx hb dX12_raise_54 (by decide) ?_
        obtain ⟨u55, hu55, hf⟩ := bd hf
        refine callVI (wn := (wd_X12_raise E a_o a_o_at a_o_names a_o_sort a_o_trayMany a_o_trays a_o_tape a_o_text a_o_opened a_o_farBy a_o_attendsBy a_o_coveredBy a_o_cameBy a_o_cameThen a_o_fallsBy a_o_loops a_o_ran a_o_told1 u55.2 o_top o_bottom o_taped o_size o_token o_from o_end o_value o_faultKind o_faultPlace o_faults o_seen o_toldParts o_depth o_counted o_becameThen o_firstCorner o_drawn o_ranSteps o_isTold o_marks (jput o_at (u46 + 2) v2))) (n1 := 2) (ct_X12_is l E a_o a_o_at a_o_names a_o_sort a_o_trayMany a_o_trays a_o_tape a_o_text a_o_opened a_o_farBy a_o_attendsBy a_o_coveredBy a_o_cameBy a_o_cameThen a_o_fallsBy a_o_loops a_o_ran a_o_told1 o_status o_top o_bottom o_taped o_size o_token o_from o_end o_value o_faultKind o_faultPlace o_faults o_seen o_toldParts o_depth o_counted o_becameThen o_firstCorner o_drawn o_ranSteps o_isTold o_marks (0 : Int32) u55 hu55) [0] cal_X12_is cav_X12_is lk_X12_92 cx hP hD hS hl dX12_raise_55 rfl rfl rfl rfl (Nat.le_of_ble_eq_true rfl) ⟨Nat.le_of_ble_eq_true rfl, Nat.le_of_ble_eq_true rfl⟩ rfl (by decide +kernel) rfl [some 0, none] rfl (by decide +kernel) rfl (fun H locs hP hD hS => ?_)
        obtain ⟨hz, hf⟩ := ck hf
        obtain rfl := Option.some.inj hf
        subst hq
        exact retZ cx hz hP hD hS dX12_raise_58
      · have hf := it_t hc hf
        refine lv_aload_n hx hb dX12_raise_34 rfl (lv_at hl 0 rfl) ?_
        refine lv_bipush (v := 7) hx hb dX12_raise_35 (by decide) ?_
        obtain ⟨u37, hu37, hf⟩ := bd hf
        refine callVI (wn := (wd_X12_raise E a_o a_o_at a_o_names a_o_sort a_o_trayMany a_o_trays a_o_tape a_o_text a_o_opened a_o_farBy a_o_attendsBy a_o_coveredBy a_o_cameBy a_o_cameThen a_o_fallsBy a_o_loops a_o_ran a_o_told1 u37.2 o_top o_bottom o_taped o_size o_token o_from o_end o_value o_faultKind o_faultPlace o_faults o_seen o_toldParts o_depth o_counted o_becameThen o_firstCorner o_drawn o_ranSteps o_isTold o_marks o_at)) (n1 := 2) (ct_X12_is l E a_o a_o_at a_o_names a_o_sort a_o_trayMany a_o_trays a_o_tape a_o_text a_o_opened a_o_farBy a_o_attendsBy a_o_coveredBy a_o_cameBy a_o_cameThen a_o_fallsBy a_o_loops a_o_ran a_o_told1 o_status o_top o_bottom o_taped o_size o_token o_from o_end o_value o_faultKind o_faultPlace o_faults o_seen o_toldParts o_depth o_counted o_becameThen o_firstCorner o_drawn o_ranSteps o_isTold o_marks (7 : Int32) u37 hu37) [0] cal_X12_is cav_X12_is lk_X12_92 cx hP hD hS hl dX12_raise_37 rfl rfl rfl rfl (Nat.le_of_ble_eq_true rfl) ⟨Nat.le_of_ble_eq_true rfl, Nat.le_of_ble_eq_true rfl⟩ rfl (by decide +kernel) rfl [some 0, none] rfl (by decide +kernel) rfl (fun H locs hP hD hS => ?_)
        obtain ⟨hz, hf⟩ := ck hf
        obtain rfl := Option.some.inj hf
        subst hq
        exact retZ cx hz hP hD hS dX12_raise_40
    · have hf := it_t hc hf
      exact hj20 _ _ _ _ _ hf hP hD hS (lv_sub hl [0] rfl)
def X12_plan_j32 (o_status : Int32) (o_at : Nat → Int32) (o_names : Nat → Int64) : Option (Int32 × Int32 × (Nat → Int32) × (Nat → Int64)) :=
  (X12_refuse o_status (1 : Int32)).bind fun u34 =>
  some (u34.1, u34.2, o_at, o_names)
def X12_plan (o_status : Int32) (o_at : Nat → Int32) (o_names : Nat → Int64) (v1 : Int32) (v2 : Int32) (v3 : Int32) : Option (Int32 × Int32 × (Nat → Int32) × (Nat → Int64)) :=
  (X12_isCorner o_at v1).bind fun u2 =>
  if u2 = 0 then
  X12_plan_j32 o_status o_at o_names
  else
  (X12_isFrom (v2.toInt64) (0 : Int64) (999 : Int64)).bind fun u14 =>
  if u14 = 0 then
  X12_plan_j32 o_status o_at o_names
  else
  (X12_isFrom (v3.toInt64) (1 : Int64) (4 : Int64)).bind fun u26 =>
  if u26 = 0 then
  X12_plan_j32 o_status o_at o_names
  else
  if ix 3 3097 then
  if (jat o_at 3) = 8 then
  (X12_refuse o_status (4 : Int32)).bind fun u55 =>
  some (u55.1, u55.2, o_at, o_names)
  else
  if ix 3 3097 then
  if ix 3 3097 then
  (X12_happeningRow (jat o_at 3)).bind fun u75 =>
  if ix u75 3097 then
  (X12_happeningRow (jat o_at 3)).bind fun u86 =>
  if ix (u86 + 1) 3097 then
  (X12_happeningRow (jat o_at 3)).bind fun u99 =>
  if ix (u99 + 2) 3097 then
  (X12_happeningRow (jat o_at 3)).bind fun u112 =>
  if ix (u112 + 3) 3097 then
  if ix (15 + (jat o_at 3)) 162 then
  (X12_gives o_status (jat o_at 3)).bind fun u133 =>
  some (u133.1, u133.2, (jput (jput (jput (jput (jput o_at 3 ((jat o_at 3) + 1)) u75 v1) (u86 + 1) v2) (u99 + 2) v3) (u112 + 3) 0), (jputL o_names (15 + (jat o_at 3)) 0))
  else none
  else none
  else none
  else none
  else none
  else none
  else none
  else none
abbrev wd_X12_plan (E : vE) (a_o a_o_at a_o_names a_o_sort a_o_trayMany a_o_trays a_o_tape a_o_text a_o_opened a_o_farBy a_o_attendsBy a_o_coveredBy a_o_cameBy a_o_cameThen a_o_fallsBy a_o_loops a_o_ran a_o_told1 : Nat) (o_status : Int32) (o_top : Int64) (o_bottom : Int64) (o_taped : Int32) (o_size : Int32) (o_token : Int32) (o_from : Int32) (o_end : Int32) (o_value : Int32) (o_faultKind : Int32) (o_faultPlace : Int32) (o_faults : Int32) (o_seen : Int32) (o_toldParts : Int32) (o_depth : Int32) (o_counted : Int32) (o_becameThen : Int32) (o_firstCorner : Int32) (o_drawn : Int32) (o_ranSteps : Int32) (o_isTold : Int32) (o_marks : Int32) (o_at : Nat → Int32) (o_names : Nat → Int64) : va_W := [(a_o, .inr (12, [.ref a_o_at, .ref a_o_names, .int o_status, .long o_top, .long o_bottom, .ref a_o_sort, .ref a_o_trayMany, .ref a_o_trays, .ref a_o_tape, .ref a_o_text, .int o_taped, .int o_size, .int o_token, .int o_from, .int o_end, .int o_value, .int o_faultKind, .int o_faultPlace, .int o_faults, .int o_seen, .int o_toldParts, .ref a_o_opened, .int o_depth, .int o_counted, .ref a_o_farBy, .int o_becameThen, .ref a_o_attendsBy, .ref a_o_coveredBy, .ref a_o_cameBy, .ref a_o_cameThen, .int o_firstCorner, .ref a_o_fallsBy, .int o_drawn, .int o_ranSteps, .ref a_o_loops, .ref a_o_ran, .ref a_o_told1, .int o_isTold, .int o_marks])), (a_o_at, .inl (E.2.1, 3097, .inl o_at)), (a_o_names, .inl (E.2.2.1, 162, .inr (.inl o_names)))]
set_option maxHeartbeats 4000000 in
set_option maxRecDepth 100000 in
theorem ct_X12_plan (l : Launch) (E : vE) (a_o a_o_at a_o_names a_o_sort a_o_trayMany a_o_trays a_o_tape a_o_text a_o_opened a_o_farBy a_o_attendsBy a_o_coveredBy a_o_cameBy a_o_cameThen a_o_fallsBy a_o_loops a_o_ran a_o_told1 : Nat) (o_status : Int32) (o_top : Int64) (o_bottom : Int64) (o_taped : Int32) (o_size : Int32) (o_token : Int32) (o_from : Int32) (o_end : Int32) (o_value : Int32) (o_faultKind : Int32) (o_faultPlace : Int32) (o_faults : Int32) (o_seen : Int32) (o_toldParts : Int32) (o_depth : Int32) (o_counted : Int32) (o_becameThen : Int32) (o_firstCorner : Int32) (o_drawn : Int32) (o_ranSteps : Int32) (o_isTold : Int32) (o_marks : Int32) (o_at : Nat → Int32) (o_names : Nat → Int64) (v1 : Int32) (v2 : Int32) (v3 : Int32) (u : Int32 × Int32 × (Nat → Int32) × (Nat → Int64)) (hf : X12_plan o_status o_at o_names v1 v2 v3 = some u) :
    CtI l yX12_plan cX12_plan 5 (some .int) 1 E [.ref a_o, .int v1, .int v2, .int v3] (wd_X12_plan E a_o a_o_at a_o_names a_o_sort a_o_trayMany a_o_trays a_o_tape a_o_text a_o_opened a_o_farBy a_o_attendsBy a_o_coveredBy a_o_cameBy a_o_cameThen a_o_fallsBy a_o_loops a_o_ran a_o_told1 o_status o_top o_bottom o_taped o_size o_token o_from o_end o_value o_faultKind o_faultPlace o_faults o_seen o_toldParts o_depth o_counted o_becameThen o_firstCorner o_drawn o_ranSteps o_isTold o_marks o_at o_names) (wd_X12_plan E a_o a_o_at a_o_names a_o_sort a_o_trayMany a_o_trays a_o_tape a_o_text a_o_opened a_o_farBy a_o_attendsBy a_o_coveredBy a_o_cameBy a_o_cameThen a_o_fallsBy a_o_loops a_o_ran a_o_told1 u.2.1 o_top o_bottom o_taped o_size o_token o_from o_end o_value o_faultKind o_faultPlace o_faults o_seen o_toldParts o_depth o_counted o_becameThen o_firstCorner o_drawn o_ranSteps o_isTold o_marks u.2.2.1 u.2.2.2) u.1 := by
  refine ctI (by decide) (Nat.le_of_ble_eq_true rfl) ?_
  intro p e s m below meth cd A ls aa QQ hq cx hP hD hS hl
  obtain ⟨⟨hx, hb, hml, hown, hts⟩, hr, hlocks, hK, hA, hX⟩ := id cx
  have hl : lv_has ls 5 [(0, .ref a_o), (1, .int v1), (2, .int v2), (3, .int v3)] := hl
  have hj32 : ∀ (o_status_j32 : Int32) (o_at_j32 : Nat → Int32) (o_names_j32 : Nat → Int64) (H : Heap) (locs : List Loc) (ls : Array Slot), X12_plan_j32 o_status_j32 o_at_j32 o_names_j32 = some u → va_P E.1 vwCl (wd_X12_plan E a_o a_o_at a_o_names a_o_sort a_o_trayMany a_o_trays a_o_tape a_o_text a_o_opened a_o_farBy a_o_attendsBy a_o_coveredBy a_o_cameBy a_o_cameThen a_o_fallsBy a_o_loops a_o_ran a_o_told1 o_status_j32 o_top o_bottom o_taped o_size o_token o_from o_end o_value o_faultKind o_faultPlace o_faults o_seen o_toldParts o_depth o_counted o_becameThen o_firstCorner o_drawn o_ranSteps o_isTold o_marks o_at_j32 o_names_j32) H → va_D A (wd_X12_plan E a_o a_o_at a_o_names a_o_sort a_o_trayMany a_o_trays a_o_tape a_o_text a_o_opened a_o_farBy a_o_attendsBy a_o_coveredBy a_o_cameBy a_o_cameThen a_o_fallsBy a_o_loops a_o_ran a_o_told1 o_status_j32 o_top o_bottom o_taped o_size o_token o_from o_end o_value o_faultKind o_faultPlace o_faults o_seen o_toldParts o_depth o_counted o_becameThen o_firstCorner o_drawn o_ranSteps o_isTold o_marks o_at_j32 o_names_j32) → va_S A s.heap H locs → lv_has ls 5 [(0, .ref a_o)] → W p l e (rmd 1) s m aa below meth cd H locs 0 0 QQ (F0 m 32 ls []) := by
    intro o_status_j32 o_at_j32 o_names_j32 H locs ls hf hP hD hS hl
    unfold X12_plan_j32 at hf
    refine lv_aload_n hx hb dX12_plan_32 rfl (lv_at hl 0 rfl) ?_
    refine lv_iconst (v := 1) hx hb dX12_plan_33 (by decide) ?_
    obtain ⟨u34, hu34, hf⟩ := bd hf
    refine callVI (wn := (wd_X12_plan E a_o a_o_at a_o_names a_o_sort a_o_trayMany a_o_trays a_o_tape a_o_text a_o_opened a_o_farBy a_o_attendsBy a_o_coveredBy a_o_cameBy a_o_cameThen a_o_fallsBy a_o_loops a_o_ran a_o_told1 u34.2 o_top o_bottom o_taped o_size o_token o_from o_end o_value o_faultKind o_faultPlace o_faults o_seen o_toldParts o_depth o_counted o_becameThen o_firstCorner o_drawn o_ranSteps o_isTold o_marks o_at_j32 o_names_j32)) (n1 := 3) (ct_X12_refuse l E a_o a_o_at a_o_names a_o_sort a_o_trayMany a_o_trays a_o_tape a_o_text a_o_opened a_o_farBy a_o_attendsBy a_o_coveredBy a_o_cameBy a_o_cameThen a_o_fallsBy a_o_loops a_o_ran a_o_told1 o_status_j32 o_top o_bottom o_taped o_size o_token o_from o_end o_value o_faultKind o_faultPlace o_faults o_seen o_toldParts o_depth o_counted o_becameThen o_firstCorner o_drawn o_ranSteps o_isTold o_marks (1 : Int32) u34 hu34) [0] cal_X12_refuse cav_X12_refuse lk_X12_85 cx hP hD hS hl dX12_plan_34 rfl rfl rfl rfl (Nat.le_of_ble_eq_true rfl) ⟨Nat.le_of_ble_eq_true rfl, Nat.le_of_ble_eq_true rfl⟩ rfl (by decide +kernel) rfl [some 0, none, none] rfl (by decide +kernel) rfl (fun H locs hP hD hS => ?_)
    obtain rfl := Option.some.inj hf
    subst hq
    exact retI cx hP hD hS dX12_plan_37
  unfold X12_plan at hf
  refine lv_aload_n hx hb dX12_plan_0 rfl (lv_at hl 0 rfl) ?_
  refine lv_iload_n hx hb dX12_plan_1 rfl (lv_at hl 1 rfl) ?_
  obtain ⟨u2, hu2, hf⟩ := bd hf
  refine keepVI (ct_X12_isCorner l E a_o a_o_at a_o_names a_o_sort a_o_trayMany a_o_trays a_o_tape a_o_text a_o_opened a_o_farBy a_o_attendsBy a_o_coveredBy a_o_cameBy a_o_cameThen a_o_fallsBy a_o_loops a_o_ran a_o_told1 o_status o_top o_bottom o_taped o_size o_token o_from o_end o_value o_faultKind o_faultPlace o_faults o_seen o_toldParts o_depth o_counted o_becameThen o_firstCorner o_drawn o_ranSteps o_isTold o_marks o_at v1 u2 hu2) [0, 1] cal_X12_isCorner cav_X12_isCorner lk_X12_311 cx hP hD hS hl dX12_plan_2 rfl rfl rfl rfl (Nat.le_of_ble_eq_true rfl) ⟨Nat.le_of_ble_eq_true rfl, Nat.le_of_ble_eq_true rfl⟩ rfl (by decide) (fun H locs hP hS => ?_)
  refine lv_if_eq (tgt := 32) hx hb dX12_plan_5 (by decide) (fun hc => ?_) (fun hc => ?_)
  · have hf := it_t hc hf
    exact hj32 _ _ _ _ _ _ hf hP hD hS (lv_sub hl [0] rfl)
  · have hf := it_f hc hf
    refine lv_iload_n hx hb dX12_plan_8 rfl (lv_at hl 2 rfl) ?_
    refine lv_i2l (v := (v2.toInt64)) hx hb dX12_plan_9 rfl ?_
    refine lv_lconst (v := 0) hx hb dX12_plan_10 (by decide) ?_
    refine lv_ldc2 (v := 999) hx hb hown (hts _ kl_X12_371) dX12_plan_11 ?_
    obtain ⟨u14, hu14, hf⟩ := bd hf
    refine keepSI (ct_X12_isFrom l E (v2.toInt64) (0 : Int64) (999 : Int64) u14 hu14) [] cal_X12_isFrom sta_X12_isFrom lk_X12_359 cx hP hD hS hl dX12_plan_14 rfl rfl (Nat.le_of_ble_eq_true rfl) ⟨Nat.le_of_ble_eq_true rfl, Nat.le_of_ble_eq_true rfl⟩ rfl (by decide) (fun H locs hP hS => ?_)
    refine lv_if_eq (tgt := 32) hx hb dX12_plan_17 (by decide) (fun hc => ?_) (fun hc => ?_)
    · have hf := it_t hc hf
      exact hj32 _ _ _ _ _ _ hf hP hD hS (lv_sub hl [0] rfl)
    · have hf := it_f hc hf
      refine lv_iload_n hx hb dX12_plan_20 rfl (lv_at hl 3 rfl) ?_
      refine lv_i2l (v := (v3.toInt64)) hx hb dX12_plan_21 rfl ?_
      refine lv_lconst (v := 1) hx hb dX12_plan_22 (by decide) ?_
      refine lv_ldc2 (v := 4) hx hb hown (hts _ kl_X12_369) dX12_plan_23 ?_
      obtain ⟨u26, hu26, hf⟩ := bd hf
      refine keepSI (ct_X12_isFrom l E (v3.toInt64) (1 : Int64) (4 : Int64) u26 hu26) [] cal_X12_isFrom sta_X12_isFrom lk_X12_359 cx hP hD hS hl dX12_plan_26 rfl rfl (Nat.le_of_ble_eq_true rfl) ⟨Nat.le_of_ble_eq_true rfl, Nat.le_of_ble_eq_true rfl⟩ rfl (by decide) (fun H locs hP hS => ?_)
      refine lv_if_ne (tgt := 38) hx hb dX12_plan_29 (by decide) (fun hc => ?_) (fun hc => ?_)
      · have hf := it_f hc hf
        refine lv_aload_n hx hb dX12_plan_38 rfl (lv_at hl 0 rfl) ?_
        refine va_get (D := E.1) (ci := 12) (v := .ref a_o_at) (C := RX12) (T := TX12) (N := 39) hx hb hts inX12 hown hK hP 0 rfl rfl 0 (by decide) (hts _ fl_X12_7) (fun _ h9 => h9) rfl dX12_plan_39 ?_
        refine lv_iconst (v := 3) hx hb dX12_plan_42 (by decide) ?_
        obtain ⟨hi, hf⟩ := ck hf
        refine r_iald 1 cx hP rfl hi dX12_plan_43 ?_
        refine lv_istore (lv' := [(4, .int (jat o_at 3)), (0, .ref a_o), (1, .int v1), (2, .int v2), (3, .int v3)]) hx hb dX12_plan_44 hl (by decide) rfl (fun ls hl => ?_)
        refine lv_iload hx hb dX12_plan_46 (lv_at hl 0 rfl) ?_
        refine lv_bipush (v := 8) hx hb dX12_plan_48 (by decide) ?_
        refine lv_icmp_ne (tgt := 59) hx hb dX12_plan_50 (by decide) (fun hc => ?_) (fun hc => ?_)
        · have hf := it_f hc hf
          refine lv_aload_n hx hb dX12_plan_59 rfl (lv_at hl 1 rfl) ?_
          refine va_get (D := E.1) (ci := 12) (v := .ref a_o_at) (C := RX12) (T := TX12) (N := 39) hx hb hts inX12 hown hK hP 0 rfl rfl 0 (by decide) (hts _ fl_X12_7) (fun _ h9 => h9) rfl dX12_plan_60 ?_
          refine lv_iconst (v := 3) hx hb dX12_plan_63 (by decide) ?_
          refine lv_dup2_11 hx hb dX12_plan_64 rfl rfl ?_
          obtain ⟨hi, hf⟩ := ck hf
          refine r_iald 1 cx hP rfl hi dX12_plan_65 ?_
          refine lv_iconst (v := 1) hx hb dX12_plan_66 (by decide) ?_
          refine lv_iadd hx hb dX12_plan_67 ?_
          obtain ⟨hi, hf⟩ := ck hf
          refine r_iast 1 cx hP hD hS rfl hi dX12_plan_68 (fun H locs hP hD hS => ?_)
          have hP : va_P E.1 vwCl (wd_X12_plan E a_o a_o_at a_o_names a_o_sort a_o_trayMany a_o_trays a_o_tape a_o_text a_o_opened a_o_farBy a_o_attendsBy a_o_coveredBy a_o_cameBy a_o_cameThen a_o_fallsBy a_o_loops a_o_ran a_o_told1 o_status o_top o_bottom o_taped o_size o_token o_from o_end o_value o_faultKind o_faultPlace o_faults o_seen o_toldParts o_depth o_counted o_becameThen o_firstCorner o_drawn o_ranSteps o_isTold o_marks (jput o_at 3 ((jat o_at 3) + 1)) o_names) H := hP
          have hD : va_D A (wd_X12_plan E a_o a_o_at a_o_names a_o_sort a_o_trayMany a_o_trays a_o_tape a_o_text a_o_opened a_o_farBy a_o_attendsBy a_o_coveredBy a_o_cameBy a_o_cameThen a_o_fallsBy a_o_loops a_o_ran a_o_told1 o_status o_top o_bottom o_taped o_size o_token o_from o_end o_value o_faultKind o_faultPlace o_faults o_seen o_toldParts o_depth o_counted o_becameThen o_firstCorner o_drawn o_ranSteps o_isTold o_marks (jput o_at 3 ((jat o_at 3) + 1)) o_names) := hD
          refine lv_aload_n hx hb dX12_plan_69 rfl (lv_at hl 1 rfl) ?_
          refine va_get (D := E.1) (ci := 12) (v := .ref a_o_at) (C := RX12) (T := TX12) (N := 39) hx hb hts inX12 hown hK hP 0 rfl rfl 0 (by decide) (hts _ fl_X12_7) (fun _ h9 => h9) rfl dX12_plan_70 ?_
          refine lv_iload hx hb dX12_plan_73 (lv_at hl 0 rfl) ?_
          obtain ⟨u75, hu75, hf⟩ := bd hf
          refine keepSI (ct_X12_happeningRow l E (jat o_at 3) u75 hu75) [] cal_X12_happeningRow sta_X12_happeningRow lk_X12_214 cx hP hD hS hl dX12_plan_75 rfl rfl (Nat.le_of_ble_eq_true rfl) ⟨Nat.le_of_ble_eq_true rfl, Nat.le_of_ble_eq_true rfl⟩ rfl (by decide) (fun H locs hP hS => ?_)
          refine lv_iload_n hx hb dX12_plan_78 rfl (lv_at hl 2 rfl) ?_
          obtain ⟨hi, hf⟩ := ck hf
          refine r_iast 1 cx hP hD hS rfl hi dX12_plan_79 (fun H locs hP hD hS => ?_)
          have hP : va_P E.1 vwCl (wd_X12_plan E a_o a_o_at a_o_names a_o_sort a_o_trayMany a_o_trays a_o_tape a_o_text a_o_opened a_o_farBy a_o_attendsBy a_o_coveredBy a_o_cameBy a_o_cameThen a_o_fallsBy a_o_loops a_o_ran a_o_told1 o_status o_top o_bottom o_taped o_size o_token o_from o_end o_value o_faultKind o_faultPlace o_faults o_seen o_toldParts o_depth o_counted o_becameThen o_firstCorner o_drawn o_ranSteps o_isTold o_marks (jput (jput o_at 3 ((jat o_at 3) + 1)) u75 v1) o_names) H := hP
          have hD : va_D A (wd_X12_plan E a_o a_o_at a_o_names a_o_sort a_o_trayMany a_o_trays a_o_tape a_o_text a_o_opened a_o_farBy a_o_attendsBy a_o_coveredBy a_o_cameBy a_o_cameThen a_o_fallsBy a_o_loops a_o_ran a_o_told1 o_status o_top o_bottom o_taped o_size o_token o_from o_end o_value o_faultKind o_faultPlace o_faults o_seen o_toldParts o_depth o_counted o_becameThen o_firstCorner o_drawn o_ranSteps o_isTold o_marks (jput (jput o_at 3 ((jat o_at 3) + 1)) u75 v1) o_names) := hD
          refine lv_aload_n hx hb dX12_plan_80 rfl (lv_at hl 1 rfl) ?_
          refine va_get (D := E.1) (ci := 12) (v := .ref a_o_at) (C := RX12) (T := TX12) (N := 39) hx hb hts inX12 hown hK hP 0 rfl rfl 0 (by decide) (hts _ fl_X12_7) (fun _ h9 => h9) rfl dX12_plan_81 ?_
          refine lv_iload hx hb dX12_plan_84 (lv_at hl 0 rfl) ?_
          obtain ⟨u86, hu86, hf⟩ := bd hf
          refine keepSI (ct_X12_happeningRow l E (jat o_at 3) u86 hu86) [] cal_X12_happeningRow sta_X12_happeningRow lk_X12_214 cx hP hD hS hl dX12_plan_86 rfl rfl (Nat.le_of_ble_eq_true rfl) ⟨Nat.le_of_ble_eq_true rfl, Nat.le_of_ble_eq_true rfl⟩ rfl (by decide) (fun H locs hP hS => ?_)
          refine lv_iconst (v := 1) hx hb dX12_plan_89 (by decide) ?_
          refine lv_iadd hx hb dX12_plan_90 ?_
          refine lv_iload_n hx hb dX12_plan_91 rfl (lv_at hl 3 rfl) ?_
          obtain ⟨hi, hf⟩ := ck hf
          refine r_iast 1 cx hP hD hS rfl hi dX12_plan_92 (fun H locs hP hD hS => ?_)
          have hP : va_P E.1 vwCl (wd_X12_plan E a_o a_o_at a_o_names a_o_sort a_o_trayMany a_o_trays a_o_tape a_o_text a_o_opened a_o_farBy a_o_attendsBy a_o_coveredBy a_o_cameBy a_o_cameThen a_o_fallsBy a_o_loops a_o_ran a_o_told1 o_status o_top o_bottom o_taped o_size o_token o_from o_end o_value o_faultKind o_faultPlace o_faults o_seen o_toldParts o_depth o_counted o_becameThen o_firstCorner o_drawn o_ranSteps o_isTold o_marks (jput (jput (jput o_at 3 ((jat o_at 3) + 1)) u75 v1) (u86 + 1) v2) o_names) H := hP
          have hD : va_D A (wd_X12_plan E a_o a_o_at a_o_names a_o_sort a_o_trayMany a_o_trays a_o_tape a_o_text a_o_opened a_o_farBy a_o_attendsBy a_o_coveredBy a_o_cameBy a_o_cameThen a_o_fallsBy a_o_loops a_o_ran a_o_told1 o_status o_top o_bottom o_taped o_size o_token o_from o_end o_value o_faultKind o_faultPlace o_faults o_seen o_toldParts o_depth o_counted o_becameThen o_firstCorner o_drawn o_ranSteps o_isTold o_marks (jput (jput (jput o_at 3 ((jat o_at 3) + 1)) u75 v1) (u86 + 1) v2) o_names) := hD
          refine lv_aload_n hx hb dX12_plan_93 rfl (lv_at hl 1 rfl) ?_
          refine va_get (D := E.1) (ci := 12) (v := .ref a_o_at) (C := RX12) (T := TX12) (N := 39) hx hb hts inX12 hown hK hP 0 rfl rfl 0 (by decide) (hts _ fl_X12_7) (fun _ h9 => h9) rfl dX12_plan_94 ?_
          refine lv_iload hx hb dX12_plan_97 (lv_at hl 0 rfl) ?_
          obtain ⟨u99, hu99, hf⟩ := bd hf
          refine keepSI (ct_X12_happeningRow l E (jat o_at 3) u99 hu99) [] cal_X12_happeningRow sta_X12_happeningRow lk_X12_214 cx hP hD hS hl dX12_plan_99 rfl rfl (Nat.le_of_ble_eq_true rfl) ⟨Nat.le_of_ble_eq_true rfl, Nat.le_of_ble_eq_true rfl⟩ rfl (by decide) (fun H locs hP hS => ?_)
          refine lv_iconst (v := 2) hx hb dX12_plan_102 (by decide) ?_
          refine lv_iadd hx hb dX12_plan_103 ?_
          refine lv_iload_n hx hb dX12_plan_104 rfl (lv_at hl 4 rfl) ?_
          obtain ⟨hi, hf⟩ := ck hf
          refine r_iast 1 cx hP hD hS rfl hi dX12_plan_105 (fun H locs hP hD hS => ?_)
          have hP : va_P E.1 vwCl (wd_X12_plan E a_o a_o_at a_o_names a_o_sort a_o_trayMany a_o_trays a_o_tape a_o_text a_o_opened a_o_farBy a_o_attendsBy a_o_coveredBy a_o_cameBy a_o_cameThen a_o_fallsBy a_o_loops a_o_ran a_o_told1 o_status o_top o_bottom o_taped o_size o_token o_from o_end o_value o_faultKind o_faultPlace o_faults o_seen o_toldParts o_depth o_counted o_becameThen o_firstCorner o_drawn o_ranSteps o_isTold o_marks (jput (jput (jput (jput o_at 3 ((jat o_at 3) + 1)) u75 v1) (u86 + 1) v2) (u99 + 2) v3) o_names) H := hP
          have hD : va_D A (wd_X12_plan E a_o a_o_at a_o_names a_o_sort a_o_trayMany a_o_trays a_o_tape a_o_text a_o_opened a_o_farBy a_o_attendsBy a_o_coveredBy a_o_cameBy a_o_cameThen a_o_fallsBy a_o_loops a_o_ran a_o_told1 o_status o_top o_bottom o_taped o_size o_token o_from o_end o_value o_faultKind o_faultPlace o_faults o_seen o_toldParts o_depth o_counted o_becameThen o_firstCorner o_drawn o_ranSteps o_isTold o_marks (jput (jput (jput (jput o_at 3 ((jat o_at 3) + 1)) u75 v1) (u86 + 1) v2) (u99 + 2) v3) o_names) := hD
          refine lv_aload_n hx hb dX12_plan_106 rfl (lv_at hl 1 rfl) ?_
          refine va_get (D := E.1) (ci := 12) (v := .ref a_o_at) (C := RX12) (T := TX12) (N := 39) hx hb hts inX12 hown hK hP 0 rfl rfl 0 (by decide) (hts _ fl_X12_7) (fun _ h9 => h9) rfl dX12_plan_107 ?_
          refine lv_iload hx hb dX12_plan_110 (lv_at hl 0 rfl) ?_
          obtain ⟨u112, hu112, hf⟩ := bd hf
          refine keepSI (ct_X12_happeningRow l E (jat o_at 3) u112 hu112) [] cal_X12_happeningRow sta_X12_happeningRow lk_X12_214 cx hP hD hS hl dX12_plan_112 rfl rfl (Nat.le_of_ble_eq_true rfl) ⟨Nat.le_of_ble_eq_true rfl, Nat.le_of_ble_eq_true rfl⟩ rfl (by decide) (fun H locs hP hS => ?_)
          refine lv_iconst (v := 3) hx hb dX12_plan_115 (by decide) ?_
          refine lv_iadd hx hb dX12_plan_116 ?_
          refine lv_iconst (v := 0) hx hb dX12_plan_117 (by decide) ?_
          obtain ⟨hi, hf⟩ := ck hf
          refine r_iast 1 cx hP hD hS rfl hi dX12_plan_118 (fun H locs hP hD hS => ?_)
          have hP : va_P E.1 vwCl (wd_X12_plan E a_o a_o_at a_o_names a_o_sort a_o_trayMany a_o_trays a_o_tape a_o_text a_o_opened a_o_farBy a_o_attendsBy a_o_coveredBy a_o_cameBy a_o_cameThen a_o_fallsBy a_o_loops a_o_ran a_o_told1 o_status o_top o_bottom o_taped o_size o_token o_from o_end o_value o_faultKind o_faultPlace o_faults o_seen o_toldParts o_depth o_counted o_becameThen o_firstCorner o_drawn o_ranSteps o_isTold o_marks (jput (jput (jput (jput (jput o_at 3 ((jat o_at 3) + 1)) u75 v1) (u86 + 1) v2) (u99 + 2) v3) (u112 + 3) 0) o_names) H := hP
          have hD : va_D A (wd_X12_plan E a_o a_o_at a_o_names a_o_sort a_o_trayMany a_o_trays a_o_tape a_o_text a_o_opened a_o_farBy a_o_attendsBy a_o_coveredBy a_o_cameBy a_o_cameThen a_o_fallsBy a_o_loops a_o_ran a_o_told1 o_status o_top o_bottom o_taped o_size o_token o_from o_end o_value o_faultKind o_faultPlace o_faults o_seen o_toldParts o_depth o_counted o_becameThen o_firstCorner o_drawn o_ranSteps o_isTold o_marks (jput (jput (jput (jput (jput o_at 3 ((jat o_at 3) + 1)) u75 v1) (u86 + 1) v2) (u99 + 2) v3) (u112 + 3) 0) o_names) := hD
          refine lv_aload_n hx hb dX12_plan_119 rfl (lv_at hl 1 rfl) ?_
          refine va_get (D := E.1) (ci := 12) (v := .ref a_o_names) (C := RX12) (T := TX12) (N := 39) hx hb hts inX12 hown hK hP 0 rfl rfl 1 (by decide) (hts _ fl_X12_13) (fun _ h9 => h9) rfl dX12_plan_120 ?_
          refine lv_bipush (v := 15) hx hb dX12_plan_123 (by decide) ?_
          refine lv_iload hx hb dX12_plan_125 (lv_at hl 0 rfl) ?_
          refine lv_iadd hx hb dX12_plan_127 ?_
          refine lv_lconst (v := 0) hx hb dX12_plan_128 (by decide) ?_
          obtain ⟨hi, hf⟩ := ck hf
          refine r_last 2 cx hP hD hS rfl hi dX12_plan_129 (fun H locs hP hD hS => ?_)
          have hP : va_P E.1 vwCl (wd_X12_plan E a_o a_o_at a_o_names a_o_sort a_o_trayMany a_o_trays a_o_tape a_o_text a_o_opened a_o_farBy a_o_attendsBy a_o_coveredBy a_o_cameBy a_o_cameThen a_o_fallsBy a_o_loops a_o_ran a_o_told1 o_status o_top o_bottom o_taped o_size o_token o_from o_end o_value o_faultKind o_faultPlace o_faults o_seen o_toldParts o_depth o_counted o_becameThen o_firstCorner o_drawn o_ranSteps o_isTold o_marks (jput (jput (jput (jput (jput o_at 3 ((jat o_at 3) + 1)) u75 v1) (u86 + 1) v2) (u99 + 2) v3) (u112 + 3) 0) (jputL o_names (15 + (jat o_at 3)) 0)) H := hP
          have hD : va_D A (wd_X12_plan E a_o a_o_at a_o_names a_o_sort a_o_trayMany a_o_trays a_o_tape a_o_text a_o_opened a_o_farBy a_o_attendsBy a_o_coveredBy a_o_cameBy a_o_cameThen a_o_fallsBy a_o_loops a_o_ran a_o_told1 o_status o_top o_bottom o_taped o_size o_token o_from o_end o_value o_faultKind o_faultPlace o_faults o_seen o_toldParts o_depth o_counted o_becameThen o_firstCorner o_drawn o_ranSteps o_isTold o_marks (jput (jput (jput (jput (jput o_at 3 ((jat o_at 3) + 1)) u75 v1) (u86 + 1) v2) (u99 + 2) v3) (u112 + 3) 0) (jputL o_names (15 + (jat o_at 3)) 0)) := hD
          refine lv_aload_n hx hb dX12_plan_130 rfl (lv_at hl 1 rfl) ?_
          refine lv_iload hx hb dX12_plan_131 (lv_at hl 0 rfl) ?_
          obtain ⟨u133, hu133, hf⟩ := bd hf
          refine callVI (wn := (wd_X12_plan E a_o a_o_at a_o_names a_o_sort a_o_trayMany a_o_trays a_o_tape a_o_text a_o_opened a_o_farBy a_o_attendsBy a_o_coveredBy a_o_cameBy a_o_cameThen a_o_fallsBy a_o_loops a_o_ran a_o_told1 u133.2 o_top o_bottom o_taped o_size o_token o_from o_end o_value o_faultKind o_faultPlace o_faults o_seen o_toldParts o_depth o_counted o_becameThen o_firstCorner o_drawn o_ranSteps o_isTold o_marks (jput (jput (jput (jput (jput o_at 3 ((jat o_at 3) + 1)) u75 v1) (u86 + 1) v2) (u99 + 2) v3) (u112 + 3) 0) (jputL o_names (15 + (jat o_at 3)) 0))) (n1 := 3) (ct_X12_gives l E a_o a_o_at a_o_names a_o_sort a_o_trayMany a_o_trays a_o_tape a_o_text a_o_opened a_o_farBy a_o_attendsBy a_o_coveredBy a_o_cameBy a_o_cameThen a_o_fallsBy a_o_loops a_o_ran a_o_told1 o_status o_top o_bottom o_taped o_size o_token o_from o_end o_value o_faultKind o_faultPlace o_faults o_seen o_toldParts o_depth o_counted o_becameThen o_firstCorner o_drawn o_ranSteps o_isTold o_marks (jat o_at 3) u133 hu133) [0] cal_X12_gives cav_X12_gives lk_X12_89 cx hP hD hS hl dX12_plan_133 rfl rfl rfl rfl (Nat.le_of_ble_eq_true rfl) ⟨Nat.le_of_ble_eq_true rfl, Nat.le_of_ble_eq_true rfl⟩ rfl (by decide +kernel) rfl [some 0, none, none] rfl (by decide +kernel) rfl (fun H locs hP hD hS => ?_)
          obtain rfl := Option.some.inj hf
          subst hq
          exact retI cx hP hD hS dX12_plan_136
        · have hf := it_t hc hf
          refine lv_aload_n hx hb dX12_plan_53 rfl (lv_at hl 1 rfl) ?_
          refine lv_iconst (v := 4) hx hb dX12_plan_54 (by decide) ?_
          obtain ⟨u55, hu55, hf⟩ := bd hf
          refine callVI (wn := (wd_X12_plan E a_o a_o_at a_o_names a_o_sort a_o_trayMany a_o_trays a_o_tape a_o_text a_o_opened a_o_farBy a_o_attendsBy a_o_coveredBy a_o_cameBy a_o_cameThen a_o_fallsBy a_o_loops a_o_ran a_o_told1 u55.2 o_top o_bottom o_taped o_size o_token o_from o_end o_value o_faultKind o_faultPlace o_faults o_seen o_toldParts o_depth o_counted o_becameThen o_firstCorner o_drawn o_ranSteps o_isTold o_marks o_at o_names)) (n1 := 3) (ct_X12_refuse l E a_o a_o_at a_o_names a_o_sort a_o_trayMany a_o_trays a_o_tape a_o_text a_o_opened a_o_farBy a_o_attendsBy a_o_coveredBy a_o_cameBy a_o_cameThen a_o_fallsBy a_o_loops a_o_ran a_o_told1 o_status o_top o_bottom o_taped o_size o_token o_from o_end o_value o_faultKind o_faultPlace o_faults o_seen o_toldParts o_depth o_counted o_becameThen o_firstCorner o_drawn o_ranSteps o_isTold o_marks (4 : Int32) u55 hu55) [0] cal_X12_refuse cav_X12_refuse lk_X12_85 cx hP hD hS hl dX12_plan_55 rfl rfl rfl rfl (Nat.le_of_ble_eq_true rfl) ⟨Nat.le_of_ble_eq_true rfl, Nat.le_of_ble_eq_true rfl⟩ rfl (by decide +kernel) rfl [some 0, none, none] rfl (by decide +kernel) rfl (fun H locs hP hD hS => ?_)
          obtain rfl := Option.some.inj hf
          subst hq
          exact retI cx hP hD hS dX12_plan_58
      · have hf := it_t hc hf
        exact hj32 _ _ _ _ _ _ hf hP hD hS (lv_sub hl [0] rfl)
