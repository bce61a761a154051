def X12_isFrom_j17  : Option (Int32) :=
  some 0
def X12_isFrom (v0 : Int64) (v2 : Int64) (v4 : Int64) : Option (Int32) :=
  if (lg_cmp v0 v2) < 0 then
  X12_isFrom_j17
  else
  if (0 : Int32) < (lg_cmp v0 v4) then
  X12_isFrom_j17
  else
  some 1
abbrev wd_X12_isFrom (E : vE) : va_W := []
set_option maxHeartbeats 4000000 in
set_option maxRecDepth 100000 in
theorem ct_X12_isFrom (l : Launch) (E : vE) (v0 : Int64) (v2 : Int64) (v4 : Int64) (u : Int32) (hf : X12_isFrom v0 v2 v4 = some u) :
    CtI l yX12_isFrom cX12_isFrom 6 (some .boolean) 0 E [.long v0, .long v2, .long v4] (wd_X12_isFrom E) (wd_X12_isFrom E) u := by
  refine ctI (by decide) (Nat.le_of_ble_eq_true rfl) ?_
  intro p e s m below meth cd A ls aa QQ hq cx hP hD hS hl
  obtain ⟨⟨hx, hb, hml, hown, hts⟩, hr, hlocks, hK, hA, hX⟩ := id cx
  have hl : lv_has ls 6 [(0, .long v0), (2, .long v2), (4, .long v4)] := hl
  have hj17 : ∀ (H : Heap) (locs : List Loc) (ls : Array Slot), X12_isFrom_j17 = some u → va_P E.1 vwCl (wd_X12_isFrom E) H → va_D A (wd_X12_isFrom E) → va_S A s.heap H locs → lv_has ls 6 [] → W p l e (rmd 0) s m aa below meth cd H locs 0 0 QQ (F0 m 17 ls []) := by
    intro H locs ls hf hP hD hS hl
    unfold X12_isFrom_j17 at hf
    refine lv_iconst (v := 0) hx hb dX12_isFrom_17 (by decide) ?_
    obtain rfl := Option.some.inj hf
    subst hq
    exact retZ cx rfl hP hD hS dX12_isFrom_18
  unfold X12_isFrom at hf
  refine lv_lload_n hx hb dX12_isFrom_0 rfl (lv_at hl 0 rfl) ?_
  refine lv_lload_n hx hb dX12_isFrom_1 rfl (lv_at hl 1 rfl) ?_
  refine W.lcmp hx hb dX12_isFrom_2 ?_
  refine lv_if_lt (tgt := 17) hx hb dX12_isFrom_3 (by decide) (fun hc => ?_) (fun hc => ?_)
  · have hf := it_t hc hf
    exact hj17  _ _ _ hf hP hD hS (lv_sub hl [] rfl)
  · have hf := it_f hc hf
    refine lv_lload_n hx hb dX12_isFrom_6 rfl (lv_at hl 0 rfl) ?_
    refine lv_lload hx hb dX12_isFrom_7 (lv_at hl 2 rfl) ?_
    refine W.lcmp hx hb dX12_isFrom_9 ?_
    refine lv_if_gt (tgt := 17) hx hb dX12_isFrom_10 (by decide) (fun hc => ?_) (fun hc => ?_)
    · have hf := it_t hc hf
      exact hj17  _ _ _ hf hP hD hS (lv_sub hl [] rfl)
    · have hf := it_f hc hf
      refine lv_iconst (v := 1) hx hb dX12_isFrom_13 (by decide) ?_
      refine lv_goto (tgt := 18) hx hb dX12_isFrom_14 (by decide) ?_
      obtain rfl := Option.some.inj hf
      subst hq
      exact retZ cx rfl hP hD hS dX12_isFrom_18
def X12_four_b3 (F : Nat) (v1 : Int32) (st3 : Int32 × Int32 × (Nat → Int32)) : Option ((Int32 × Int32 × (Nat → Int32)) ⊕ ((Int32 × (Nat → Int32)))) :=
  if st3.1 < 0 then
  some (.inr (st3.2.1, st3.2.2))
  else
  if ix st3.2.1 900 then
  some (.inl ((st3.1 + (-8)), (st3.2.1 + 1), (jputB st3.2.2 st3.2.1 (jbyte (jshr v1 st3.1)))))
  else none
def X12_four (F : Nat) (o_taped : Int32) (o_tape : Nat → Int32) (v1 : Int32) : Option (Int32 × (Nat → Int32)) :=
  (iter (X12_four_b3 F v1) F (24, o_taped, o_tape)).bind (fun (e3 : Int32 × (Nat → Int32)) =>
    some (e3.1, e3.2))
abbrev wd_X12_four (E : vE) (a_o a_o_at a_o_names a_o_sort a_o_trayMany a_o_trays a_o_tape a_o_text a_o_opened a_o_farBy a_o_attendsBy a_o_coveredBy a_o_cameBy a_o_cameThen a_o_fallsBy a_o_loops a_o_ran a_o_told1 : Nat) (o_status : Int32) (o_top : Int64) (o_bottom : Int64) (o_taped : Int32) (o_size : Int32) (o_token : Int32) (o_from : Int32) (o_end : Int32) (o_value : Int32) (o_faultKind : Int32) (o_faultPlace : Int32) (o_faults : Int32) (o_seen : Int32) (o_toldParts : Int32) (o_depth : Int32) (o_counted : Int32) (o_becameThen : Int32) (o_firstCorner : Int32) (o_drawn : Int32) (o_ranSteps : Int32) (o_isTold : Int32) (o_marks : Int32) (o_tape : Nat → Int32) : va_W := [(a_o, .inr (12, [.ref a_o_at, .ref a_o_names, .int o_status, .long o_top, .long o_bottom, .ref a_o_sort, .ref a_o_trayMany, .ref a_o_trays, .ref a_o_tape, .ref a_o_text, .int o_taped, .int o_size, .int o_token, .int o_from, .int o_end, .int o_value, .int o_faultKind, .int o_faultPlace, .int o_faults, .int o_seen, .int o_toldParts, .ref a_o_opened, .int o_depth, .int o_counted, .ref a_o_farBy, .int o_becameThen, .ref a_o_attendsBy, .ref a_o_coveredBy, .ref a_o_cameBy, .ref a_o_cameThen, .int o_firstCorner, .ref a_o_fallsBy, .int o_drawn, .int o_ranSteps, .ref a_o_loops, .ref a_o_ran, .ref a_o_told1, .int o_isTold, .int o_marks])), (a_o_tape, .inl (E.2.2.2.1, 900, .inl o_tape))]
set_option maxHeartbeats 4000000 in
set_option maxRecDepth 100000 in
theorem ct_X12_four (l : Launch) (E : vE) (F : Nat) (a_o a_o_at a_o_names a_o_sort a_o_trayMany a_o_trays a_o_tape a_o_text a_o_opened a_o_farBy a_o_attendsBy a_o_coveredBy a_o_cameBy a_o_cameThen a_o_fallsBy a_o_loops a_o_ran a_o_told1 : Nat) (o_status : Int32) (o_top : Int64) (o_bottom : Int64) (o_taped : Int32) (o_size : Int32) (o_token : Int32) (o_from : Int32) (o_end : Int32) (o_value : Int32) (o_faultKind : Int32) (o_faultPlace : Int32) (o_faults : Int32) (o_seen : Int32) (o_toldParts : Int32) (o_depth : Int32) (o_counted : Int32) (o_becameThen : Int32) (o_firstCorner : Int32) (o_drawn : Int32) (o_ranSteps : Int32) (o_isTold : Int32) (o_marks : Int32) (o_tape : Nat → Int32) (v1 : Int32) (u : Int32 × (Nat → Int32)) (hf : X12_four F o_taped o_tape v1 = some u) :
    CtV l yX12_four cX12_four 3 none 0 E [.ref a_o, .int v1] (wd_X12_four E a_o a_o_at a_o_names a_o_sort a_o_trayMany a_o_trays a_o_tape a_o_text a_o_opened a_o_farBy a_o_attendsBy a_o_coveredBy a_o_cameBy a_o_cameThen a_o_fallsBy a_o_loops a_o_ran a_o_told1 o_status o_top o_bottom o_taped o_size o_token o_from o_end o_value o_faultKind o_faultPlace o_faults o_seen o_toldParts o_depth o_counted o_becameThen o_firstCorner o_drawn o_ranSteps o_isTold o_marks o_tape) (wd_X12_four E a_o a_o_at a_o_names a_o_sort a_o_trayMany a_o_trays a_o_tape a_o_text a_o_opened a_o_farBy a_o_attendsBy a_o_coveredBy a_o_cameBy a_o_cameThen a_o_fallsBy a_o_loops a_o_ran a_o_told1 o_status o_top o_bottom u.1 o_size o_token o_from o_end o_value o_faultKind o_faultPlace o_faults o_seen o_toldParts o_depth o_counted o_becameThen o_firstCorner o_drawn o_ranSteps o_isTold o_marks u.2) := by
  refine ctV (by decide) (Nat.le_of_ble_eq_true rfl) ?_
  intro p e s m below meth cd A ls aa QQ hq cx hP hD hS hl
  obtain ⟨⟨hx, hb, hml, hown, hts⟩, hr, hlocks, hK, hA, hX⟩ := id cx
  have hl : lv_has ls 3 [(0, .ref a_o), (1, .int v1)] := hl
  unfold X12_four at hf
  refine lv_bipush (v := 24) hx hb dX12_four_0 (by decide) ?_
  refine lv_istore_n (lv' := [(2, .int 24), (0, .ref a_o), (1, .int v1)]) hx hb dX12_four_2 rfl hl (by decide) rfl (fun ls hl => ?_)
  obtain ⟨e3, hit3, hf⟩ := bd hf
  refine iter_W (b := X12_four_b3 F v1) (P := fun st3 => ∀ (H : Heap) (locs : List Loc) (ls : Array Slot), va_P E.1 vwCl (wd_X12_four E a_o a_o_at a_o_names a_o_sort a_o_trayMany a_o_trays a_o_tape a_o_text a_o_opened a_o_farBy a_o_attendsBy a_o_coveredBy a_o_cameBy a_o_cameThen a_o_fallsBy a_o_loops a_o_ran a_o_told1 o_status o_top o_bottom st3.2.1 o_size o_token o_from o_end o_value o_faultKind o_faultPlace o_faults o_seen o_toldParts o_depth o_counted o_becameThen o_firstCorner o_drawn o_ranSteps o_isTold o_marks st3.2.2) H → va_D A (wd_X12_four E a_o a_o_at a_o_names a_o_sort a_o_trayMany a_o_trays a_o_tape a_o_text a_o_opened a_o_farBy a_o_attendsBy a_o_coveredBy a_o_cameBy a_o_cameThen a_o_fallsBy a_o_loops a_o_ran a_o_told1 o_status o_top o_bottom st3.2.1 o_size o_token o_from o_end o_value o_faultKind o_faultPlace o_faults o_seen o_toldParts o_depth o_counted o_becameThen o_firstCorner o_drawn o_ranSteps o_isTold o_marks st3.2.2) → va_S A s.heap H locs → lv_has ls 3 [(0, .ref a_o), (1, .int v1), (2, .int st3.1)] → W p l e (rmd 0) s m aa below meth cd H locs 0 0 QQ (F0 m 3 ls [])) (G := (fun (e3 : Int32 × (Nat → Int32)) => ∀ (H : Heap) (locs : List Loc) (ls : Array Slot), va_P E.1 vwCl (wd_X12_four E a_o a_o_at a_o_names a_o_sort a_o_trayMany a_o_trays a_o_tape a_o_text a_o_opened a_o_farBy a_o_attendsBy a_o_coveredBy a_o_cameBy a_o_cameThen a_o_fallsBy a_o_loops a_o_ran a_o_told1 o_status o_top o_bottom e3.1 o_size o_token o_from o_end o_value o_faultKind o_faultPlace o_faults o_seen o_toldParts o_depth o_counted o_becameThen o_firstCorner o_drawn o_ranSteps o_isTold o_marks e3.2) H → va_D A (wd_X12_four E a_o a_o_at a_o_names a_o_sort a_o_trayMany a_o_trays a_o_tape a_o_text a_o_opened a_o_farBy a_o_attendsBy a_o_coveredBy a_o_cameBy a_o_cameThen a_o_fallsBy a_o_loops a_o_ran a_o_told1 o_status o_top o_bottom e3.1 o_size o_token o_from o_end o_value o_faultKind o_faultPlace o_faults o_seen o_toldParts o_depth o_counted o_becameThen o_firstCorner o_drawn o_ranSteps o_isTold o_marks e3.2) → va_S A s.heap H locs → lv_has ls 3 [] → W p l e (rmd 0) s m aa below meth cd H locs 0 0 QQ (F0 m 36 ls []))) ?_ F (24, o_taped, o_tape) e3 hit3 ?_ _ _ _ hP hD hS (lv_sub hl [1, 2, 0] rfl)
  · intro st3 r3 hf hk3 he3 H locs ls hP hD hS hl
    unfold X12_four_b3 at hf
    refine lv_iload_n hx hb dX12_four_3 rfl (lv_at hl 2 rfl) ?_
    refine lv_if_lt (tgt := 36) hx hb dX12_four_4 (by decide) (fun hc => ?_) (fun hc => ?_)
    · have hf := it_t hc hf
      exact he3 _ (Option.some.inj hf).symm _ _ _ hP hD hS (lv_sub hl [] rfl)
    · have hf := it_f hc hf
      refine lv_aload_n hx hb dX12_four_7 rfl (lv_at hl 0 rfl) ?_
      refine va_get (D := E.1) (ci := 12) (v := .ref a_o_tape) (C := RX12) (T := TX12) (N := 39) hx hb hts inX12 hown hK hP 0 rfl rfl 8 (by decide) (hts _ fl_X12_30) (fun _ h9 => h9) rfl dX12_four_8 ?_
      refine lv_aload_n hx hb dX12_four_11 rfl (lv_at hl 0 rfl) ?_
      refine va_get (D := E.1) (ci := 12) (v := .int st3.2.1) (C := RX12) (T := TX12) (N := 39) hx hb hts inX12 hown hK hP 0 rfl rfl 10 (by decide) (hts _ fl_X12_109) (fun _ h9 => h9) rfl dX12_four_12 ?_
      refine lv_iload_n hx hb dX12_four_15 rfl (lv_at hl 1 rfl) ?_
      refine lv_iload_n hx hb dX12_four_16 rfl (lv_at hl 2 rfl) ?_
      refine r_ishr hx hb dX12_four_17 ?_
      refine lv_i2b (v := (jbyte (jshr v1 st3.1))) hx hb dX12_four_18 rfl ?_
      obtain ⟨hi, hf⟩ := ck hf
      refine r_bast 1 cx hP hD hS rfl hi dX12_four_19 (fun H locs hP hD hS => ?_)
      have hP : va_P E.1 vwCl (wd_X12_four E a_o a_o_at a_o_names a_o_sort a_o_trayMany a_o_trays a_o_tape a_o_text a_o_opened a_o_farBy a_o_attendsBy a_o_coveredBy a_o_cameBy a_o_cameThen a_o_fallsBy a_o_loops a_o_ran a_o_told1 o_status o_top o_bottom st3.2.1 o_size o_token o_from o_end o_value o_faultKind o_faultPlace o_faults o_seen o_toldParts o_depth o_counted o_becameThen o_firstCorner o_drawn o_ranSteps o_isTold o_marks (jputB st3.2.2 st3.2.1 (jbyte (jshr v1 st3.1)))) H := hP
      have hD : va_D A (wd_X12_four E a_o a_o_at a_o_names a_o_sort a_o_trayMany a_o_trays a_o_tape a_o_text a_o_opened a_o_farBy a_o_attendsBy a_o_coveredBy a_o_cameBy a_o_cameThen a_o_fallsBy a_o_loops a_o_ran a_o_told1 o_status o_top o_bottom st3.2.1 o_size o_token o_from o_end o_value o_faultKind o_faultPlace o_faults o_seen o_toldParts o_depth o_counted o_becameThen o_firstCorner o_drawn o_ranSteps o_isTold o_marks (jputB st3.2.2 st3.2.1 (jbyte (jshr v1 st3.1)))) := hD
      refine lv_aload_n hx hb dX12_four_20 rfl (lv_at hl 0 rfl) ?_
      refine lv_dup hx hb dX12_four_21 rfl ?_
      refine va_get (D := E.1) (ci := 12) (v := .int st3.2.1) (C := RX12) (T := TX12) (N := 39) hx hb hts inX12 hown hK hP 0 rfl rfl 10 (by decide) (hts _ fl_X12_109) (fun _ h9 => h9) rfl dX12_four_22 ?_
      refine lv_iconst (v := 1) hx hb dX12_four_25 (by decide) ?_
      refine lv_iadd hx hb dX12_four_26 ?_
      refine va_put (D := E.1) (ci := 12) (v := .int (st3.2.1 + 1)) (ty := .int) (C := RX12) (T := TX12) (N := 39) hx hb hts inX12 tyX12 tyX12_ok nmX12 hown hK hP hD hS 0 rfl rfl 10 (by decide) (hts _ fl_X12_109) (fun _ h9 => h9) rfl (by decide +kernel) rfl rfl (Nat.le_of_ble_eq_true rfl) dX12_four_27 (fun H locs hP hD hS => ?_)
      have hP : va_P E.1 vwCl (wd_X12_four E a_o a_o_at a_o_names a_o_sort a_o_trayMany a_o_trays a_o_tape a_o_text a_o_opened a_o_farBy a_o_attendsBy a_o_coveredBy a_o_cameBy a_o_cameThen a_o_fallsBy a_o_loops a_o_ran a_o_told1 o_status o_top o_bottom (st3.2.1 + 1) o_size o_token o_from o_end o_value o_faultKind o_faultPlace o_faults o_seen o_toldParts o_depth o_counted o_becameThen o_firstCorner o_drawn o_ranSteps o_isTold o_marks (jputB st3.2.2 st3.2.1 (jbyte (jshr v1 st3.1)))) H := hP
      have hD : va_D A (wd_X12_four E a_o a_o_at a_o_names a_o_sort a_o_trayMany a_o_trays a_o_tape a_o_text a_o_opened a_o_farBy a_o_attendsBy a_o_coveredBy a_o_cameBy a_o_cameThen a_o_fallsBy a_o_loops a_o_ran a_o_told1 o_status o_top o_bottom (st3.2.1 + 1) o_size o_token o_from o_end o_value o_faultKind o_faultPlace o_faults o_seen o_toldParts o_depth o_counted o_becameThen o_firstCorner o_drawn o_ranSteps o_isTold o_marks (jputB st3.2.2 st3.2.1 (jbyte (jshr v1 st3.1)))) := hD
      refine lv_iinc (v := (st3.1 + (-8))) (lv' := [(2, .int (st3.1 + (-8))), (0, .ref a_o), (1, .int v1)]) hx hb dX12_four_30 hl (k := 2) rfl rfl (by decide) rfl (fun ls hl => ?_)
      refine lv_goto (tgt := 3) hx hb dX12_four_33 (by decide) ?_
      exact hk3 _ (Option.some.inj hf).symm _ _ _ hP hD hS (lv_sub hl [1, 2, 0] rfl)
  · refine fun H locs ls hP hD hS hl => ?_
    obtain rfl := Option.some.inj hf
    subst hq
    exact retV cx hP hD hS dX12_four_36
def X12_feed (F : Nat) (o_taped : Int32) (o_tape : Nat → Int32) (v1 : Int32) (v2 : Int32) (v3 : Int32) (v4 : Int32) (v5 : Int32) : Option (Int32 × Int32 × (Nat → Int32)) :=
  if (o_taped + 20) ≤ 900 then
  (X12_four F o_taped o_tape v1).bind fun u17 =>
  (X12_four F u17.1 u17.2 v2).bind fun u22 =>
  (X12_four F u22.1 u22.2 v3).bind fun u27 =>
  (X12_four F u27.1 u27.2 v4).bind fun u33 =>
  (X12_four F u33.1 u33.2 v5).bind fun u39 =>
  some (u39.1, u39.1, u39.2)
  else
  some ((-1), o_taped, o_tape)
abbrev wd_X12_feed (E : vE) (a_o a_o_at a_o_names a_o_sort a_o_trayMany a_o_trays a_o_tape a_o_text a_o_opened a_o_farBy a_o_attendsBy a_o_coveredBy a_o_cameBy a_o_cameThen a_o_fallsBy a_o_loops a_o_ran a_o_told1 : Nat) (o_status : Int32) (o_top : Int64) (o_bottom : Int64) (o_taped : Int32) (o_size : Int32) (o_token : Int32) (o_from : Int32) (o_end : Int32) (o_value : Int32) (o_faultKind : Int32) (o_faultPlace : Int32) (o_faults : Int32) (o_seen : Int32) (o_toldParts : Int32) (o_depth : Int32) (o_counted : Int32) (o_becameThen : Int32) (o_firstCorner : Int32) (o_drawn : Int32) (o_ranSteps : Int32) (o_isTold : Int32) (o_marks : Int32) (o_tape : Nat → Int32) : va_W := [(a_o, .inr (12, [.ref a_o_at, .ref a_o_names, .int o_status, .long o_top, .long o_bottom, .ref a_o_sort, .ref a_o_trayMany, .ref a_o_trays, .ref a_o_tape, .ref a_o_text, .int o_taped, .int o_size, .int o_token, .int o_from, .int o_end, .int o_value, .int o_faultKind, .int o_faultPlace, .int o_faults, .int o_seen, .int o_toldParts, .ref a_o_opened, .int o_depth, .int o_counted, .ref a_o_farBy, .int o_becameThen, .ref a_o_attendsBy, .ref a_o_coveredBy, .ref a_o_cameBy, .ref a_o_cameThen, .int o_firstCorner, .ref a_o_fallsBy, .int o_drawn, .int o_ranSteps, .ref a_o_loops, .ref a_o_ran, .ref a_o_told1, .int o_isTold, .int o_marks])), (a_o_tape, .inl (E.2.2.2.1, 900, .inl o_tape))]
set_option maxHeartbeats 4000000 in
set_option maxRecDepth 100000 in
theorem ct_X12_feed (l : Launch) (E : vE) (F : Nat) (a_o a_o_at a_o_names a_o_sort a_o_trayMany a_o_trays a_o_tape a_o_text a_o_opened a_o_farBy a_o_attendsBy a_o_coveredBy a_o_cameBy a_o_cameThen a_o_fallsBy a_o_loops a_o_ran a_o_told1 : Nat) (o_status : Int32) (o_top : Int64) (o_bottom : Int64) (o_taped : Int32) (o_size : Int32) (o_token : Int32) (o_from : Int32) (o_end : Int32) (o_value : Int32) (o_faultKind : Int32) (o_faultPlace : Int32) (o_faults : Int32) (o_seen : Int32) (o_toldParts : Int32) (o_depth : Int32) (o_counted : Int32) (o_becameThen : Int32) (o_firstCorner : Int32) (o_drawn : Int32) (o_ranSteps : Int32) (o_isTold : Int32) (o_marks : Int32) (o_tape : Nat → Int32) (v1 : Int32) (v2 : Int32) (v3 : Int32) (v4 : Int32) (v5 : Int32) (u : Int32 × Int32 × (Nat → Int32)) (hf : X12_feed F o_taped o_tape v1 v2 v3 v4 v5 = some u) :
    CtI l yX12_feed cX12_feed 6 (some .int) 1 E [.ref a_o, .int v1, .int v2, .int v3, .int v4, .int v5] (wd_X12_feed E a_o a_o_at a_o_names a_o_sort a_o_trayMany a_o_trays a_o_tape a_o_text a_o_opened a_o_farBy a_o_attendsBy a_o_coveredBy a_o_cameBy a_o_cameThen a_o_fallsBy a_o_loops a_o_ran a_o_told1 o_status o_top o_bottom o_taped o_size o_token o_from o_end o_value o_faultKind o_faultPlace o_faults o_seen o_toldParts o_depth o_counted o_becameThen o_firstCorner o_drawn o_ranSteps o_isTold o_marks o_tape) (wd_X12_feed E a_o a_o_at a_o_names a_o_sort a_o_trayMany a_o_trays a_o_tape a_o_text a_o_opened a_o_farBy a_o_attendsBy a_o_coveredBy a_o_cameBy a_o_cameThen a_o_fallsBy a_o_loops a_o_ran a_o_told1 o_status o_top o_bottom u.2.1 o_size o_token o_from o_end o_value o_faultKind o_faultPlace o_faults o_seen o_toldParts o_depth o_counted o_becameThen o_firstCorner o_drawn o_ranSteps o_isTold o_marks u.2.2) u.1 := by
  refine ctI (by decide) (Nat.le_of_ble_eq_true rfl) ?_
  intro p e s m below meth cd A ls aa QQ hq cx hP hD hS hl
  obtain ⟨⟨hx, hb, hml, hown, hts⟩, hr, hlocks, hK, hA, hX⟩ := id cx
  have hl : lv_has ls 6 [(0, .ref a_o), (1, .int v1), (2, .int v2), (3, .int v3), (4, .int v4), (5, .int v5)] := hl
  unfold X12_feed at hf
  refine lv_aload_n hx hb dX12_feed_0 rfl (lv_at hl 0 rfl) ?_
  refine va_get (D := E.1) (ci := 12) (v := .int o_taped) (C := RX12) (T := TX12) (N := 39) hx hb hts inX12 hown hK hP 0 rfl rfl 10 (by decide) (hts _ fl_X12_109) (fun _ h9 => h9) rfl dX12_feed_1 ?_
  refine lv_bipush (v := 20) hx hb dX12_feed_4 (by decide) ?_
  refine lv_iadd hx hb dX12_feed_6 ?_
  refine lv_sipush (v := 900) hx hb dX12_feed_7 (by decide) ?_
  refine lv_icmp_le (tgt := 15) hx hb dX12_feed_10 (by decide) (fun hc => ?_) (fun hc => ?_)
  · have hf := it_t hc hf
    refine lv_aload_n hx hb dX12_feed_15 rfl (lv_at hl 0 rfl) ?_
    refine lv_iload_n hx hb dX12_feed_16 rfl (lv_at hl 1 rfl) ?_
    obtain ⟨u17, hu17, hf⟩ := bd hf
    refine callVV (wn := (wd_X12_feed E a_o a_o_at a_o_names a_o_sort a_o_trayMany a_o_trays a_o_tape a_o_text a_o_opened a_o_farBy a_o_attendsBy a_o_coveredBy a_o_cameBy a_o_cameThen a_o_fallsBy a_o_loops a_o_ran a_o_told1 o_status o_top o_bottom u17.1 o_size o_token o_from o_end o_value o_faultKind o_faultPlace o_faults o_seen o_toldParts o_depth o_counted o_becameThen o_firstCorner o_drawn o_ranSteps o_isTold o_marks u17.2)) (n1 := 2) (ct_X12_four l E F a_o a_o_at a_o_names a_o_sort a_o_trayMany a_o_trays a_o_tape a_o_text a_o_opened a_o_farBy a_o_attendsBy a_o_coveredBy a_o_cameBy a_o_cameThen a_o_fallsBy a_o_loops a_o_ran a_o_told1 o_status o_top o_bottom o_taped o_size o_token o_from o_end o_value o_faultKind o_faultPlace o_faults o_seen o_toldParts o_depth o_counted o_becameThen o_firstCorner o_drawn o_ranSteps o_isTold o_marks o_tape v1 u17 hu17) [0, 1] cal_X12_four cav_X12_four lk_X12_112 cx hP hD hS hl dX12_feed_17 rfl rfl rfl rfl (Nat.le_of_ble_eq_true rfl) ⟨Nat.le_of_ble_eq_true rfl, Nat.le_of_ble_eq_true rfl⟩ rfl (by decide +kernel) rfl [some 0, some 1] rfl (by decide +kernel) rfl (fun H locs hP hD hS => ?_)
    refine lv_aload_n hx hb dX12_feed_20 rfl (lv_at hl 0 rfl) ?_
    refine lv_iload_n hx hb dX12_feed_21 rfl (lv_at hl 2 rfl) ?_
    obtain ⟨u22, hu22, hf⟩ := bd hf
    refine callVV (wn := (wd_X12_feed E a_o a_o_at a_o_names a_o_sort a_o_trayMany a_o_trays a_o_tape a_o_text a_o_opened a_o_farBy a_o_attendsBy a_o_coveredBy a_o_cameBy a_o_cameThen a_o_fallsBy a_o_loops a_o_ran a_o_told1 o_status o_top o_bottom u22.1 o_size o_token o_from o_end o_value o_faultKind o_faultPlace o_faults o_seen o_toldParts o_depth o_counted o_becameThen o_firstCorner o_drawn o_ranSteps o_isTold o_marks u22.2)) (n1 := 2) (ct_X12_four l E F a_o a_o_at a_o_names a_o_sort a_o_trayMany a_o_trays a_o_tape a_o_text a_o_opened a_o_farBy a_o_attendsBy a_o_coveredBy a_o_cameBy a_o_cameThen a_o_fallsBy a_o_loops a_o_ran a_o_told1 o_status o_top o_bottom u17.1 o_size o_token o_from o_end o_value o_faultKind o_faultPlace o_faults o_seen o_toldParts o_depth o_counted o_becameThen o_firstCorner o_drawn o_ranSteps o_isTold o_marks u17.2 v2 u22 hu22) [0, 1] cal_X12_four cav_X12_four lk_X12_112 cx hP hD hS hl dX12_feed_22 rfl rfl rfl rfl (Nat.le_of_ble_eq_true rfl) ⟨Nat.le_of_ble_eq_true rfl, Nat.le_of_ble_eq_true rfl⟩ rfl (by decide +kernel) rfl [some 0, some 1] rfl (by decide +kernel) rfl (fun H locs hP hD hS => ?_)
    refine lv_aload_n hx hb dX12_feed_25 rfl (lv_at hl 0 rfl) ?_
    refine lv_iload_n hx hb dX12_feed_26 rfl (lv_at hl 3 rfl) ?_
    obtain ⟨u27, hu27, hf⟩ := bd hf
    refine callVV (wn := (wd_X12_feed E a_o a_o_at a_o_names a_o_sort a_o_trayMany a_o_trays a_o_tape a_o_text a_o_opened a_o_farBy a_o_attendsBy a_o_coveredBy a_o_cameBy a_o_cameThen a_o_fallsBy a_o_loops a_o_ran a_o_told1 o_status o_top o_bottom u27.1 o_size o_token o_from o_end o_value o_faultKind o_faultPlace o_faults o_seen o_toldParts o_depth o_counted o_becameThen o_firstCorner o_drawn o_ranSteps o_isTold o_marks u27.2)) (n1 := 2) (ct_X12_four l E F a_o a_o_at a_o_names a_o_sort a_o_trayMany a_o_trays a_o_tape a_o_text a_o_opened a_o_farBy a_o_attendsBy a_o_coveredBy a_o_cameBy a_o_cameThen a_o_fallsBy a_o_loops a_o_ran a_o_told1 o_status o_top o_bottom u22.1 o_size o_token o_from o_end o_value o_faultKind o_faultPlace o_faults o_seen o_toldParts o_depth o_counted o_becameThen o_firstCorner o_drawn o_ranSteps o_isTold o_marks u22.2 v3 u27 hu27) [0, 1] cal_X12_four cav_X12_four lk_X12_112 cx hP hD hS hl dX12_feed_27 rfl rfl rfl rfl (Nat.le_of_ble_eq_true rfl) ⟨Nat.le_of_ble_eq_true rfl, Nat.le_of_ble_eq_true rfl⟩ rfl (by decide +kernel) rfl [some 0, some 1] rfl (by decide +kernel) rfl (fun H locs hP hD hS => ?_)
    refine lv_aload_n hx hb dX12_feed_30 rfl (lv_at hl 0 rfl) ?_
    refine lv_iload hx hb dX12_feed_31 (lv_at hl 4 rfl) ?_
    obtain ⟨u33, hu33, hf⟩ := bd hf
    refine callVV (wn := (wd_X12_feed E a_o a_o_at a_o_names a_o_sort a_o_trayMany a_o_trays a_o_tape a_o_text a_o_opened a_o_farBy a_o_attendsBy a_o_coveredBy a_o_cameBy a_o_cameThen a_o_fallsBy a_o_loops a_o_ran a_o_told1 o_status o_top o_bottom u33.1 o_size o_token o_from o_end o_value o_faultKind o_faultPlace o_faults o_seen o_toldParts o_depth o_counted o_becameThen o_firstCorner o_drawn o_ranSteps o_isTold o_marks u33.2)) (n1 := 2) (ct_X12_four l E F a_o a_o_at a_o_names a_o_sort a_o_trayMany a_o_trays a_o_tape a_o_text a_o_opened a_o_farBy a_o_attendsBy a_o_coveredBy a_o_cameBy a_o_cameThen a_o_fallsBy a_o_loops a_o_ran a_o_told1 o_status o_top o_bottom u27.1 o_size o_token o_from o_end o_value o_faultKind o_faultPlace o_faults o_seen o_toldParts o_depth o_counted o_becameThen o_firstCorner o_drawn o_ranSteps o_isTold o_marks u27.2 v4 u33 hu33) [0, 1] cal_X12_four cav_X12_four lk_X12_112 cx hP hD hS hl dX12_feed_33 rfl rfl rfl rfl (Nat.le_of_ble_eq_true rfl) ⟨Nat.le_of_ble_eq_true rfl, Nat.le_of_ble_eq_true rfl⟩ rfl (by decide +kernel) rfl [some 0, some 1] rfl (by decide +kernel) rfl (fun H locs hP hD hS => ?_)
    refine lv_aload_n hx hb dX12_feed_36 rfl (lv_at hl 0 rfl) ?_
    refine lv_iload hx hb dX12_feed_37 (lv_at hl 5 rfl) ?_
    obtain ⟨u39, hu39, hf⟩ := bd hf
    refine callVV (wn := (wd_X12_feed E a_o a_o_at a_o_names a_o_sort a_o_trayMany a_o_trays a_o_tape a_o_text a_o_opened a_o_farBy a_o_attendsBy a_o_coveredBy a_o_cameBy a_o_cameThen a_o_fallsBy a_o_loops a_o_ran a_o_told1 o_status o_top o_bottom u39.1 o_size o_token o_from o_end o_value o_faultKind o_faultPlace o_faults o_seen o_toldParts o_depth o_counted o_becameThen o_firstCorner o_drawn o_ranSteps o_isTold o_marks u39.2)) (n1 := 2) (ct_X12_four l E F a_o a_o_at a_o_names a_o_sort a_o_trayMany a_o_trays a_o_tape a_o_text a_o_opened a_o_farBy a_o_attendsBy a_o_coveredBy a_o_cameBy a_o_cameThen a_o_fallsBy a_o_loops a_o_ran a_o_told1 o_status o_top o_bottom u33.1 o_size o_token o_from o_end o_value o_faultKind o_faultPlace o_faults o_seen o_toldParts o_depth o_counted o_becameThen o_firstCorner o_drawn o_ranSteps o_isTold o_marks u33.2 v5 u39 hu39) [0, 1] cal_X12_four cav_X12_four lk_X12_112 cx hP hD hS hl dX12_feed_39 rfl rfl rfl rfl (Nat.le_of_ble_eq_true rfl) ⟨Nat.le_of_ble_eq_true rfl, Nat.le_of_ble_eq_true rfl⟩ rfl (by decide +kernel) rfl [some 0, some 1] rfl (by decide +kernel) rfl (fun H locs hP hD hS => ?_)
    refine lv_aload_n hx hb dX12_feed_42 rfl (lv_at hl 0 rfl) ?_
    refine va_get (D := E.1) (ci := 12) (v := .int u39.1) (C := RX12) (T := TX12) (N := 39) hx hb hts inX12 hown hK hP 0 rfl rfl 10 (by decide) (hts _ fl_X12_109) (fun _ h9 => h9) rfl dX12_feed_43 ?_
    obtain rfl := Option.some.inj hf
    subst hq
    exact retI cx hP hD hS dX12_feed_46
  · have hf := it_f hc hf
    refine lv_iconst (v := (-1)) hx hb dX12_feed_13 (by decide) ?_
    obtain rfl := Option.some.inj hf
    subst hq
    exact retI cx hP hD hS dX12_feed_14
def X12_byteAt (o_size : Int32) (o_text : Nat → Int32) (v1 : Int32) : Option (Int32) :=
  if o_size ≤ v1 then
  some (-1)
  else
  if ix v1 900 then
  some ((jat o_text v1) &&& 255)
  else none
abbrev wd_X12_byteAt (E : vE) (a_o a_o_at a_o_names a_o_sort a_o_trayMany a_o_trays a_o_tape a_o_text a_o_opened a_o_farBy a_o_attendsBy a_o_coveredBy a_o_cameBy a_o_cameThen a_o_fallsBy a_o_loops a_o_ran a_o_told1 : Nat) (o_status : Int32) (o_top : Int64) (o_bottom : Int64) (o_taped : Int32) (o_size : Int32) (o_token : Int32) (o_from : Int32) (o_end : Int32) (o_value : Int32) (o_faultKind : Int32) (o_faultPlace : Int32) (o_faults : Int32) (o_seen : Int32) (o_toldParts : Int32) (o_depth : Int32) (o_counted : Int32) (o_becameThen : Int32) (o_firstCorner : Int32) (o_drawn : Int32) (o_ranSteps : Int32) (o_isTold : Int32) (o_marks : Int32) (o_text : Nat → Int32) : va_W := [(a_o, .inr (12, [.ref a_o_at, .ref a_o_names, .int o_status, .long o_top, .long o_bottom, .ref a_o_sort, .ref a_o_trayMany, .ref a_o_trays, .ref a_o_tape, .ref a_o_text, .int o_taped, .int o_size, .int o_token, .int o_from, .int o_end, .int o_value, .int o_faultKind, .int o_faultPlace, .int o_faults, .int o_seen, .int o_toldParts, .ref a_o_opened, .int o_depth, .int o_counted, .ref a_o_farBy, .int o_becameThen, .ref a_o_attendsBy, .ref a_o_coveredBy, .ref a_o_cameBy, .ref a_o_cameThen, .int o_firstCorner, .ref a_o_fallsBy, .int o_drawn, .int o_ranSteps, .ref a_o_loops, .ref a_o_ran, .ref a_o_told1, .int o_isTold, .int o_marks])), (a_o_text, .inl (E.2.2.2.1, 900, .inl o_text))]
set_option maxHeartbeats 4000000 in
set_option maxRecDepth 100000 in
theorem ct_X12_byteAt (l : Launch) (E : vE) (a_o a_o_at a_o_names a_o_sort a_o_trayMany a_o_trays a_o_tape a_o_text a_o_opened a_o_farBy a_o_attendsBy a_o_coveredBy a_o_cameBy a_o_cameThen a_o_fallsBy a_o_loops a_o_ran a_o_told1 : Nat) (o_status : Int32) (o_top : Int64) (o_bottom : Int64) (o_taped : Int32) (o_size : Int32) (o_token : Int32) (o_from : Int32) (o_end : Int32) (o_value : Int32) (o_faultKind : Int32) (o_faultPlace : Int32) (o_faults : Int32) (o_seen : Int32) (o_toldParts : Int32) (o_depth : Int32) (o_counted : Int32) (o_becameThen : Int32) (o_firstCorner : Int32) (o_drawn : Int32) (o_ranSteps : Int32) (o_isTold : Int32) (o_marks : Int32) (o_text : Nat → Int32) (v1 : Int32) (u : Int32) (hf : X12_byteAt o_size o_text v1 = some u) :
    CtI l yX12_byteAt cX12_byteAt 2 (some .int) 0 E [.ref a_o, .int v1] (wd_X12_byteAt E a_o a_o_at a_o_names a_o_sort a_o_trayMany a_o_trays a_o_tape a_o_text a_o_opened a_o_farBy a_o_attendsBy a_o_coveredBy a_o_cameBy a_o_cameThen a_o_fallsBy a_o_loops a_o_ran a_o_told1 o_status o_top o_bottom o_taped o_size o_token o_from o_end o_value o_faultKind o_faultPlace o_faults o_seen o_toldParts o_depth o_counted o_becameThen o_firstCorner o_drawn o_ranSteps o_isTold o_marks o_text) (wd_X12_byteAt E a_o a_o_at a_o_names a_o_sort a_o_trayMany a_o_trays a_o_tape a_o_text a_o_opened a_o_farBy a_o_attendsBy a_o_coveredBy a_o_cameBy a_o_cameThen a_o_fallsBy a_o_loops a_o_ran a_o_told1 o_status o_top o_bottom o_taped o_size o_token o_from o_end o_value o_faultKind o_faultPlace o_faults o_seen o_toldParts o_depth o_counted o_becameThen o_firstCorner o_drawn o_ranSteps o_isTold o_marks o_text) u := by
  refine ctI (by decide) (Nat.le_of_ble_eq_true rfl) ?_
  intro p e s m below meth cd A ls aa QQ hq cx hP hD hS hl
  obtain ⟨⟨hx, hb, hml, hown, hts⟩, hr, hlocks, hK, hA, hX⟩ := id cx
  have hl : lv_has ls 2 [(0, .ref a_o), (1, .int v1)] := hl
  unfold X12_byteAt at hf
  refine lv_iload_n hx hb dX12_byteAt_0 rfl (lv_at hl 1 rfl) ?_
  refine lv_aload_n hx hb dX12_byteAt_1 rfl (lv_at hl 0 rfl) ?_
  refine va_get (D := E.1) (ci := 12) (v := .int o_size) (C := RX12) (T := TX12) (N := 39) hx hb hts inX12 hown hK hP 0 rfl rfl 11 (by decide) (hts _ fl_X12_115) (fun _ h9 => h9) rfl dX12_byteAt_2 ?_
  refine lv_icmp_ge (tgt := 21) hx hb dX12_byteAt_5 (by decide) (fun hc => ?_) (fun hc => ?_)
  · have hf := it_t hc hf
    refine lv_iconst (v := (-1)) hx hb dX12_byteAt_21 (by decide) ?_
    obtain rfl := Option.some.inj hf
    subst hq
    exact retI cx hP hD hS dX12_byteAt_22
  · have hf := it_f hc hf
    refine lv_aload_n hx hb dX12_byteAt_8 rfl (lv_at hl 0 rfl) ?_
    refine va_get (D := E.1) (ci := 12) (v := .ref a_o_text) (C := RX12) (T := TX12) (N := 39) hx hb hts inX12 hown hK hP 0 rfl rfl 9 (by decide) (hts _ fl_X12_34) (fun _ h9 => h9) rfl dX12_byteAt_9 ?_
    refine lv_iload_n hx hb dX12_byteAt_12 rfl (lv_at hl 1 rfl) ?_
    obtain ⟨hi, hf⟩ := ck hf
    refine r_bald 1 cx hP rfl hi dX12_byteAt_13 ?_
    refine lv_sipush (v := 255) hx hb dX12_byteAt_14 (by decide) ?_
    refine lv_iand hx hb dX12_byteAt_17 ?_
    refine lv_goto (tgt := 22) hx hb dX12_byteAt_18 (by decide) ?_
    obtain rfl := Option.some.inj hf
    subst hq
    exact retI cx hP hD hS dX12_byteAt_22
def X12_isSmall_j16  : Option (Int32) :=
  some 0
def X12_isSmall (v0 : Int32) : Option (Int32) :=
  if v0 < 97 then
  X12_isSmall_j16
  else
  if (122 : Int32) < v0 then
  X12_isSmall_j16
  else
  some 1
abbrev wd_X12_isSmall (E : vE) : va_W := []
set_option maxHeartbeats 4000000 in
set_option maxRecDepth 100000 in
theorem ct_X12_isSmall (l : Launch) (E : vE) (v0 : Int32) (u : Int32) (hf : X12_isSmall v0 = some u) :
    CtI l yX12_isSmall cX12_isSmall 1 (some .boolean) 0 E [.int v0] (wd_X12_isSmall E) (wd_X12_isSmall E) u := by
  refine ctI (by decide) (Nat.le_of_ble_eq_true rfl) ?_
  intro p e s m below meth cd A ls aa QQ hq cx hP hD hS hl
  obtain ⟨⟨hx, hb, hml, hown, hts⟩, hr, hlocks, hK, hA, hX⟩ := id cx
  have hl : lv_has ls 1 [(0, .int v0)] := hl
  have hj16 : ∀ (H : Heap) (locs : List Loc) (ls : Array Slot), X12_isSmall_j16 = some u → va_P E.1 vwCl (wd_X12_isSmall E) H → va_D A (wd_X12_isSmall E) → va_S A s.heap H locs → lv_has ls 1 [] → W p l e (rmd 0) s m aa below meth cd H locs 0 0 QQ (F0 m 16 ls []) := by
    intro H locs ls hf hP hD hS hl
    unfold X12_isSmall_j16 at hf
    refine lv_iconst (v := 0) hx hb dX12_isSmall_16 (by decide) ?_
    obtain rfl := Option.some.inj hf
    subst hq
    exact retZ cx rfl hP hD hS dX12_isSmall_17
  unfold X12_isSmall at hf
  refine lv_iload_n hx hb dX12_isSmall_0 rfl (lv_at hl 0 rfl) ?_
  refine lv_bipush (v := 97) hx hb dX12_isSmall_1 (by decide) ?_
  refine lv_icmp_lt (tgt := 16) hx hb dX12_isSmall_3 (by decide) (fun hc => ?_) (fun hc => ?_)
  · have hf := it_t hc hf
    exact hj16  _ _ _ hf hP hD hS (lv_sub hl [] rfl)
  · have hf := it_f hc hf
    refine lv_iload_n hx hb dX12_isSmall_6 rfl (lv_at hl 0 rfl) ?_
    refine lv_bipush (v := 122) hx hb dX12_isSmall_7 (by decide) ?_
    refine lv_icmp_gt (tgt := 16) hx hb dX12_isSmall_9 (by decide) (fun hc => ?_) (fun hc => ?_)
    · have hf := it_t hc hf
      exact hj16  _ _ _ hf hP hD hS (lv_sub hl [] rfl)
    · have hf := it_f hc hf
      refine lv_iconst (v := 1) hx hb dX12_isSmall_12 (by decide) ?_
      refine lv_goto (tgt := 17) hx hb dX12_isSmall_13 (by decide) ?_
      obtain rfl := Option.some.inj hf
      subst hq
      exact retZ cx rfl hP hD hS dX12_isSmall_17
def X12_isDigit_j16  : Option (Int32) :=
  some 0
def X12_isDigit (v0 : Int32) : Option (Int32) :=
  if v0 < 48 then
  X12_isDigit_j16
  else
  if (57 : Int32) < v0 then
  X12_isDigit_j16
  else
  some 1
abbrev wd_X12_isDigit (E : vE) : va_W := []
set_option maxHeartbeats 4000000 in
set_option maxRecDepth 100000 in
theorem ct_X12_isDigit (l : Launch) (E : vE) (v0 : Int32) (u : Int32) (hf : X12_isDigit v0 = some u) :
    CtI l yX12_isDigit cX12_isDigit 1 (some .boolean) 0 E [.int v0] (wd_X12_isDigit E) (wd_X12_isDigit E) u := by
  refine ctI (by decide) (Nat.le_of_ble_eq_true rfl) ?_
  intro p e s m below meth cd A ls aa QQ hq cx hP hD hS hl
  obtain ⟨⟨hx, hb, hml, hown, hts⟩, hr, hlocks, hK, hA, hX⟩ := id cx
  have hl : lv_has ls 1 [(0, .int v0)] := hl
  have hj16 : ∀ (H : Heap) (locs : List Loc) (ls : Array Slot), X12_isDigit_j16 = some u → va_P E.1 vwCl (wd_X12_isDigit E) H → va_D A (wd_X12_isDigit E) → va_S A s.heap H locs → lv_has ls 1 [] → W p l e (rmd 0) s m aa below meth cd H locs 0 0 QQ (F0 m 16 ls []) := by
    intro H locs ls hf hP hD hS hl
    unfold X12_isDigit_j16 at hf
    refine lv_iconst (v := 0) hx hb dX12_isDigit_16 (by decide) ?_
    obtain rfl := Option.some.inj hf
    subst hq
    exact retZ cx rfl hP hD hS dX12_isDigit_17
  unfold X12_isDigit at hf
  refine lv_iload_n hx hb dX12_isDigit_0 rfl (lv_at hl 0 rfl) ?_
  refine lv_bipush (v := 48) hx hb dX12_isDigit_1 (by decide) ?_
  refine lv_icmp_lt (tgt := 16) hx hb dX12_isDigit_3 (by decide) (fun hc => ?_) (fun hc => ?_)
  · have hf := it_t hc hf
    exact hj16  _ _ _ hf hP hD hS (lv_sub hl [] rfl)
  · have hf := it_f hc hf
    refine lv_iload_n hx hb dX12_isDigit_6 rfl (lv_at hl 0 rfl) ?_
    refine lv_bipush (v := 57) hx hb dX12_isDigit_7 (by decide) ?_
    refine lv_icmp_gt (tgt := 16) hx hb dX12_isDigit_9 (by decide) (fun hc => ?_) (fun hc => ?_)
    · have hf := it_t hc hf
      exact hj16  _ _ _ hf hP hD hS (lv_sub hl [] rfl)
    · have hf := it_f hc hf
      refine lv_iconst (v := 1) hx hb dX12_isDigit_12 (by decide) ?_
      refine lv_goto (tgt := 17) hx hb dX12_isDigit_13 (by decide) ?_
      obtain rfl := Option.some.inj hf
      subst hq
      exact retZ cx rfl hP hD hS dX12_isDigit_17
def X12_ahead_j248 (F : Nat) (o_size : Int32) (o_token : Int32) (o_from : Int32) (o_end : Int32) (o_value : Int32) (o_text : Nat → Int32) (k0 : Int32) : Option (Int32 × Int32 × Int32 × Int32) :=
  some (k0, o_from, o_end, o_value)
def X12_ahead_j243 (F : Nat) (o_size : Int32) (o_token : Int32) (o_from : Int32) (o_end : Int32) (o_value : Int32) (o_text : Nat → Int32) : Option (Int32 × Int32 × Int32 × Int32) :=
  X12_ahead_j248 F o_size o_token o_from o_end o_value o_text 4
def X12_ahead_j202 (F : Nat) (o_size : Int32) (o_token : Int32) (o_from : Int32) (o_end : Int32) (o_value : Int32) (o_text : Nat → Int32) (k0 : Int32) : Option (Int32 × Int32 × Int32 × Int32) :=
  some (k0, o_from, o_end, o_value)
def X12_ahead_j26 (F : Nat) (o_size : Int32) (o_token : Int32) (o_from : Int32) (o_end : Int32) (o_value : Int32) (o_text : Nat → Int32) : Option ((Int32) ⊕ ((Int32))) :=
  some (.inl (o_end + 1))
def X12_ahead_b0 (F : Nat) (o_size : Int32) (o_token : Int32) (o_from : Int32) (o_value : Int32) (o_text : Nat → Int32) (st0 : Int32) : Option ((Int32) ⊕ ((Int32))) :=
  (X12_byteAt o_size o_text st0).bind fun u5 =>
  if u5 = 32 then
  X12_ahead_j26 F o_size o_token o_from st0 o_value o_text
  else
  (X12_byteAt o_size o_text st0).bind fun u18 =>
  if u18 = 10 then
  X12_ahead_j26 F o_size o_token o_from st0 o_value o_text
  else
  some (.inr st0)
def X12_ahead_b128 (F : Nat) (o_size : Int32) (o_token : Int32) (o_from : Int32) (o_text : Nat → Int32) (st128 : Int32 × Int32) : Option ((Int32 × Int32) ⊕ ((Int32 × Int32))) :=
  (X12_byteAt o_size o_text st128.1).bind fun u133 =>
  (X12_isDigit u133).bind fun u136 =>
  if u136 = 0 then
  some (.inr (st128.1, st128.2))
  else
  (X12_byteAt o_size o_text st128.1).bind fun u157 =>
  some (.inl ((st128.1 + 1), (jmin (100000 : Int32) (((10 * st128.2) + u157) - 48))))
def X12_ahead_b81 (F : Nat) (o_size : Int32) (o_token : Int32) (o_from : Int32) (o_value : Int32) (o_text : Nat → Int32) (st81 : Int32) : Option ((Int32) ⊕ ((Int32))) :=
  (X12_byteAt o_size o_text st81).bind fun u86 =>
  (X12_isSmall u86).bind fun u89 =>
  if u89 = 0 then
  some (.inr st81)
  else
  some (.inl (st81 + 1))
def X12_ahead (F : Nat) (o_size : Int32) (o_token : Int32) (o_from : Int32) (o_end : Int32) (o_value : Int32) (o_text : Nat → Int32) : Option (Int32 × Int32 × Int32 × Int32) :=
  (iter (X12_ahead_b0 F o_size o_token o_from o_value o_text) F o_end).bind (fun (e0 : Int32) =>
    (X12_byteAt o_size o_text e0).bind fun u52 =>
  if u52 = (-1) then
  some (0, e0, e0, u52)
  else
  (X12_isSmall u52).bind fun u75 =>
  if u75 = 0 then
  (X12_isDigit u52).bind fun u117 =>
  if u117 = 0 then
  if u52 = 59 then
  X12_ahead_j243 F o_size o_token e0 (e0 + 1) u52 o_text
  else
  if u52 = 60 then
  X12_ahead_j243 F o_size o_token e0 (e0 + 1) u52 o_text
  else
  if u52 = 62 then
  X12_ahead_j243 F o_size o_token e0 (e0 + 1) u52 o_text
  else
  if u52 = 61 then
  X12_ahead_j243 F o_size o_token e0 (e0 + 1) u52 o_text
  else
  X12_ahead_j248 F o_size o_token e0 (e0 + 1) u52 o_text 1
  else
  (iter (X12_ahead_b128 F o_size o_token e0 o_text) F (e0, 0)).bind (fun (e128 : Int32 × Int32) =>
    if (e128.1 - e0) ≤ 4 then
  X12_ahead_j202 F o_size o_token e0 e128.1 e128.2 o_text 3
  else
  X12_ahead_j202 F o_size o_token e0 e128.1 e128.2 o_text 1)
  else
  (iter (X12_ahead_b81 F o_size o_token e0 u52 o_text) F e0).bind (fun (e81 : Int32) =>
    some (2, e0, e81, u52)))
abbrev wd_X12_ahead (E : vE) (a_o a_o_at a_o_names a_o_sort a_o_trayMany a_o_trays a_o_tape a_o_text a_o_opened a_o_farBy a_o_attendsBy a_o_coveredBy a_o_cameBy a_o_cameThen a_o_fallsBy a_o_loops a_o_ran a_o_told1 : Nat) (o_status : Int32) (o_top : Int64) (o_bottom : Int64) (o_taped : Int32) (o_size : Int32) (o_token : Int32) (o_from : Int32) (o_end : Int32) (o_value : Int32) (o_faultKind : Int32) (o_faultPlace : Int32) (o_faults : Int32) (o_seen : Int32) (o_toldParts : Int32) (o_depth : Int32) (o_counted : Int32) (o_becameThen : Int32) (o_firstCorner : Int32) (o_drawn : Int32) (o_ranSteps : Int32) (o_isTold : Int32) (o_marks : Int32) (o_text : Nat → Int32) : va_W := [(a_o, .inr (12, [.ref a_o_at, .ref a_o_names, .int o_status, .long o_top, .long o_bottom, .ref a_o_sort, .ref a_o_trayMany, .ref a_o_trays, .ref a_o_tape, .ref a_o_text, .int o_taped, .int o_size, .int o_token, .int o_from, .int o_end, .int o_value, .int o_faultKind, .int o_faultPlace, .int o_faults, .int o_seen, .int o_toldParts, .ref a_o_opened, .int o_depth, .int o_counted, .ref a_o_farBy, .int o_becameThen, .ref a_o_attendsBy, .ref a_o_coveredBy, .ref a_o_cameBy, .ref a_o_cameThen, .int o_firstCorner, .ref a_o_fallsBy, .int o_drawn, .int o_ranSteps, .ref a_o_loops, .ref a_o_ran, .ref a_o_told1, .int o_isTold, .int o_marks])), (a_o_text, .inl (E.2.2.2.1, 900, .inl o_text))]
set_option maxHeartbeats 4000000 in
set_option maxRecDepth 100000 in
theorem ct_X12_ahead (l : Launch) (E : vE) (F : Nat) (a_o a_o_at a_o_names a_o_sort a_o_trayMany a_o_trays a_o_tape a_o_text a_o_opened a_o_farBy a_o_attendsBy a_o_coveredBy a_o_cameBy a_o_cameThen a_o_fallsBy a_o_loops a_o_ran a_o_told1 : Nat) (o_status : Int32) (o_top : Int64) (o_bottom : Int64) (o_taped : Int32) (o_size : Int32) (o_token : Int32) (o_from : Int32) (o_end : Int32) (o_value : Int32) (o_faultKind : Int32) (o_faultPlace : Int32) (o_faults : Int32) (o_seen : Int32) (o_toldParts : Int32) (o_depth : Int32) (o_counted : Int32) (o_becameThen : Int32) (o_firstCorner : Int32) (o_drawn : Int32) (o_ranSteps : Int32) (o_isTold : Int32) (o_marks : Int32) (o_text : Nat → Int32) (u : Int32 × Int32 × Int32 × Int32) (hf : X12_ahead F o_size o_token o_from o_end o_value o_text = some u) :
    CtV l yX12_ahead cX12_ahead 2 none 1 E [.ref a_o] (wd_X12_ahead E a_o a_o_at a_o_names a_o_sort a_o_trayMany a_o_trays a_o_tape a_o_text a_o_opened a_o_farBy a_o_attendsBy a_o_coveredBy a_o_cameBy a_o_cameThen a_o_fallsBy a_o_loops a_o_ran a_o_told1 o_status o_top o_bottom o_taped o_size o_token o_from o_end o_value o_faultKind o_faultPlace o_faults o_seen o_toldParts o_depth o_counted o_becameThen o_firstCorner o_drawn o_ranSteps o_isTold o_marks o_text) (wd_X12_ahead E a_o a_o_at a_o_names a_o_sort a_o_trayMany a_o_trays a_o_tape a_o_text a_o_opened a_o_farBy a_o_attendsBy a_o_coveredBy a_o_cameBy a_o_cameThen a_o_fallsBy a_o_loops a_o_ran a_o_told1 o_status o_top o_bottom o_taped o_size u.1 u.2.1 u.2.2.1 u.2.2.2 o_faultKind o_faultPlace o_faults o_seen o_toldParts o_depth o_counted o_becameThen o_firstCorner o_drawn o_ranSteps o_isTold o_marks o_text) := by
  refine ctV (by decide) (Nat.le_of_ble_eq_true rfl) ?_
  intro p e s m below meth cd A ls aa QQ hq cx hP hD hS hl
  obtain ⟨⟨hx, hb, hml, hown, hts⟩, hr, hlocks, hK, hA, hX⟩ := id cx
  have hl : lv_has ls 2 [(0, .ref a_o)] := hl
  have hj248 : ∀ (o_token_j248 : Int32) (o_from_j248 : Int32) (o_end_j248 : Int32) (o_value_j248 : Int32) (k0_j248 : Int32) (H : Heap) (locs : List Loc) (ls : Array Slot), X12_ahead_j248 F o_size o_token_j248 o_from_j248 o_end_j248 o_value_j248 o_text k0_j248 = some u → va_P E.1 vwCl (wd_X12_ahead E a_o a_o_at a_o_names a_o_sort a_o_trayMany a_o_trays a_o_tape a_o_text a_o_opened a_o_farBy a_o_attendsBy a_o_coveredBy a_o_cameBy a_o_cameThen a_o_fallsBy a_o_loops a_o_ran a_o_told1 o_status o_top o_bottom o_taped o_size o_token_j248 o_from_j248 o_end_j248 o_value_j248 o_faultKind o_faultPlace o_faults o_seen o_toldParts o_depth o_counted o_becameThen o_firstCorner o_drawn o_ranSteps o_isTold o_marks o_text) H → va_D A (wd_X12_ahead E a_o a_o_at a_o_names a_o_sort a_o_trayMany a_o_trays a_o_tape a_o_text a_o_opened a_o_farBy a_o_attendsBy a_o_coveredBy a_o_cameBy a_o_cameThen a_o_fallsBy a_o_loops a_o_ran a_o_told1 o_status o_top o_bottom o_taped o_size o_token_j248 o_from_j248 o_end_j248 o_value_j248 o_faultKind o_faultPlace o_faults o_seen o_toldParts o_depth o_counted o_becameThen o_firstCorner o_drawn o_ranSteps o_isTold o_marks o_text) → va_S A s.heap H locs → lv_has ls 2 [] → W p l e (rmd 1) s m aa below meth cd H locs 0 0 QQ (F0 m 248 ls [.int k0_j248, .ref a_o]) := by
    intro o_token_j248 o_from_j248 o_end_j248 o_value_j248 k0_j248 H locs ls hf hP hD hS hl
    unfold X12_ahead_j248 at hf
    refine va_put (D := E.1) (ci := 12) (v := .int k0_j248) (ty := .int) (C := RX12) (T := TX12) (N := 39) hx hb hts inX12 tyX12 tyX12_ok nmX12 hown hK hP hD hS 0 rfl rfl 12 (by decide) (hts _ fl_X12_130) (fun _ h9 => h9) rfl (by decide +kernel) rfl rfl (Nat.le_of_ble_eq_true rfl) dX12_ahead_248 (fun H locs hP hD hS => ?_)
    have hP : va_P E.1 vwCl (wd_X12_ahead E a_o a_o_at a_o_names a_o_sort a_o_trayMany a_o_trays a_o_tape a_o_text a_o_opened a_o_farBy a_o_attendsBy a_o_coveredBy a_o_cameBy a_o_cameThen a_o_fallsBy a_o_loops a_o_ran a_o_told1 o_status o_top o_bottom o_taped o_size k0_j248 o_from_j248 o_end_j248 o_value_j248 o_faultKind o_faultPlace o_faults o_seen o_toldParts o_depth o_counted o_becameThen o_firstCorner o_drawn o_ranSteps o_isTold o_marks o_text) H := hP
    have hD : va_D A (wd_X12_ahead E a_o a_o_at a_o_names a_o_sort a_o_trayMany a_o_trays a_o_tape a_o_text a_o_opened a_o_farBy a_o_attendsBy a_o_coveredBy a_o_cameBy a_o_cameThen a_o_fallsBy a_o_loops a_o_ran a_o_told1 o_status o_top o_bottom o_taped o_size k0_j248 o_from_j248 o_end_j248 o_value_j248 o_faultKind o_faultPlace o_faults o_seen o_toldParts o_depth o_counted o_becameThen o_firstCorner o_drawn o_ranSteps o_isTold o_marks o_text) := hD
    obtain rfl := Option.some.inj hf
    subst hq
    exact retV cx hP hD hS dX12_ahead_251
  have hj243 : ∀ (o_token_j243 : Int32) (o_from_j243 : Int32) (o_end_j243 : Int32) (o_value_j243 : Int32) (H : Heap) (locs : List Loc) (ls : Array Slot), X12_ahead_j243 F o_size o_token_j243 o_from_j243 o_end_j243 o_value_j243 o_text = some u → va_P E.1 vwCl (wd_X12_ahead E a_o a_o_at a_o_names a_o_sort a_o_trayMany a_o_trays a_o_tape a_o_text a_o_opened a_o_farBy a_o_attendsBy a_o_coveredBy a_o_cameBy a_o_cameThen a_o_fallsBy a_o_loops a_o_ran a_o_told1 o_status o_top o_bottom o_taped o_size o_token_j243 o_from_j243 o_end_j243 o_value_j243 o_faultKind o_faultPlace o_faults o_seen o_toldParts o_depth o_counted o_becameThen o_firstCorner o_drawn o_ranSteps o_isTold o_marks o_text) H → va_D A (wd_X12_ahead E a_o a_o_at a_o_names a_o_sort a_o_trayMany a_o_trays a_o_tape a_o_text a_o_opened a_o_farBy a_o_attendsBy a_o_coveredBy a_o_cameBy a_o_cameThen a_o_fallsBy a_o_loops a_o_ran a_o_told1 o_status o_top o_bottom o_taped o_size o_token_j243 o_from_j243 o_end_j243 o_value_j243 o_faultKind o_faultPlace o_faults o_seen o_toldParts o_depth o_counted o_becameThen o_firstCorner o_drawn o_ranSteps o_isTold o_marks o_text) → va_S A s.heap H locs → lv_has ls 2 [] → W p l e (rmd 1) s m aa below meth cd H locs 0 0 QQ (F0 m 243 ls [.ref a_o]) := by
    intro o_token_j243 o_from_j243 o_end_j243 o_value_j243 H locs ls hf hP hD hS hl
    unfold X12_ahead_j243 at hf
    refine lv_iconst (v := 4) hx hb dX12_ahead_243 (by decide) ?_
    refine lv_goto (tgt := 248) hx hb dX12_ahead_244 (by decide) ?_
    exact hj248 _ _ _ _ _ _ _ _ hf hP hD hS (lv_sub hl [] rfl)
  have hj202 : ∀ (o_token_j202 : Int32) (o_from_j202 : Int32) (o_end_j202 : Int32) (o_value_j202 : Int32) (k0_j202 : Int32) (H : Heap) (locs : List Loc) (ls : Array Slot), X12_ahead_j202 F o_size o_token_j202 o_from_j202 o_end_j202 o_value_j202 o_text k0_j202 = some u → va_P E.1 vwCl (wd_X12_ahead E a_o a_o_at a_o_names a_o_sort a_o_trayMany a_o_trays a_o_tape a_o_text a_o_opened a_o_farBy a_o_attendsBy a_o_coveredBy a_o_cameBy a_o_cameThen a_o_fallsBy a_o_loops a_o_ran a_o_told1 o_status o_top o_bottom o_taped o_size o_token_j202 o_from_j202 o_end_j202 o_value_j202 o_faultKind o_faultPlace o_faults o_seen o_toldParts o_depth o_counted o_becameThen o_firstCorner o_drawn o_ranSteps o_isTold o_marks o_text) H → va_D A (wd_X12_ahead E a_o a_o_at a_o_names a_o_sort a_o_trayMany a_o_trays a_o_tape a_o_text a_o_opened a_o_farBy a_o_attendsBy a_o_coveredBy a_o_cameBy a_o_cameThen a_o_fallsBy a_o_loops a_o_ran a_o_told1 o_status o_top o_bottom o_taped o_size o_token_j202 o_from_j202 o_end_j202 o_value_j202 o_faultKind o_faultPlace o_faults o_seen o_toldParts o_depth o_counted o_becameThen o_firstCorner o_drawn o_ranSteps o_isTold o_marks o_text) → va_S A s.heap H locs → lv_has ls 2 [] → W p l e (rmd 1) s m aa below meth cd H locs 0 0 QQ (F0 m 202 ls [.int k0_j202, .ref a_o]) := by
    intro o_token_j202 o_from_j202 o_end_j202 o_value_j202 k0_j202 H locs ls hf hP hD hS hl
    unfold X12_ahead_j202 at hf
    refine va_put (D := E.1) (ci := 12) (v := .int k0_j202) (ty := .int) (C := RX12) (T := TX12) (N := 39) hx hb hts inX12 tyX12 tyX12_ok nmX12 hown hK hP hD hS 0 rfl rfl 12 (by decide) (hts _ fl_X12_130) (fun _ h9 => h9) rfl (by decide +kernel) rfl rfl (Nat.le_of_ble_eq_true rfl) dX12_ahead_202 (fun H locs hP hD hS => ?_)
    have hP : va_P E.1 vwCl (wd_X12_ahead E a_o a_o_at a_o_names a_o_sort a_o_trayMany a_o_trays a_o_tape a_o_text a_o_opened a_o_farBy a_o_attendsBy a_o_coveredBy a_o_cameBy a_o_cameThen a_o_fallsBy a_o_loops a_o_ran a_o_told1 o_status o_top o_bottom o_taped o_size k0_j202 o_from_j202 o_end_j202 o_value_j202 o_faultKind o_faultPlace o_faults o_seen o_toldParts o_depth o_counted o_becameThen o_firstCorner o_drawn o_ranSteps o_isTold o_marks o_text) H := hP
    have hD : va_D A (wd_X12_ahead E a_o a_o_at a_o_names a_o_sort a_o_trayMany a_o_trays a_o_tape a_o_text a_o_opened a_o_farBy a_o_attendsBy a_o_coveredBy a_o_cameBy a_o_cameThen a_o_fallsBy a_o_loops a_o_ran a_o_told1 o_status o_top o_bottom o_taped o_size k0_j202 o_from_j202 o_end_j202 o_value_j202 o_faultKind o_faultPlace o_faults o_seen o_toldParts o_depth o_counted o_becameThen o_firstCorner o_drawn o_ranSteps o_isTold o_marks o_text) := hD
    refine lv_goto (tgt := 251) hx hb dX12_ahead_205 (by decide) ?_
    obtain rfl := Option.some.inj hf
    subst hq
    exact retV cx hP hD hS dX12_ahead_251
  unfold X12_ahead at hf
  obtain ⟨e0, hit0, hf⟩ := bd hf
  refine iter_W (b := X12_ahead_b0 F o_size o_token o_from o_value o_text) (P := fun st0 => ∀ (H : Heap) (locs : List Loc) (ls : Array Slot), va_P E.1 vwCl (wd_X12_ahead E a_o a_o_at a_o_names a_o_sort a_o_trayMany a_o_trays a_o_tape a_o_text a_o_opened a_o_farBy a_o_attendsBy a_o_coveredBy a_o_cameBy a_o_cameThen a_o_fallsBy a_o_loops a_o_ran a_o_told1 o_status o_top o_bottom o_taped o_size o_token o_from st0 o_value o_faultKind o_faultPlace o_faults o_seen o_toldParts o_depth o_counted o_becameThen o_firstCorner o_drawn o_ranSteps o_isTold o_marks o_text) H → va_D A (wd_X12_ahead E a_o a_o_at a_o_names a_o_sort a_o_trayMany a_o_trays a_o_tape a_o_text a_o_opened a_o_farBy a_o_attendsBy a_o_coveredBy a_o_cameBy a_o_cameThen a_o_fallsBy a_o_loops a_o_ran a_o_told1 o_status o_top o_bottom o_taped o_size o_token o_from st0 o_value o_faultKind o_faultPlace o_faults o_seen o_toldParts o_depth o_counted o_becameThen o_firstCorner o_drawn o_ranSteps o_isTold o_marks o_text) → va_S A s.heap H locs → lv_has ls 2 [(0, .ref a_o)] → W p l e (rmd 1) s m aa below meth cd H locs 0 0 QQ (F0 m 0 ls [])) (G := (fun (e0 : Int32) => ∀ (H : Heap) (locs : List Loc) (ls : Array Slot), va_P E.1 vwCl (wd_X12_ahead E a_o a_o_at a_o_names a_o_sort a_o_trayMany a_o_trays a_o_tape a_o_text a_o_opened a_o_farBy a_o_attendsBy a_o_coveredBy a_o_cameBy a_o_cameThen a_o_fallsBy a_o_loops a_o_ran a_o_told1 o_status o_top o_bottom o_taped o_size o_token o_from e0 o_value o_faultKind o_faultPlace o_faults o_seen o_toldParts o_depth o_counted o_becameThen o_firstCorner o_drawn o_ranSteps o_isTold o_marks o_text) H → va_D A (wd_X12_ahead E a_o a_o_at a_o_names a_o_sort a_o_trayMany a_o_trays a_o_tape a_o_text a_o_opened a_o_farBy a_o_attendsBy a_o_coveredBy a_o_cameBy a_o_cameThen a_o_fallsBy a_o_loops a_o_ran a_o_told1 o_status o_top o_bottom o_taped o_size o_token o_from e0 o_value o_faultKind o_faultPlace o_faults o_seen o_toldParts o_depth o_counted o_becameThen o_firstCorner o_drawn o_ranSteps o_isTold o_marks o_text) → va_S A s.heap H locs → lv_has ls 2 [(0, .ref a_o)] → W p l e (rmd 1) s m aa below meth cd H locs 0 0 QQ (F0 m 39 ls []))) ?_ F o_end e0 hit0 ?_ _ _ _ hP hD hS (lv_sub hl [0] rfl)
  · intro st0 r0 hf hk0 he0 H locs ls hP hD hS hl
    have hj26 : ∀ (o_end_j26 : Int32) (H : Heap) (locs : List Loc) (ls : Array Slot), X12_ahead_j26 F o_size o_token o_from o_end_j26 o_value o_text = some r0 → va_P E.1 vwCl (wd_X12_ahead E a_o a_o_at a_o_names a_o_sort a_o_trayMany a_o_trays a_o_tape a_o_text a_o_opened a_o_farBy a_o_attendsBy a_o_coveredBy a_o_cameBy a_o_cameThen a_o_fallsBy a_o_loops a_o_ran a_o_told1 o_status o_top o_bottom o_taped o_size o_token o_from o_end_j26 o_value o_faultKind o_faultPlace o_faults o_seen o_toldParts o_depth o_counted o_becameThen o_firstCorner o_drawn o_ranSteps o_isTold o_marks o_text) H → va_D A (wd_X12_ahead E a_o a_o_at a_o_names a_o_sort a_o_trayMany a_o_trays a_o_tape a_o_text a_o_opened a_o_farBy a_o_attendsBy a_o_coveredBy a_o_cameBy a_o_cameThen a_o_fallsBy a_o_loops a_o_ran a_o_told1 o_status o_top o_bottom o_taped o_size o_token o_from o_end_j26 o_value o_faultKind o_faultPlace o_faults o_seen o_toldParts o_depth o_counted o_becameThen o_firstCorner o_drawn o_ranSteps o_isTold o_marks o_text) → va_S A s.heap H locs → lv_has ls 2 [(0, .ref a_o)] → W p l e (rmd 1) s m aa below meth cd H locs 0 0 QQ (F0 m 26 ls []) := by
      intro o_end_j26 H locs ls hf hP hD hS hl
      unfold X12_ahead_j26 at hf
      refine lv_aload_n hx hb dX12_ahead_26 rfl (lv_at hl 0 rfl) ?_
      refine lv_dup hx hb dX12_ahead_27 rfl ?_
      refine va_get (D := E.1) (ci := 12) (v := .int o_end_j26) (C := RX12) (T := TX12) (N := 39) hx hb hts inX12 hown hK hP 0 rfl rfl 14 (by decide) (hts _ fl_X12_118) (fun _ h9 => h9) rfl dX12_ahead_28 ?_
      refine lv_iconst (v := 1) hx hb dX12_ahead_31 (by decide) ?_
      refine lv_iadd hx hb dX12_ahead_32 ?_
      refine va_put (D := E.1) (ci := 12) (v := .int (o_end_j26 + 1)) (ty := .int) (C := RX12) (T := TX12) (N := 39) hx hb hts inX12 tyX12 tyX12_ok nmX12 hown hK hP hD hS 0 rfl rfl 14 (by decide) (hts _ fl_X12_118) (fun _ h9 => h9) rfl (by decide +kernel) rfl rfl (Nat.le_of_ble_eq_true rfl) dX12_ahead_33 (fun H locs hP hD hS => ?_)
      have hP : va_P E.1 vwCl (wd_X12_ahead E a_o a_o_at a_o_names a_o_sort a_o_trayMany a_o_trays a_o_tape a_o_text a_o_opened a_o_farBy a_o_attendsBy a_o_coveredBy a_o_cameBy a_o_cameThen a_o_fallsBy a_o_loops a_o_ran a_o_told1 o_status o_top o_bottom o_taped o_size o_token o_from (o_end_j26 + 1) o_value o_faultKind o_faultPlace o_faults o_seen o_toldParts o_depth o_counted o_becameThen o_firstCorner o_drawn o_ranSteps o_isTold o_marks o_text) H := hP
      have hD : va_D A (wd_X12_ahead E a_o a_o_at a_o_names a_o_sort a_o_trayMany a_o_trays a_o_tape a_o_text a_o_opened a_o_farBy a_o_attendsBy a_o_coveredBy a_o_cameBy a_o_cameThen a_o_fallsBy a_o_loops a_o_ran a_o_told1 o_status o_top o_bottom o_taped o_size o_token o_from (o_end_j26 + 1) o_value o_faultKind o_faultPlace o_faults o_seen o_toldParts o_depth o_counted o_becameThen o_firstCorner o_drawn o_ranSteps o_isTold o_marks o_text) := hD
      refine lv_goto (tgt := 0) hx hb dX12_ahead_36 (by decide) ?_
      exact hk0 _ (Option.some.inj hf).symm _ _ _ hP hD hS (lv_sub hl [0] rfl)
    unfold X12_ahead_b0 at hf
    refine lv_aload_n hx hb dX12_ahead_0 rfl (lv_at hl 0 rfl) ?_
    refine lv_aload_n hx hb dX12_ahead_1 rfl (lv_at hl 0 rfl) ?_
    refine va_get (D := E.1) (ci := 12) (v := .int st0) (C := RX12) (T := TX12) (N := 39) hx hb hts inX12 hown hK hP 0 rfl rfl 14 (by decide) (hts _ fl_X12_118) (fun _ h9 => h9) rfl dX12_ahead_2 ?_
    obtain ⟨u5, hu5, hf⟩ := bd hf
    refine keepVI (ct_X12_byteAt l E a_o a_o_at a_o_names a_o_sort a_o_trayMany a_o_trays a_o_tape a_o_text a_o_opened a_o_farBy a_o_attendsBy a_o_coveredBy a_o_cameBy a_o_cameThen a_o_fallsBy a_o_loops a_o_ran a_o_told1 o_status o_top o_bottom o_taped o_size o_token o_from st0 o_value o_faultKind o_faultPlace o_faults o_seen o_toldParts o_depth o_counted o_becameThen o_firstCorner o_drawn o_ranSteps o_isTold o_marks o_text st0 u5 hu5) [0, 1] cal_X12_byteAt cav_X12_byteAt lk_X12_121 cx hP hD hS hl dX12_ahead_5 rfl rfl rfl rfl (Nat.le_of_ble_eq_true rfl) ⟨Nat.le_of_ble_eq_true rfl, Nat.le_of_ble_eq_true rfl⟩ rfl (by decide) (fun H locs hP hS => ?_)
    refine lv_bipush (v := 32) hx hb dX12_ahead_8 (by decide) ?_
    refine lv_icmp_eq (tgt := 26) hx hb dX12_ahead_10 (by decide) (fun hc => ?_) (fun hc => ?_)
    · have hf := it_t hc hf
      exact hj26 _ _ _ _ hf hP hD hS (lv_sub hl [0] rfl)
    · have hf := it_f hc hf
      refine lv_aload_n hx hb dX12_ahead_13 rfl (lv_at hl 0 rfl) ?_
      refine lv_aload_n hx hb dX12_ahead_14 rfl (lv_at hl 0 rfl) ?_
      refine va_get (D := E.1) (ci := 12) (v := .int st0) (C := RX12) (T := TX12) (N := 39) hx hb hts inX12 hown hK hP 0 rfl rfl 14 (by decide) (hts _ fl_X12_118) (fun _ h9 => h9) rfl dX12_ahead_15 ?_
      obtain ⟨u18, hu18, hf⟩ := bd hf
      refine keepVI (ct_X12_byteAt l E a_o a_o_at a_o_names a_o_sort a_o_trayMany a_o_trays a_o_tape a_o_text a_o_opened a_o_farBy a_o_attendsBy a_o_coveredBy a_o_cameBy a_o_cameThen a_o_fallsBy a_o_loops a_o_ran a_o_told1 o_status o_top o_bottom o_taped o_size o_token o_from st0 o_value o_faultKind o_faultPlace o_faults o_seen o_toldParts o_depth o_counted o_becameThen o_firstCorner o_drawn o_ranSteps o_isTold o_marks o_text st0 u18 hu18) [0, 1] cal_X12_byteAt cav_X12_byteAt lk_X12_121 cx hP hD hS hl dX12_ahead_18 rfl rfl rfl rfl (Nat.le_of_ble_eq_true rfl) ⟨Nat.le_of_ble_eq_true rfl, Nat.le_of_ble_eq_true rfl⟩ rfl (by decide) (fun H locs hP hS => ?_)
      refine lv_bipush (v := 10) hx hb dX12_ahead_21 (by decide) ?_
      refine lv_icmp_ne (tgt := 39) hx hb dX12_ahead_23 (by decide) (fun hc => ?_) (fun hc => ?_)
      · have hf := it_f hc hf
        exact he0 _ (Option.some.inj hf).symm _ _ _ hP hD hS (lv_sub hl [0] rfl)
      · have hf := it_t hc hf
        exact hj26 _ _ _ _ hf hP hD hS (lv_sub hl [0] rfl)
  · refine fun H locs ls hP hD hS hl => ?_
    refine lv_aload_n hx hb dX12_ahead_39 rfl (lv_at hl 0 rfl) ?_
    refine lv_aload_n hx hb dX12_ahead_40 rfl (lv_at hl 0 rfl) ?_
    refine va_get (D := E.1) (ci := 12) (v := .int e0) (C := RX12) (T := TX12) (N := 39) hx hb hts inX12 hown hK hP 0 rfl rfl 14 (by decide) (hts _ fl_X12_118) (fun _ h9 => h9) rfl dX12_ahead_41 ?_
    refine va_put (D := E.1) (ci := 12) (v := .int e0) (ty := .int) (C := RX12) (T := TX12) (N := 39) hx hb hts inX12 tyX12 tyX12_ok nmX12 hown hK hP hD hS 0 rfl rfl 13 (by decide) (hts _ fl_X12_124) (fun _ h9 => h9) rfl (by decide +kernel) rfl rfl (Nat.le_of_ble_eq_true rfl) dX12_ahead_44 (fun H locs hP hD hS => ?_)
    have hP : va_P E.1 vwCl (wd_X12_ahead E a_o a_o_at a_o_names a_o_sort a_o_trayMany a_o_trays a_o_tape a_o_text a_o_opened a_o_farBy a_o_attendsBy a_o_coveredBy a_o_cameBy a_o_cameThen a_o_fallsBy a_o_loops a_o_ran a_o_told1 o_status o_top o_bottom o_taped o_size o_token e0 e0 o_value o_faultKind o_faultPlace o_faults o_seen o_toldParts o_depth o_counted o_becameThen o_firstCorner o_drawn o_ranSteps o_isTold o_marks o_text) H := hP
    have hD : va_D A (wd_X12_ahead E a_o a_o_at a_o_names a_o_sort a_o_trayMany a_o_trays a_o_tape a_o_text a_o_opened a_o_farBy a_o_attendsBy a_o_coveredBy a_o_cameBy a_o_cameThen a_o_fallsBy a_o_loops a_o_ran a_o_told1 o_status o_top o_bottom o_taped o_size o_token e0 e0 o_value o_faultKind o_faultPlace o_faults o_seen o_toldParts o_depth o_counted o_becameThen o_firstCorner o_drawn o_ranSteps o_isTold o_marks o_text) := hD
    refine lv_aload_n hx hb dX12_ahead_47 rfl (lv_at hl 0 rfl) ?_
    refine lv_aload_n hx hb dX12_ahead_48 rfl (lv_at hl 0 rfl) ?_
    refine va_get (D := E.1) (ci := 12) (v := .int e0) (C := RX12) (T := TX12) (N := 39) hx hb hts inX12 hown hK hP 0 rfl rfl 14 (by decide) (hts _ fl_X12_118) (fun _ h9 => h9) rfl dX12_ahead_49 ?_
    obtain ⟨u52, hu52, hf⟩ := bd hf
    refine keepVI (ct_X12_byteAt l E a_o a_o_at a_o_names a_o_sort a_o_trayMany a_o_trays a_o_tape a_o_text a_o_opened a_o_farBy a_o_attendsBy a_o_coveredBy a_o_cameBy a_o_cameThen a_o_fallsBy a_o_loops a_o_ran a_o_told1 o_status o_top o_bottom o_taped o_size o_token e0 e0 o_value o_faultKind o_faultPlace o_faults o_seen o_toldParts o_depth o_counted o_becameThen o_firstCorner o_drawn o_ranSteps o_isTold o_marks o_text e0 u52 hu52) [0, 1] cal_X12_byteAt cav_X12_byteAt lk_X12_121 cx hP hD hS hl dX12_ahead_52 rfl rfl rfl rfl (Nat.le_of_ble_eq_true rfl) ⟨Nat.le_of_ble_eq_true rfl, Nat.le_of_ble_eq_true rfl⟩ rfl (by decide) (fun H locs hP hS => ?_)
    refine lv_istore_n (lv' := [(1, .int u52), (0, .ref a_o)]) hx hb dX12_ahead_55 rfl hl (by decide) rfl (fun ls hl => ?_)
    refine lv_aload_n hx hb dX12_ahead_56 rfl (lv_at hl 1 rfl) ?_
    refine lv_iload_n hx hb dX12_ahead_57 rfl (lv_at hl 0 rfl) ?_
    refine va_put (D := E.1) (ci := 12) (v := .int u52) (ty := .int) (C := RX12) (T := TX12) (N := 39) hx hb hts inX12 tyX12 tyX12_ok nmX12 hown hK hP hD hS 0 rfl rfl 15 (by decide) (hts _ fl_X12_127) (fun _ h9 => h9) rfl (by decide +kernel) rfl rfl (Nat.le_of_ble_eq_true rfl) dX12_ahead_58 (fun H locs hP hD hS => ?_)
    have hP : va_P E.1 vwCl (wd_X12_ahead E a_o a_o_at a_o_names a_o_sort a_o_trayMany a_o_trays a_o_tape a_o_text a_o_opened a_o_farBy a_o_attendsBy a_o_coveredBy a_o_cameBy a_o_cameThen a_o_fallsBy a_o_loops a_o_ran a_o_told1 o_status o_top o_bottom o_taped o_size o_token e0 e0 u52 o_faultKind o_faultPlace o_faults o_seen o_toldParts o_depth o_counted o_becameThen o_firstCorner o_drawn o_ranSteps o_isTold o_marks o_text) H := hP
    have hD : va_D A (wd_X12_ahead E a_o a_o_at a_o_names a_o_sort a_o_trayMany a_o_trays a_o_tape a_o_text a_o_opened a_o_farBy a_o_attendsBy a_o_coveredBy a_o_cameBy a_o_cameThen a_o_fallsBy a_o_loops a_o_ran a_o_told1 o_status o_top o_bottom o_taped o_size o_token e0 e0 u52 o_faultKind o_faultPlace o_faults o_seen o_toldParts o_depth o_counted o_becameThen o_firstCorner o_drawn o_ranSteps o_isTold o_marks o_text) := hD
    refine lv_iload_n hx hb dX12_ahead_61 rfl (lv_at hl 0 rfl) ?_
    refine lv_iconst (v := (-1)) hx hb dX12_ahead_62 (by decide) ?_
    refine lv_icmp_ne (tgt := 74) hx hb dX12_ahead_63 (by decide) (fun hc => ?_) (fun hc => ?_)
    · have hf := it_f hc hf
      refine lv_iload_n hx hb dX12_ahead_74 rfl (lv_at hl 0 rfl) ?_
      obtain ⟨u75, hu75, hf⟩ := bd hf
      refine keepSI (ct_X12_isSmall l E u52 u75 hu75) [] cal_X12_isSmall sta_X12_isSmall lk_X12_133 cx hP hD hS hl dX12_ahead_75 rfl rfl (Nat.le_of_ble_eq_true rfl) ⟨Nat.le_of_ble_eq_true rfl, Nat.le_of_ble_eq_true rfl⟩ rfl (by decide) (fun H locs hP hS => ?_)
      refine lv_if_eq (tgt := 116) hx hb dX12_ahead_78 (by decide) (fun hc => ?_) (fun hc => ?_)
      · have hf := it_t hc hf
        refine lv_iload_n hx hb dX12_ahead_116 rfl (lv_at hl 0 rfl) ?_
        obtain ⟨u117, hu117, hf⟩ := bd hf
        refine keepSI (ct_X12_isDigit l E u52 u117 hu117) [] cal_X12_isDigit sta_X12_isDigit lk_X12_136 cx hP hD hS hl dX12_ahead_117 rfl rfl (Nat.le_of_ble_eq_true rfl) ⟨Nat.le_of_ble_eq_true rfl, Nat.le_of_ble_eq_true rfl⟩ rfl (by decide) (fun H locs hP hS => ?_)
        refine lv_if_eq (tgt := 208) hx hb dX12_ahead_120 (by decide) (fun hc => ?_) (fun hc => ?_)
        · have hf := it_t hc hf
          refine lv_aload_n hx hb dX12_ahead_208 rfl (lv_at hl 1 rfl) ?_
          refine lv_dup hx hb dX12_ahead_209 rfl ?_
          refine va_get (D := E.1) (ci := 12) (v := .int e0) (C := RX12) (T := TX12) (N := 39) hx hb hts inX12 hown hK hP 0 rfl rfl 14 (by decide) (hts _ fl_X12_118) (fun _ h9 => h9) rfl dX12_ahead_210 ?_
          refine lv_iconst (v := 1) hx hb dX12_ahead_213 (by decide) ?_
          refine lv_iadd hx hb dX12_ahead_214 ?_
          refine va_put (D := E.1) (ci := 12) (v := .int (e0 + 1)) (ty := .int) (C := RX12) (T := TX12) (N := 39) hx hb hts inX12 tyX12 tyX12_ok nmX12 hown hK hP hD hS 0 rfl rfl 14 (by decide) (hts _ fl_X12_118) (fun _ h9 => h9) rfl (by decide +kernel) rfl rfl (Nat.le_of_ble_eq_true rfl) dX12_ahead_215 (fun H locs hP hD hS => ?_)
          have hP : va_P E.1 vwCl (wd_X12_ahead E a_o a_o_at a_o_names a_o_sort a_o_trayMany a_o_trays a_o_tape a_o_text a_o_opened a_o_farBy a_o_attendsBy a_o_coveredBy a_o_cameBy a_o_cameThen a_o_fallsBy a_o_loops a_o_ran a_o_told1 o_status o_top o_bottom o_taped o_size o_token e0 (e0 + 1) u52 o_faultKind o_faultPlace o_faults o_seen o_toldParts o_depth o_counted o_becameThen o_firstCorner o_drawn o_ranSteps o_isTold o_marks o_text) H := hP
          have hD : va_D A (wd_X12_ahead E a_o a_o_at a_o_names a_o_sort a_o_trayMany a_o_trays a_o_tape a_o_text a_o_opened a_o_farBy a_o_attendsBy a_o_coveredBy a_o_cameBy a_o_cameThen a_o_fallsBy a_o_loops a_o_ran a_o_told1 o_status o_top o_bottom o_taped o_size o_token e0 (e0 + 1) u52 o_faultKind o_faultPlace o_faults o_seen o_toldParts o_depth o_counted o_becameThen o_firstCorner o_drawn o_ranSteps o_isTold o_marks o_text) := hD
          refine lv_aload_n hx hb dX12_ahead_218 rfl (lv_at hl 1 rfl) ?_
          refine lv_iload_n hx hb dX12_ahead_219 rfl (lv_at hl 0 rfl) ?_
          refine lv_bipush (v := 59) hx hb dX12_ahead_220 (by decide) ?_
          refine lv_icmp_eq (tgt := 243) hx hb dX12_ahead_222 (by decide) (fun hc => ?_) (fun hc => ?_)
          · have hf := it_t hc hf
            exact hj243 _ _ _ _ _ _ _ hf hP hD hS (lv_sub hl [] rfl)
          · have hf := it_f hc hf
            refine lv_iload_n hx hb dX12_ahead_225 rfl (lv_at hl 0 rfl) ?_
            refine lv_bipush (v := 60) hx hb dX12_ahead_226 (by decide) ?_
            refine lv_icmp_eq (tgt := 243) hx hb dX12_ahead_228 (by decide) (fun hc => ?_) (fun hc => ?_)
            · have hf := it_t hc hf
              exact hj243 _ _ _ _ _ _ _ hf hP hD hS (lv_sub hl [] rfl)
            · have hf := it_f hc hf
              refine lv_iload_n hx hb dX12_ahead_231 rfl (lv_at hl 0 rfl) ?_
              refine lv_bipush (v := 62) hx hb dX12_ahead_232 (by decide) ?_
              refine lv_icmp_eq (tgt := 243) hx hb dX12_ahead_234 (by decide) (fun hc => ?_) (fun hc => ?_)
              · have hf := it_t hc hf
                exact hj243 _ _ _ _ _ _ _ hf hP hD hS (lv_sub hl [] rfl)
              · have hf := it_f hc hf
                refine lv_iload_n hx hb dX12_ahead_237 rfl (lv_at hl 0 rfl) ?_
                refine lv_bipush (v := 61) hx hb dX12_ahead_238 (by decide) ?_
                refine lv_icmp_ne (tgt := 247) hx hb dX12_ahead_240 (by decide) (fun hc => ?_) (fun hc => ?_)
                · have hf := it_f hc hf
                  refine lv_iconst (v := 1) hx hb dX12_ahead_247 (by decide) ?_
                  exact hj248 _ _ _ _ _ _ _ _ hf hP hD hS (lv_sub hl [] rfl)
                · have hf := it_t hc hf
                  exact hj243 _ _ _ _ _ _ _ hf hP hD hS (lv_sub hl [] rfl)
        · have hf := it_f hc hf
          refine lv_aload_n hx hb dX12_ahead_123 rfl (lv_at hl 1 rfl) ?_
          refine lv_iconst (v := 0) hx hb dX12_ahead_124 (by decide) ?_
          refine va_put (D := E.1) (ci := 12) (v := .int 0) (ty := .int) (C := RX12) (T := TX12) (N := 39) hx hb hts inX12 tyX12 tyX12_ok nmX12 hown hK hP hD hS 0 rfl rfl 15 (by decide) (hts _ fl_X12_127) (fun _ h9 => h9) rfl (by decide +kernel) rfl rfl (Nat.le_of_ble_eq_true rfl) dX12_ahead_125 (fun H locs hP hD hS => ?_)
          have hP : va_P E.1 vwCl (wd_X12_ahead E a_o a_o_at a_o_names a_o_sort a_o_trayMany a_o_trays a_o_tape a_o_text a_o_opened a_o_farBy a_o_attendsBy a_o_coveredBy a_o_cameBy a_o_cameThen a_o_fallsBy a_o_loops a_o_ran a_o_told1 o_status o_top o_bottom o_taped o_size o_token e0 e0 0 o_faultKind o_faultPlace o_faults o_seen o_toldParts o_depth o_counted o_becameThen o_firstCorner o_drawn o_ranSteps o_isTold o_marks o_text) H := hP
          have hD : va_D A (wd_X12_ahead E a_o a_o_at a_o_names a_o_sort a_o_trayMany a_o_trays a_o_tape a_o_text a_o_opened a_o_farBy a_o_attendsBy a_o_coveredBy a_o_cameBy a_o_cameThen a_o_fallsBy a_o_loops a_o_ran a_o_told1 o_status o_top o_bottom o_taped o_size o_token e0 e0 0 o_faultKind o_faultPlace o_faults o_seen o_toldParts o_depth o_counted o_becameThen o_firstCorner o_drawn o_ranSteps o_isTold o_marks o_text) := hD
          obtain ⟨e128, hit128, hf⟩ := bd hf
          refine iter_W (b := X12_ahead_b128 F o_size o_token e0 o_text) (P := fun st128 => ∀ (H : Heap) (locs : List Loc) (ls : Array Slot), va_P E.1 vwCl (wd_X12_ahead E a_o a_o_at a_o_names a_o_sort a_o_trayMany a_o_trays a_o_tape a_o_text a_o_opened a_o_farBy a_o_attendsBy a_o_coveredBy a_o_cameBy a_o_cameThen a_o_fallsBy a_o_loops a_o_ran a_o_told1 o_status o_top o_bottom o_taped o_size o_token e0 st128.1 st128.2 o_faultKind o_faultPlace o_faults o_seen o_toldParts o_depth o_counted o_becameThen o_firstCorner o_drawn o_ranSteps o_isTold o_marks o_text) H → va_D A (wd_X12_ahead E a_o a_o_at a_o_names a_o_sort a_o_trayMany a_o_trays a_o_tape a_o_text a_o_opened a_o_farBy a_o_attendsBy a_o_coveredBy a_o_cameBy a_o_cameThen a_o_fallsBy a_o_loops a_o_ran a_o_told1 o_status o_top o_bottom o_taped o_size o_token e0 st128.1 st128.2 o_faultKind o_faultPlace o_faults o_seen o_toldParts o_depth o_counted o_becameThen o_firstCorner o_drawn o_ranSteps o_isTold o_marks o_text) → va_S A s.heap H locs → lv_has ls 2 [(0, .ref a_o)] → W p l e (rmd 1) s m aa below meth cd H locs 0 0 QQ (F0 m 128 ls [])) (G := (fun (e128 : Int32 × Int32) => ∀ (H : Heap) (locs : List Loc) (ls : Array Slot), va_P E.1 vwCl (wd_X12_ahead E a_o a_o_at a_o_names a_o_sort a_o_trayMany a_o_trays a_o_tape a_o_text a_o_opened a_o_farBy a_o_attendsBy a_o_coveredBy a_o_cameBy a_o_cameThen a_o_fallsBy a_o_loops a_o_ran a_o_told1 o_status o_top o_bottom o_taped o_size o_token e0 e128.1 e128.2 o_faultKind o_faultPlace o_faults o_seen o_toldParts o_depth o_counted o_becameThen o_firstCorner o_drawn o_ranSteps o_isTold o_marks o_text) H → va_D A (wd_X12_ahead E a_o a_o_at a_o_names a_o_sort a_o_trayMany a_o_trays a_o_tape a_o_text a_o_opened a_o_farBy a_o_attendsBy a_o_coveredBy a_o_cameBy a_o_cameThen a_o_fallsBy a_o_loops a_o_ran a_o_told1 o_status o_top o_bottom o_taped o_size o_token e0 e128.1 e128.2 o_faultKind o_faultPlace o_faults o_seen o_toldParts o_depth o_counted o_becameThen o_firstCorner o_drawn o_ranSteps o_isTold o_marks o_text) → va_S A s.heap H locs → lv_has ls 2 [(0, .ref a_o)] → W p l e (rmd 1) s m aa below meth cd H locs 0 0 QQ (F0 m 183 ls []))) ?_ F (e0, 0) e128 hit128 ?_ _ _ _ hP hD hS (lv_sub hl [1] rfl)
          · intro st128 r128 hf hk128 he128 H locs ls hP hD hS hl
            unfold X12_ahead_b128 at hf
            refine lv_aload_n hx hb dX12_ahead_128 rfl (lv_at hl 0 rfl) ?_
            refine lv_aload_n hx hb dX12_ahead_129 rfl (lv_at hl 0 rfl) ?_
            refine va_get (D := E.1) (ci := 12) (v := .int st128.1) (C := RX12) (T := TX12) (N := 39) hx hb hts inX12 hown hK hP 0 rfl rfl 14 (by decide) (hts _ fl_X12_118) (fun _ h9 => h9) rfl dX12_ahead_130 ?_
            obtain ⟨u133, hu133, hf⟩ := bd hf
            refine keepVI (ct_X12_byteAt l E a_o a_o_at a_o_names a_o_sort a_o_trayMany a_o_trays a_o_tape a_o_text a_o_opened a_o_farBy a_o_attendsBy a_o_coveredBy a_o_cameBy a_o_cameThen a_o_fallsBy a_o_loops a_o_ran a_o_told1 o_status o_top o_bottom o_taped o_size o_token e0 st128.1 st128.2 o_faultKind o_faultPlace o_faults o_seen o_toldParts o_depth o_counted o_becameThen o_firstCorner o_drawn o_ranSteps o_isTold o_marks o_text st128.1 u133 hu133) [0, 1] cal_X12_byteAt cav_X12_byteAt lk_X12_121 cx hP hD hS hl dX12_ahead_133 rfl rfl rfl rfl (Nat.le_of_ble_eq_true rfl) ⟨Nat.le_of_ble_eq_true rfl, Nat.le_of_ble_eq_true rfl⟩ rfl (by decide) (fun H locs hP hS => ?_)
            obtain ⟨u136, hu136, hf⟩ := bd hf
            refine keepSI (ct_X12_isDigit l E u133 u136 hu136) [] cal_X12_isDigit sta_X12_isDigit lk_X12_136 cx hP hD hS hl dX12_ahead_136 rfl rfl (Nat.le_of_ble_eq_true rfl) ⟨Nat.le_of_ble_eq_true rfl, Nat.le_of_ble_eq_true rfl⟩ rfl (by decide) (fun H locs hP hS => ?_)
            refine lv_if_eq (tgt := 183) hx hb dX12_ahead_139 (by decide) (fun hc => ?_) (fun hc => ?_)
            · have hf := it_t hc hf
              exact he128 _ (Option.some.inj hf).symm _ _ _ hP hD hS (lv_sub hl [0] rfl)
            · have hf := it_f hc hf
              refine lv_aload_n hx hb dX12_ahead_142 rfl (lv_at hl 0 rfl) ?_
              refine lv_ldc (v := 100000) hx hb hown (hts _ ki_X12_139) dX12_ahead_143 ?_
              refine lv_bipush (v := 10) hx hb dX12_ahead_145 (by decide) ?_
              refine lv_aload_n hx hb dX12_ahead_147 rfl (lv_at hl 0 rfl) ?_
              refine va_get (D := E.1) (ci := 12) (v := .int st128.2) (C := RX12) (T := TX12) (N := 39) hx hb hts inX12 hown hK hP 0 rfl rfl 15 (by decide) (hts _ fl_X12_127) (fun _ h9 => h9) rfl dX12_ahead_148 ?_
              refine lv_imul hx hb dX12_ahead_151 ?_
              refine lv_aload_n hx hb dX12_ahead_152 rfl (lv_at hl 0 rfl) ?_
              refine lv_aload_n hx hb dX12_ahead_153 rfl (lv_at hl 0 rfl) ?_
              refine va_get (D := E.1) (ci := 12) (v := .int st128.1) (C := RX12) (T := TX12) (N := 39) hx hb hts inX12 hown hK hP 0 rfl rfl 14 (by decide) (hts _ fl_X12_118) (fun _ h9 => h9) rfl dX12_ahead_154 ?_
              obtain ⟨u157, hu157, hf⟩ := bd hf
              refine keepVI (ct_X12_byteAt l E a_o a_o_at a_o_names a_o_sort a_o_trayMany a_o_trays a_o_tape a_o_text a_o_opened a_o_farBy a_o_attendsBy a_o_coveredBy a_o_cameBy a_o_cameThen a_o_fallsBy a_o_loops a_o_ran a_o_told1 o_status o_top o_bottom o_taped o_size o_token e0 st128.1 st128.2 o_faultKind o_faultPlace o_faults o_seen o_toldParts o_depth o_counted o_becameThen o_firstCorner o_drawn o_ranSteps o_isTold o_marks o_text st128.1 u157 hu157) [0, 1] cal_X12_byteAt cav_X12_byteAt lk_X12_121 cx hP hD hS hl dX12_ahead_157 rfl rfl rfl rfl (Nat.le_of_ble_eq_true rfl) ⟨Nat.le_of_ble_eq_true rfl, Nat.le_of_ble_eq_true rfl⟩ rfl (by decide) (fun H locs hP hS => ?_)
              refine lv_iadd hx hb dX12_ahead_160 ?_
              refine lv_bipush (v := 48) hx hb dX12_ahead_161 (by decide) ?_
              refine lv_isub hx hb dX12_ahead_163 ?_
              refine r_mmin cx hl lk_X12_140 mt_min (Nat.le_of_ble_eq_true rfl) (Nat.le_of_ble_eq_true rfl) dX12_ahead_164 ?_
              refine va_put (D := E.1) (ci := 12) (v := .int (jmin (100000 : Int32) (((10 * st128.2) + u157) - 48))) (ty := .int) (C := RX12) (T := TX12) (N := 39) hx hb hts inX12 tyX12 tyX12_ok nmX12 hown hK hP hD hS 0 rfl rfl 15 (by decide) (hts _ fl_X12_127) (fun _ h9 => h9) rfl (by decide +kernel) rfl rfl (Nat.le_of_ble_eq_true rfl) dX12_ahead_167 (fun H locs hP hD hS => ?_)
              have hP : va_P E.1 vwCl (wd_X12_ahead E a_o a_o_at a_o_names a_o_sort a_o_trayMany a_o_trays a_o_tape a_o_text a_o_opened a_o_farBy a_o_attendsBy a_o_coveredBy a_o_cameBy a_o_cameThen a_o_fallsBy a_o_loops a_o_ran a_o_told1 o_status o_top o_bottom o_taped o_size o_token e0 st128.1 (jmin (100000 : Int32) (((10 * st128.2) + u157) - 48)) o_faultKind o_faultPlace o_faults o_seen o_toldParts o_depth o_counted o_becameThen o_firstCorner o_drawn o_ranSteps o_isTold o_marks o_text) H := hP
              have hD : va_D A (wd_X12_ahead E a_o a_o_at a_o_names a_o_sort a_o_trayMany a_o_trays a_o_tape a_o_text a_o_opened a_o_farBy a_o_attendsBy a_o_coveredBy a_o_cameBy a_o_cameThen a_o_fallsBy a_o_loops a_o_ran a_o_told1 o_status o_top o_bottom o_taped o_size o_token e0 st128.1 (jmin (100000 : Int32) (((10 * st128.2) + u157) - 48)) o_faultKind o_faultPlace o_faults o_seen o_toldParts o_depth o_counted o_becameThen o_firstCorner o_drawn o_ranSteps o_isTold o_marks o_text) := hD
              refine lv_aload_n hx hb dX12_ahead_170 rfl (lv_at hl 0 rfl) ?_
              refine lv_dup hx hb dX12_ahead_171 rfl ?_
              refine va_get (D := E.1) (ci := 12) (v := .int st128.1) (C := RX12) (T := TX12) (N := 39) hx hb hts inX12 hown hK hP 0 rfl rfl 14 (by decide) (hts _ fl_X12_118) (fun _ h9 => h9) rfl dX12_ahead_172 ?_
              refine lv_iconst (v := 1) hx hb dX12_ahead_175 (by decide) ?_
              refine lv_iadd hx hb dX12_ahead_176 ?_
              refine va_put (D := E.1) (ci := 12) (v := .int (st128.1 + 1)) (ty := .int) (C := RX12) (T := TX12) (N := 39) hx hb hts inX12 tyX12 tyX12_ok nmX12 hown hK hP hD hS 0 rfl rfl 14 (by decide) (hts _ fl_X12_118) (fun _ h9 => h9) rfl (by decide +kernel) rfl rfl (Nat.le_of_ble_eq_true rfl) dX12_ahead_177 (fun H locs hP hD hS => ?_)
              have hP : va_P E.1 vwCl (wd_X12_ahead E a_o a_o_at a_o_names a_o_sort a_o_trayMany a_o_trays a_o_tape a_o_text a_o_opened a_o_farBy a_o_attendsBy a_o_coveredBy a_o_cameBy a_o_cameThen a_o_fallsBy a_o_loops a_o_ran a_o_told1 o_status o_top o_bottom o_taped o_size o_token e0 (st128.1 + 1) (jmin (100000 : Int32) (((10 * st128.2) + u157) - 48)) o_faultKind o_faultPlace o_faults o_seen o_toldParts o_depth o_counted o_becameThen o_firstCorner o_drawn o_ranSteps o_isTold o_marks o_text) H := hP
              have hD : va_D A (wd_X12_ahead E a_o a_o_at a_o_names a_o_sort a_o_trayMany a_o_trays a_o_tape a_o_text a_o_opened a_o_farBy a_o_attendsBy a_o_coveredBy a_o_cameBy a_o_cameThen a_o_fallsBy a_o_loops a_o_ran a_o_told1 o_status o_top o_bottom o_taped o_size o_token e0 (st128.1 + 1) (jmin (100000 : Int32) (((10 * st128.2) + u157) - 48)) o_faultKind o_faultPlace o_faults o_seen o_toldParts o_depth o_counted o_becameThen o_firstCorner o_drawn o_ranSteps o_isTold o_marks o_text) := hD
              refine lv_goto (tgt := 128) hx hb dX12_ahead_180 (by decide) ?_
              exact hk128 _ (Option.some.inj hf).symm _ _ _ hP hD hS (lv_sub hl [0] rfl)
          · refine fun H locs ls hP hD hS hl => ?_
            refine lv_aload_n hx hb dX12_ahead_183 rfl (lv_at hl 0 rfl) ?_
            refine lv_aload_n hx hb dX12_ahead_184 rfl (lv_at hl 0 rfl) ?_
            refine va_get (D := E.1) (ci := 12) (v := .int e128.1) (C := RX12) (T := TX12) (N := 39) hx hb hts inX12 hown hK hP 0 rfl rfl 14 (by decide) (hts _ fl_X12_118) (fun _ h9 => h9) rfl dX12_ahead_185 ?_
            refine lv_aload_n hx hb dX12_ahead_188 rfl (lv_at hl 0 rfl) ?_
            refine va_get (D := E.1) (ci := 12) (v := .int e0) (C := RX12) (T := TX12) (N := 39) hx hb hts inX12 hown hK hP 0 rfl rfl 13 (by decide) (hts _ fl_X12_124) (fun _ h9 => h9) rfl dX12_ahead_189 ?_
            refine lv_isub hx hb dX12_ahead_192 ?_
            refine lv_iconst (v := 4) hx hb dX12_ahead_193 (by decide) ?_
            refine lv_icmp_le (tgt := 201) hx hb dX12_ahead_194 (by decide) (fun hc => ?_) (fun hc => ?_)
            · have hf := it_t hc hf
              refine lv_iconst (v := 3) hx hb dX12_ahead_201 (by decide) ?_
              exact hj202 _ _ _ _ _ _ _ _ hf hP hD hS (lv_sub hl [] rfl)
            · have hf := it_f hc hf
              refine lv_iconst (v := 1) hx hb dX12_ahead_197 (by decide) ?_
              refine lv_goto (tgt := 202) hx hb dX12_ahead_198 (by decide) ?_
              exact hj202 _ _ _ _ _ _ _ _ hf hP hD hS (lv_sub hl [] rfl)
      · have hf := it_f hc hf
        obtain ⟨e81, hit81, hf⟩ := bd hf
        refine iter_W (b := X12_ahead_b81 F o_size o_token e0 u52 o_text) (P := fun st81 => ∀ (H : Heap) (locs : List Loc) (ls : Array Slot), va_P E.1 vwCl (wd_X12_ahead E a_o a_o_at a_o_names a_o_sort a_o_trayMany a_o_trays a_o_tape a_o_text a_o_opened a_o_farBy a_o_attendsBy a_o_coveredBy a_o_cameBy a_o_cameThen a_o_fallsBy a_o_loops a_o_ran a_o_told1 o_status o_top o_bottom o_taped o_size o_token e0 st81 u52 o_faultKind o_faultPlace o_faults o_seen o_toldParts o_depth o_counted o_becameThen o_firstCorner o_drawn o_ranSteps o_isTold o_marks o_text) H → va_D A (wd_X12_ahead E a_o a_o_at a_o_names a_o_sort a_o_trayMany a_o_trays a_o_tape a_o_text a_o_opened a_o_farBy a_o_attendsBy a_o_coveredBy a_o_cameBy a_o_cameThen a_o_fallsBy a_o_loops a_o_ran a_o_told1 o_status o_top o_bottom o_taped o_size o_token e0 st81 u52 o_faultKind o_faultPlace o_faults o_seen o_toldParts o_depth o_counted o_becameThen o_firstCorner o_drawn o_ranSteps o_isTold o_marks o_text) → va_S A s.heap H locs → lv_has ls 2 [(0, .ref a_o)] → W p l e (rmd 1) s m aa below meth cd H locs 0 0 QQ (F0 m 81 ls [])) (G := (fun (e81 : Int32) => ∀ (H : Heap) (locs : List Loc) (ls : Array Slot), va_P E.1 vwCl (wd_X12_ahead E a_o a_o_at a_o_names a_o_sort a_o_trayMany a_o_trays a_o_tape a_o_text a_o_opened a_o_farBy a_o_attendsBy a_o_coveredBy a_o_cameBy a_o_cameThen a_o_fallsBy a_o_loops a_o_ran a_o_told1 o_status o_top o_bottom o_taped o_size o_token e0 e81 u52 o_faultKind o_faultPlace o_faults o_seen o_toldParts o_depth o_counted o_becameThen o_firstCorner o_drawn o_ranSteps o_isTold o_marks o_text) H → va_D A (wd_X12_ahead E a_o a_o_at a_o_names a_o_sort a_o_trayMany a_o_trays a_o_tape a_o_text a_o_opened a_o_farBy a_o_attendsBy a_o_coveredBy a_o_cameBy a_o_cameThen a_o_fallsBy a_o_loops a_o_ran a_o_told1 o_status o_top o_bottom o_taped o_size o_token e0 e81 u52 o_faultKind o_faultPlace o_faults o_seen o_toldParts o_depth o_counted o_becameThen o_firstCorner o_drawn o_ranSteps o_isTold o_marks o_text) → va_S A s.heap H locs → lv_has ls 2 [(0, .ref a_o)] → W p l e (rmd 1) s m aa below meth cd H locs 0 0 QQ (F0 m 108 ls []))) ?_ F e0 e81 hit81 ?_ _ _ _ hP hD hS (lv_sub hl [1] rfl)
        · intro st81 r81 hf hk81 he81 H locs ls hP hD hS hl
          unfold X12_ahead_b81 at hf
          refine lv_aload_n hx hb dX12_ahead_81 rfl (lv_at hl 0 rfl) ?_
          refine lv_aload_n hx hb dX12_ahead_82 rfl (lv_at hl 0 rfl) ?_
          refine va_get (D := E.1) (ci := 12) (v := .int st81) (C := RX12) (T := TX12) (N := 39) hx hb hts inX12 hown hK hP 0 rfl rfl 14 (by decide) (hts _ fl_X12_118) (fun _ h9 => h9) rfl dX12_ahead_83 ?_
          obtain ⟨u86, hu86, hf⟩ := bd hf
          refine keepVI (ct_X12_byteAt l E a_o a_o_at a_o_names a_o_sort a_o_trayMany a_o_trays a_o_tape a_o_text a_o_opened a_o_farBy a_o_attendsBy a_o_coveredBy a_o_cameBy a_o_cameThen a_o_fallsBy a_o_loops a_o_ran a_o_told1 o_status o_top o_bottom o_taped o_size o_token e0 st81 u52 o_faultKind o_faultPlace o_faults o_seen o_toldParts o_depth o_counted o_becameThen o_firstCorner o_drawn o_ranSteps o_isTold o_marks o_text st81 u86 hu86) [0, 1] cal_X12_byteAt cav_X12_byteAt lk_X12_121 cx hP hD hS hl dX12_ahead_86 rfl rfl rfl rfl (Nat.le_of_ble_eq_true rfl) ⟨Nat.le_of_ble_eq_true rfl, Nat.le_of_ble_eq_true rfl⟩ rfl (by decide) (fun H locs hP hS => ?_)
          obtain ⟨u89, hu89, hf⟩ := bd hf
          refine keepSI (ct_X12_isSmall l E u86 u89 hu89) [] cal_X12_isSmall sta_X12_isSmall lk_X12_133 cx hP hD hS hl dX12_ahead_89 rfl rfl (Nat.le_of_ble_eq_true rfl) ⟨Nat.le_of_ble_eq_true rfl, Nat.le_of_ble_eq_true rfl⟩ rfl (by decide) (fun H locs hP hS => ?_)
          refine lv_if_eq (tgt := 108) hx hb dX12_ahead_92 (by decide) (fun hc => ?_) (fun hc => ?_)
          · have hf := it_t hc hf
            exact he81 _ (Option.some.inj hf).symm _ _ _ hP hD hS (lv_sub hl [0] rfl)
          · have hf := it_f hc hf
            refine lv_aload_n hx hb dX12_ahead_95 rfl (lv_at hl 0 rfl) ?_
            refine lv_dup hx hb dX12_ahead_96 rfl ?_
            refine va_get (D := E.1) (ci := 12) (v := .int st81) (C := RX12) (T := TX12) (N := 39) hx hb hts inX12 hown hK hP 0 rfl rfl 14 (by decide) (hts _ fl_X12_118) (fun _ h9 => h9) rfl dX12_ahead_97 ?_
            refine lv_iconst (v := 1) hx hb dX12_ahead_100 (by decide) ?_
            refine lv_iadd hx hb dX12_ahead_101 ?_
            refine va_put (D := E.1) (ci := 12) (v := .int (st81 + 1)) (ty := .int) (C := RX12) (T := TX12) (N := 39) hx hb hts inX12 tyX12 tyX12_ok nmX12 hown hK hP hD hS 0 rfl rfl 14 (by decide) (hts _ fl_X12_118) (fun _ h9 => h9) rfl (by decide +kernel) rfl rfl (Nat.le_of_ble_eq_true rfl) dX12_ahead_102 (fun H locs hP hD hS => ?_)
            have hP : va_P E.1 vwCl (wd_X12_ahead E a_o a_o_at a_o_names a_o_sort a_o_trayMany a_o_trays a_o_tape a_o_text a_o_opened a_o_farBy a_o_attendsBy a_o_coveredBy a_o_cameBy a_o_cameThen a_o_fallsBy a_o_loops a_o_ran a_o_told1 o_status o_top o_bottom o_taped o_size o_token e0 (st81 + 1) u52 o_faultKind o_faultPlace o_faults o_seen o_toldParts o_depth o_counted o_becameThen o_firstCorner o_drawn o_ranSteps o_isTold o_marks o_text) H := hP
            have hD : va_D A (wd_X12_ahead E a_o a_o_at a_o_names a_o_sort a_o_trayMany a_o_trays a_o_tape a_o_text a_o_opened a_o_farBy a_o_attendsBy a_o_coveredBy a_o_cameBy a_o_cameThen a_o_fallsBy a_o_loops a_o_ran a_o_told1 o_status o_top o_bottom o_taped o_size o_token e0 (st81 + 1) u52 o_faultKind o_faultPlace o_faults o_seen o_toldParts o_depth o_counted o_becameThen o_firstCorner o_drawn o_ranSteps o_isTold o_marks o_text) := hD
            refine lv_goto (tgt := 81) hx hb dX12_ahead_105 (by decide) ?_
            exact hk81 _ (Option.some.inj hf).symm _ _ _ hP hD hS (lv_sub hl [0] rfl)
        · refine fun H locs ls hP hD hS hl => ?_
          refine lv_aload_n hx hb dX12_ahead_108 rfl (lv_at hl 0 rfl) ?_
          refine lv_iconst (v := 2) hx hb dX12_ahead_109 (by decide) ?_
          refine va_put (D := E.1) (ci := 12) (v := .int 2) (ty := .int) (C := RX12) (T := TX12) (N := 39) hx hb hts inX12 tyX12 tyX12_ok nmX12 hown hK hP hD hS 0 rfl rfl 12 (by decide) (hts _ fl_X12_130) (fun _ h9 => h9) rfl (by decide +kernel) rfl rfl (Nat.le_of_ble_eq_true rfl) dX12_ahead_110 (fun H locs hP hD hS => ?_)
          have hP : va_P E.1 vwCl (wd_X12_ahead E a_o a_o_at a_o_names a_o_sort a_o_trayMany a_o_trays a_o_tape a_o_text a_o_opened a_o_farBy a_o_attendsBy a_o_coveredBy a_o_cameBy a_o_cameThen a_o_fallsBy a_o_loops a_o_ran a_o_told1 o_status o_top o_bottom o_taped o_size 2 e0 e81 u52 o_faultKind o_faultPlace o_faults o_seen o_toldParts o_depth o_counted o_becameThen o_firstCorner o_drawn o_ranSteps o_isTold o_marks o_text) H := hP
          have hD : va_D A (wd_X12_ahead E a_o a_o_at a_o_names a_o_sort a_o_trayMany a_o_trays a_o_tape a_o_text a_o_opened a_o_farBy a_o_attendsBy a_o_coveredBy a_o_cameBy a_o_cameThen a_o_fallsBy a_o_loops a_o_ran a_o_told1 o_status o_top o_bottom o_taped o_size 2 e0 e81 u52 o_faultKind o_faultPlace o_faults o_seen o_toldParts o_depth o_counted o_becameThen o_firstCorner o_drawn o_ranSteps o_isTold o_marks o_text) := hD
          refine lv_goto (tgt := 251) hx hb dX12_ahead_113 (by decide) ?_
          obtain rfl := Option.some.inj hf
          subst hq
          exact retV cx hP hD hS dX12_ahead_251
    · have hf := it_t hc hf
      refine lv_aload_n hx hb dX12_ahead_66 rfl (lv_at hl 1 rfl) ?_
      refine lv_iconst (v := 0) hx hb dX12_ahead_67 (by decide) ?_
      refine va_put (D := E.1) (ci := 12) (v := .int 0) (ty := .int) (C := RX12) (T := TX12) (N := 39) hx hb hts inX12 tyX12 tyX12_ok nmX12 hown hK hP hD hS 0 rfl rfl 12 (by decide) (hts _ fl_X12_130) (fun _ h9 => h9) rfl (by decide +kernel) rfl rfl (Nat.le_of_ble_eq_true rfl) dX12_ahead_68 (fun H locs hP hD hS => ?_)
      have hP : va_P E.1 vwCl (wd_X12_ahead E a_o a_o_at a_o_names a_o_sort a_o_trayMany a_o_trays a_o_tape a_o_text a_o_opened a_o_farBy a_o_attendsBy a_o_coveredBy a_o_cameBy a_o_cameThen a_o_fallsBy a_o_loops a_o_ran a_o_told1 o_status o_top o_bottom o_taped o_size 0 e0 e0 u52 o_faultKind o_faultPlace o_faults o_seen o_toldParts o_depth o_counted o_becameThen o_firstCorner o_drawn o_ranSteps o_isTold o_marks o_text) H := hP
      have hD : va_D A (wd_X12_ahead E a_o a_o_at a_o_names a_o_sort a_o_trayMany a_o_trays a_o_tape a_o_text a_o_opened a_o_farBy a_o_attendsBy a_o_coveredBy a_o_cameBy a_o_cameThen a_o_fallsBy a_o_loops a_o_ran a_o_told1 o_status o_top o_bottom o_taped o_size 0 e0 e0 u52 o_faultKind o_faultPlace o_faults o_seen o_toldParts o_depth o_counted o_becameThen o_firstCorner o_drawn o_ranSteps o_isTold o_marks o_text) := hD
      refine lv_goto (tgt := 251) hx hb dX12_ahead_71 (by decide) ?_
      obtain rfl := Option.some.inj hf
      subst hq
      exact retV cx hP hD hS dX12_ahead_251
def X12_isSign_j20 (o_token : Int32) (o_value : Int32) : Option (Int32) :=
  some 0
def X12_isSign (o_token : Int32) (o_value : Int32) (v1 : Int32) : Option (Int32) :=
  if o_token = 4 then
  if o_value = v1 then
  some 1
  else
  X12_isSign_j20 o_token o_value
  else
  X12_isSign_j20 o_token o_value
abbrev wd_X12_isSign (E : vE) (a_o a_o_at a_o_names a_o_sort a_o_trayMany a_o_trays a_o_tape a_o_text a_o_opened a_o_farBy a_o_attendsBy a_o_coveredBy a_o_cameBy a_o_cameThen a_o_fallsBy a_o_loops a_o_ran a_o_told1 : Nat) (o_status : Int32) (o_top : Int64) (o_bottom : Int64) (o_taped : Int32) (o_size : Int32) (o_token : Int32) (o_from : Int32) (o_end : Int32) (o_value : Int32) (o_faultKind : Int32) (o_faultPlace : Int32) (o_faults : Int32) (o_seen : Int32) (o_toldParts : Int32) (o_depth : Int32) (o_counted : Int32) (o_becameThen : Int32) (o_firstCorner : Int32) (o_drawn : Int32) (o_ranSteps : Int32) (o_isTold : Int32) (o_marks : Int32) : va_W := [(a_o, .inr (12, [.ref a_o_at, .ref a_o_names, .int o_status, .long o_top, .long o_bottom, .ref a_o_sort, .ref a_o_trayMany, .ref a_o_trays, .ref a_o_tape, .ref a_o_text, .int o_taped, .int o_size, .int o_token, .int o_from, .int o_end, .int o_value, .int o_faultKind, .int o_faultPlace, .int o_faults, .int o_seen, .int o_toldParts, .ref a_o_opened, .int o_depth, .int o_counted, .ref a_o_farBy, .int o_becameThen, .ref a_o_attendsBy, .ref a_o_coveredBy, .ref a_o_cameBy, .ref a_o_cameThen, .int o_firstCorner, .ref a_o_fallsBy, .int o_drawn, .int o_ranSteps, .ref a_o_loops, .ref a_o_ran, .ref a_o_told1, .int o_isTold, .int o_marks]))]
set_option maxHeartbeats 4000000 in
set_option maxRecDepth 100000 in
theorem ct_X12_isSign (l : Launch) (E : vE) (a_o a_o_at a_o_names a_o_sort a_o_trayMany a_o_trays a_o_tape a_o_text a_o_opened a_o_farBy a_o_attendsBy a_o_coveredBy a_o_cameBy a_o_cameThen a_o_fallsBy a_o_loops a_o_ran a_o_told1 : Nat) (o_status : Int32) (o_top : Int64) (o_bottom : Int64) (o_taped : Int32) (o_size : Int32) (o_token : Int32) (o_from : Int32) (o_end : Int32) (o_value : Int32) (o_faultKind : Int32) (o_faultPlace : Int32) (o_faults : Int32) (o_seen : Int32) (o_toldParts : Int32) (o_depth : Int32) (o_counted : Int32) (o_becameThen : Int32) (o_firstCorner : Int32) (o_drawn : Int32) (o_ranSteps : Int32) (o_isTold : Int32) (o_marks : Int32) (v1 : Int32) (u : Int32) (hf : X12_isSign o_token o_value v1 = some u) :
    CtI l yX12_isSign cX12_isSign 2 (some .boolean) 0 E [.ref a_o, .int v1] (wd_X12_isSign E a_o a_o_at a_o_names a_o_sort a_o_trayMany a_o_trays a_o_tape a_o_text a_o_opened a_o_farBy a_o_attendsBy a_o_coveredBy a_o_cameBy a_o_cameThen a_o_fallsBy a_o_loops a_o_ran a_o_told1 o_status o_top o_bottom o_taped o_size o_token o_from o_end o_value o_faultKind o_faultPlace o_faults o_seen o_toldParts o_depth o_counted o_becameThen o_firstCorner o_drawn o_ranSteps o_isTold o_marks) (wd_X12_isSign E a_o a_o_at a_o_names a_o_sort a_o_trayMany a_o_trays a_o_tape a_o_text a_o_opened a_o_farBy a_o_attendsBy a_o_coveredBy a_o_cameBy a_o_cameThen a_o_fallsBy a_o_loops a_o_ran a_o_told1 o_status o_top o_bottom o_taped o_size o_token o_from o_end o_value o_faultKind o_faultPlace o_faults o_seen o_toldParts o_depth o_counted o_becameThen o_firstCorner o_drawn o_ranSteps o_isTold o_marks) u := by
  refine ctI (by decide) (Nat.le_of_ble_eq_true rfl) ?_
  intro p e s m below meth cd A ls aa QQ hq cx hP hD hS hl
  obtain ⟨⟨hx, hb, hml, hown, hts⟩, hr, hlocks, hK, hA, hX⟩ := id cx
  have hl : lv_has ls 2 [(0, .ref a_o), (1, .int v1)] := hl
  have hj20 : ∀ (H : Heap) (locs : List Loc) (ls : Array Slot), X12_isSign_j20 o_token o_value = some u → va_P E.1 vwCl (wd_X12_isSign E a_o a_o_at a_o_names a_o_sort a_o_trayMany a_o_trays a_o_tape a_o_text a_o_opened a_o_farBy a_o_attendsBy a_o_coveredBy a_o_cameBy a_o_cameThen a_o_fallsBy a_o_loops a_o_ran a_o_told1 o_status o_top o_bottom o_taped o_size o_token o_from o_end o_value o_faultKind o_faultPlace o_faults o_seen o_toldParts o_depth o_counted o_becameThen o_firstCorner o_drawn o_ranSteps o_isTold o_marks) H → va_D A (wd_X12_isSign E a_o a_o_at a_o_names a_o_sort a_o_trayMany a_o_trays a_o_tape a_o_text a_o_opened a_o_farBy a_o_attendsBy a_o_coveredBy a_o_cameBy a_o_cameThen a_o_fallsBy a_o_loops a_o_ran a_o_told1 o_status o_top o_bottom o_taped o_size o_token o_from o_end o_value o_faultKind o_faultPlace o_faults o_seen o_toldParts o_depth o_counted o_becameThen o_firstCorner o_drawn o_ranSteps o_isTold o_marks) → va_S A s.heap H locs → lv_has ls 2 [] → W p l e (rmd 0) s m aa below meth cd H locs 0 0 QQ (F0 m 20 ls []) := by
    intro H locs ls hf hP hD hS hl
    unfold X12_isSign_j20 at hf
    refine lv_iconst (v := 0) hx hb dX12_isSign_20 (by decide) ?_
    obtain rfl := Option.some.inj hf
    subst hq
    exact retZ cx rfl hP hD hS dX12_isSign_21
  unfold X12_isSign at hf
  refine lv_aload_n hx hb dX12_isSign_0 rfl (lv_at hl 0 rfl) ?_
  refine va_get (D := E.1) (ci := 12) (v := .int o_token) (C := RX12) (T := TX12) (N := 39) hx hb hts inX12 hown hK hP 0 rfl rfl 12 (by decide) (hts _ fl_X12_130) (fun _ h9 => h9) rfl dX12_isSign_1 ?_
  refine lv_iconst (v := 4) hx hb dX12_isSign_4 (by decide) ?_
  refine lv_icmp_ne (tgt := 20) hx hb dX12_isSign_5 (by decide) (fun hc => ?_) (fun hc => ?_)
  · have hf := it_f hc hf
    exact hj20  _ _ _ hf hP hD hS (lv_sub hl [] rfl)
  · have hf := it_t hc hf
    refine lv_aload_n hx hb dX12_isSign_8 rfl (lv_at hl 0 rfl) ?_
    refine va_get (D := E.1) (ci := 12) (v := .int o_value) (C := RX12) (T := TX12) (N := 39) hx hb hts inX12 hown hK hP 0 rfl rfl 15 (by decide) (hts _ fl_X12_127) (fun _ h9 => h9) rfl dX12_isSign_9 ?_
    refine lv_iload_n hx hb dX12_isSign_12 rfl (lv_at hl 1 rfl) ?_
    refine lv_icmp_ne (tgt := 20) hx hb dX12_isSign_13 (by decide) (fun hc => ?_) (fun hc => ?_)
    · have hf := it_f hc hf
      exact hj20  _ _ _ hf hP hD hS (lv_sub hl [] rfl)
    · have hf := it_t hc hf
      refine lv_iconst (v := 1) hx hb dX12_isSign_16 (by decide) ?_
      refine lv_goto (tgt := 21) hx hb dX12_isSign_17 (by decide) ?_
      obtain rfl := Option.some.inj hf
      subst hq
      exact retZ cx rfl hP hD hS dX12_isSign_21
def X12_inWords_j115 (F : Nat) (o_size : Int32) (o_token : Int32) (o_from : Int32) (o_end : Int32) (o_text : Nat → Int32) (v2 : Int32) (v4 : Int32) (v5 : Int32) : Option ((Int32 × Int32) ⊕ ((Int32) ⊕ (Unit))) :=
  if v5 = 0 then
  some (.inl ((v2 + 1), (v4 + 1)))
  else
  some (.inr (.inl (v2)))
def X12_inWords_j107 (F : Nat) (o_size : Int32) (o_token : Int32) (o_from : Int32) (o_end : Int32) (o_text : Nat → Int32) (v2 : Int32) (v3 : Int32) (v4 : Int32) (v6 : Int32) (k0 : Int32) : Option ((Int32 × Int32) ⊕ ((Int32))) :=
  some (.inl (k0, (v6 + 1)))
def X12_inWords_b68 (F : Nat) (o_size : Int32) (o_token : Int32) (o_from : Int32) (o_end : Int32) (o_text : Nat → Int32) (v2 : Int32) (v3 : Int32) (v4 : Int32) (st68 : Int32 × Int32) : Option ((Int32 × Int32) ⊕ ((Int32))) :=
  if v4 ≤ st68.2 then
  some (.inr st68.1)
  else
  if st68.1 = 0 then
  some (.inr st68.1)
  else
  if ix st68.2 (lns.getD 1 0) then
  (X12_byteAt o_size o_text ((o_from + st68.2) - v3)).bind fun u96 =>
  if (strCh 1 st68.2) = u96 then
  X12_inWords_j107 F o_size o_token o_from o_end o_text v2 v3 v4 st68.2 1
  else
  X12_inWords_j107 F o_size o_token o_from o_end o_text v2 v3 v4 st68.2 0
  else none
def X12_inWords_j63 (F : Nat) (o_size : Int32) (o_token : Int32) (o_from : Int32) (o_end : Int32) (o_text : Nat → Int32) (v2 : Int32) (v3 : Int32) (v4 : Int32) (k0 : Int32) : Option ((Int32 × Int32) ⊕ ((Int32) ⊕ (Unit))) :=
  (iter (X12_inWords_b68 F o_size o_token o_from o_end o_text v2 v3 v4) F (k0, v3)).bind (fun (e68 : Int32) =>
    X12_inWords_j115 F o_size o_token o_from o_end o_text v2 v4 e68)
def X12_inWords_b25 (F : Nat) (o_size : Int32) (o_token : Int32) (o_from : Int32) (o_end : Int32) (o_text : Nat → Int32) (v2 : Int32) (v3 : Int32) (st25 : Int32) : Option ((Int32) ⊕ ((Int32))) :=
  if ix st25 (lns.getD 1 0) then
  if (strCh 1 st25) = 32 then
  some (.inr st25)
  else
  some (.inl (st25 + 1))
  else none
def X12_inWords_b14 (F : Nat) (o_size : Int32) (o_token : Int32) (o_from : Int32) (o_end : Int32) (o_text : Nat → Int32) (st14 : Int32 × Int32) : Option ((Int32 × Int32) ⊕ ((Int32) ⊕ (Unit))) :=
  if (strLen 1) ≤ st14.2 then
  some (.inr (.inr (())))
  else
  (iter (X12_inWords_b25 F o_size o_token o_from o_end o_text st14.1 st14.2) F st14.2).bind (fun (e25 : Int32) =>
    if (e25 - st14.2) = (o_end - o_from) then
  X12_inWords_j63 F o_size o_token o_from o_end o_text st14.1 st14.2 e25 1
  else
  X12_inWords_j63 F o_size o_token o_from o_end o_text st14.1 st14.2 e25 0)
def X12_inWords (F : Nat) (o_size : Int32) (o_token : Int32) (o_from : Int32) (o_end : Int32) (o_text : Nat → Int32) : Option (Int32) :=
  if o_token = 2 then
  (iter (X12_inWords_b14 F o_size o_token o_from o_end o_text) F (0, 1)).bind (Sum.elim (fun (e14 : Int32) =>
    some e14) (fun (e14 : Unit) =>
    some (-1)))
  else
  some (-1)
abbrev wd_X12_inWords (E : vE) (a_o a_o_at a_o_names a_o_sort a_o_trayMany a_o_trays a_o_tape a_o_text a_o_opened a_o_farBy a_o_attendsBy a_o_coveredBy a_o_cameBy a_o_cameThen a_o_fallsBy a_o_loops a_o_ran a_o_told1 : Nat) (o_status : Int32) (o_top : Int64) (o_bottom : Int64) (o_taped : Int32) (o_size : Int32) (o_token : Int32) (o_from : Int32) (o_end : Int32) (o_value : Int32) (o_faultKind : Int32) (o_faultPlace : Int32) (o_faults : Int32) (o_seen : Int32) (o_toldParts : Int32) (o_depth : Int32) (o_counted : Int32) (o_becameThen : Int32) (o_firstCorner : Int32) (o_drawn : Int32) (o_ranSteps : Int32) (o_isTold : Int32) (o_marks : Int32) (o_text : Nat → Int32) : va_W := [(a_o, .inr (12, [.ref a_o_at, .ref a_o_names, .int o_status, .long o_top, .long o_bottom, .ref a_o_sort, .ref a_o_trayMany, .ref a_o_trays, .ref a_o_tape, .ref a_o_text, .int o_taped, .int o_size, .int o_token, .int o_from, .int o_end, .int o_value, .int o_faultKind, .int o_faultPlace, .int o_faults, .int o_seen, .int o_toldParts, .ref a_o_opened, .int o_depth, .int o_counted, .ref a_o_farBy, .int o_becameThen, .ref a_o_attendsBy, .ref a_o_coveredBy, .ref a_o_cameBy, .ref a_o_cameThen, .int o_firstCorner, .ref a_o_fallsBy, .int o_drawn, .int o_ranSteps, .ref a_o_loops, .ref a_o_ran, .ref a_o_told1, .int o_isTold, .int o_marks])), (a_o_text, .inl (E.2.2.2.1, 900, .inl o_text))]
set_option maxHeartbeats 4000000 in
set_option maxRecDepth 100000 in
theorem ct_X12_inWords (l : Launch) (E : vE) (F : Nat) (a_o a_o_at a_o_names a_o_sort a_o_trayMany a_o_trays a_o_tape a_o_text a_o_opened a_o_farBy a_o_attendsBy a_o_coveredBy a_o_cameBy a_o_cameThen a_o_fallsBy a_o_loops a_o_ran a_o_told1 : Nat) (o_status : Int32) (o_top : Int64) (o_bottom : Int64) (o_taped : Int32) (o_size : Int32) (o_token : Int32) (o_from : Int32) (o_end : Int32) (o_value : Int32) (o_faultKind : Int32) (o_faultPlace : Int32) (o_faults : Int32) (o_seen : Int32) (o_toldParts : Int32) (o_depth : Int32) (o_counted : Int32) (o_becameThen : Int32) (o_firstCorner : Int32) (o_drawn : Int32) (o_ranSteps : Int32) (o_isTold : Int32) (o_marks : Int32) (o_text : Nat → Int32) (u : Int32) (hf : X12_inWords F o_size o_token o_from o_end o_text = some u) :
    CtI l yX12_inWords cX12_inWords 7 (some .int) 4 E [.ref a_o, .ref (adK E 1)] (wd_X12_inWords E a_o a_o_at a_o_names a_o_sort a_o_trayMany a_o_trays a_o_tape a_o_text a_o_opened a_o_farBy a_o_attendsBy a_o_coveredBy a_o_cameBy a_o_cameThen a_o_fallsBy a_o_loops a_o_ran a_o_told1 o_status o_top o_bottom o_taped o_size o_token o_from o_end o_value o_faultKind o_faultPlace o_faults o_seen o_toldParts o_depth o_counted o_becameThen o_firstCorner o_drawn o_ranSteps o_isTold o_marks o_text) (wd_X12_inWords E a_o a_o_at a_o_names a_o_sort a_o_trayMany a_o_trays a_o_tape a_o_text a_o_opened a_o_farBy a_o_attendsBy a_o_coveredBy a_o_cameBy a_o_cameThen a_o_fallsBy a_o_loops a_o_ran a_o_told1 o_status o_top o_bottom o_taped o_size o_token o_from o_end o_value o_faultKind o_faultPlace o_faults o_seen o_toldParts o_depth o_counted o_becameThen o_firstCorner o_drawn o_ranSteps o_isTold o_marks o_text) u := by
  refine ctI (by decide) (Nat.le_of_ble_eq_true rfl) ?_
  intro p e s m below meth cd A ls aa QQ hq cx hP hD hS hl
  obtain ⟨⟨hx, hb, hml, hown, hts⟩, hr, hlocks, hK, hA, hX⟩ := id cx
  have hl : lv_has ls 7 [(0, .ref a_o), (1, .ref (adK E 1))] := hl
  unfold X12_inWords at hf
  refine lv_aload_n hx hb dX12_inWords_0 rfl (lv_at hl 0 rfl) ?_
  refine va_get (D := E.1) (ci := 12) (v := .int o_token) (C := RX12) (T := TX12) (N := 39) hx hb hts inX12 hown hK hP 0 rfl rfl 12 (by decide) (hts _ fl_X12_130) (fun _ h9 => h9) rfl dX12_inWords_1 ?_
  refine lv_iconst (v := 2) hx hb dX12_inWords_4 (by decide) ?_
  refine lv_icmp_eq (tgt := 10) hx hb dX12_inWords_5 (by decide) (fun hc => ?_) (fun hc => ?_)
  · have hf := it_t hc hf
    refine lv_iconst (v := 0) hx hb dX12_inWords_10 (by decide) ?_
    refine lv_istore_n (lv' := [(2, .int 0), (0, .ref a_o), (1, .ref (adK E 1))]) hx hb dX12_inWords_11 rfl hl (by decide) rfl (fun ls hl => ?_)
    refine lv_iconst (v := 1) hx hb dX12_inWords_12 (by decide) ?_
    refine lv_istore_n (lv' := [(3, .int 1), (2, .int 0), (0, .ref a_o), (1, .ref (adK E 1))]) hx hb dX12_inWords_13 rfl hl (by decide) rfl (fun ls hl => ?_)
    obtain ⟨e14, hit14, hf⟩ := bd hf
    refine iter_W (b := X12_inWords_b14 F o_size o_token o_from o_end o_text) (P := fun st14 => ∀ (H : Heap) (locs : List Loc) (ls : Array Slot), va_P E.1 vwCl (wd_X12_inWords E a_o a_o_at a_o_names a_o_sort a_o_trayMany a_o_trays a_o_tape a_o_text a_o_opened a_o_farBy a_o_attendsBy a_o_coveredBy a_o_cameBy a_o_cameThen a_o_fallsBy a_o_loops a_o_ran a_o_told1 o_status o_top o_bottom o_taped o_size o_token o_from o_end o_value o_faultKind o_faultPlace o_faults o_seen o_toldParts o_depth o_counted o_becameThen o_firstCorner o_drawn o_ranSteps o_isTold o_marks o_text) H → va_D A (wd_X12_inWords E a_o a_o_at a_o_names a_o_sort a_o_trayMany a_o_trays a_o_tape a_o_text a_o_opened a_o_farBy a_o_attendsBy a_o_coveredBy a_o_cameBy a_o_cameThen a_o_fallsBy a_o_loops a_o_ran a_o_told1 o_status o_top o_bottom o_taped o_size o_token o_from o_end o_value o_faultKind o_faultPlace o_faults o_seen o_toldParts o_depth o_counted o_becameThen o_firstCorner o_drawn o_ranSteps o_isTold o_marks o_text) → va_S A s.heap H locs → lv_has ls 7 [(0, .ref a_o), (1, .ref (adK E 1)), (2, .int st14.1), (3, .int st14.2)] → W p l e (rmd 4) s m aa below meth cd H locs 0 0 QQ (F0 m 14 ls [])) (G := (Sum.elim (fun (e14 : Int32) => ∀ (H : Heap) (locs : List Loc) (ls : Array Slot), va_P E.1 vwCl (wd_X12_inWords E a_o a_o_at a_o_names a_o_sort a_o_trayMany a_o_trays a_o_tape a_o_text a_o_opened a_o_farBy a_o_attendsBy a_o_coveredBy a_o_cameBy a_o_cameThen a_o_fallsBy a_o_loops a_o_ran a_o_told1 o_status o_top o_bottom o_taped o_size o_token o_from o_end o_value o_faultKind o_faultPlace o_faults o_seen o_toldParts o_depth o_counted o_becameThen o_firstCorner o_drawn o_ranSteps o_isTold o_marks o_text) H → va_D A (wd_X12_inWords E a_o a_o_at a_o_names a_o_sort a_o_trayMany a_o_trays a_o_tape a_o_text a_o_opened a_o_farBy a_o_attendsBy a_o_coveredBy a_o_cameBy a_o_cameThen a_o_fallsBy a_o_loops a_o_ran a_o_told1 o_status o_top o_bottom o_taped o_size o_token o_from o_end o_value o_faultKind o_faultPlace o_faults o_seen o_toldParts o_depth o_counted o_becameThen o_firstCorner o_drawn o_ranSteps o_isTold o_marks o_text) → va_S A s.heap H locs → lv_has ls 7 [(2, .int e14)] → W p l e (rmd 4) s m aa below meth cd H locs 0 0 QQ (F0 m 120 ls [])) (fun (e14 : Unit) => ∀ (H : Heap) (locs : List Loc) (ls : Array Slot), va_P E.1 vwCl (wd_X12_inWords E a_o a_o_at a_o_names a_o_sort a_o_trayMany a_o_trays a_o_tape a_o_text a_o_opened a_o_farBy a_o_attendsBy a_o_coveredBy a_o_cameBy a_o_cameThen a_o_fallsBy a_o_loops a_o_ran a_o_told1 o_status o_top o_bottom o_taped o_size o_token o_from o_end o_value o_faultKind o_faultPlace o_faults o_seen o_toldParts o_depth o_counted o_becameThen o_firstCorner o_drawn o_ranSteps o_isTold o_marks o_text) H → va_D A (wd_X12_inWords E a_o a_o_at a_o_names a_o_sort a_o_trayMany a_o_trays a_o_tape a_o_text a_o_opened a_o_farBy a_o_attendsBy a_o_coveredBy a_o_cameBy a_o_cameThen a_o_fallsBy a_o_loops a_o_ran a_o_told1 o_status o_top o_bottom o_taped o_size o_token o_from o_end o_value o_faultKind o_faultPlace o_faults o_seen o_toldParts o_depth o_counted o_becameThen o_firstCorner o_drawn o_ranSteps o_isTold o_marks o_text) → va_S A s.heap H locs → lv_has ls 7 [] → W p l e (rmd 4) s m aa below meth cd H locs 0 0 QQ (F0 m 133 ls [])))) ?_ F (0, 1) e14 hit14 ?_ _ _ _ hP hD hS (lv_sub hl [2, 3, 1, 0] rfl)
    · intro st14 r14 hf hk14 he14 H locs ls hP hD hS hl
      have hj115 : ∀ (v2_j115 : Int32) (v4_j115 : Int32) (v5_j115 : Int32) (H : Heap) (locs : List Loc) (ls : Array Slot), X12_inWords_j115 F o_size o_token o_from o_end o_text v2_j115 v4_j115 v5_j115 = some r14 → va_P E.1 vwCl (wd_X12_inWords E a_o a_o_at a_o_names a_o_sort a_o_trayMany a_o_trays a_o_tape a_o_text a_o_opened a_o_farBy a_o_attendsBy a_o_coveredBy a_o_cameBy a_o_cameThen a_o_fallsBy a_o_loops a_o_ran a_o_told1 o_status o_top o_bottom o_taped o_size o_token o_from o_end o_value o_faultKind o_faultPlace o_faults o_seen o_toldParts o_depth o_counted o_becameThen o_firstCorner o_drawn o_ranSteps o_isTold o_marks o_text) H → va_D A (wd_X12_inWords E a_o a_o_at a_o_names a_o_sort a_o_trayMany a_o_trays a_o_tape a_o_text a_o_opened a_o_farBy a_o_attendsBy a_o_coveredBy a_o_cameBy a_o_cameThen a_o_fallsBy a_o_loops a_o_ran a_o_told1 o_status o_top o_bottom o_taped o_size o_token o_from o_end o_value o_faultKind o_faultPlace o_faults o_seen o_toldParts o_depth o_counted o_becameThen o_firstCorner o_drawn o_ranSteps o_isTold o_marks o_text) → va_S A s.heap H locs → lv_has ls 7 [(0, .ref a_o), (1, .ref (adK E 1)), (2, .int v2_j115), (4, .int v4_j115), (5, .int v5_j115)] → W p l e (rmd 4) s m aa below meth cd H locs 0 0 QQ (F0 m 115 ls []) := by
        intro v2_j115 v4_j115 v5_j115 H locs ls hf hP hD hS hl
        unfold X12_inWords_j115 at hf
        refine lv_iload hx hb dX12_inWords_115 (lv_at hl 4 rfl) ?_
        refine lv_if_eq (tgt := 122) hx hb dX12_inWords_117 (by decide) (fun hc => ?_) (fun hc => ?_)
        · have hf := it_t hc hf
          refine lv_iinc (v := (v2_j115 + 1)) (lv' := [(2, .int (v2_j115 + 1)), (0, .ref a_o), (1, .ref (adK E 1)), (4, .int v4_j115), (5, .int v5_j115)]) hx hb dX12_inWords_122 hl (k := 2) rfl rfl (by decide) rfl (fun ls hl => ?_)
          refine lv_iload hx hb dX12_inWords_125 (lv_at hl 3 rfl) ?_
          refine lv_iconst (v := 1) hx hb dX12_inWords_127 (by decide) ?_
          refine lv_iadd hx hb dX12_inWords_128 ?_
          refine lv_istore_n (lv' := [(3, .int (v4_j115 + 1)), (2, .int (v2_j115 + 1)), (0, .ref a_o), (1, .ref (adK E 1)), (4, .int v4_j115), (5, .int v5_j115)]) hx hb dX12_inWords_129 rfl hl (by decide) rfl (fun ls hl => ?_)
          refine lv_goto (tgt := 14) hx hb dX12_inWords_130 (by decide) ?_
          exact hk14 _ (Option.some.inj hf).symm _ _ _ hP hD hS (lv_sub hl [2, 3, 1, 0] rfl)
        · have hf := it_f hc hf
          exact he14 _ (Option.some.inj hf).symm _ _ _ hP hD hS (lv_sub hl [2] rfl)
      have hj63 : ∀ (v2_j63 : Int32) (v3_j63 : Int32) (v4_j63 : Int32) (k0_j63 : Int32) (H : Heap) (locs : List Loc) (ls : Array Slot), X12_inWords_j63 F o_size o_token o_from o_end o_text v2_j63 v3_j63 v4_j63 k0_j63 = some r14 → va_P E.1 vwCl (wd_X12_inWords E a_o a_o_at a_o_names a_o_sort a_o_trayMany a_o_trays a_o_tape a_o_text a_o_opened a_o_farBy a_o_attendsBy a_o_coveredBy a_o_cameBy a_o_cameThen a_o_fallsBy a_o_loops a_o_ran a_o_told1 o_status o_top o_bottom o_taped o_size o_token o_from o_end o_value o_faultKind o_faultPlace o_faults o_seen o_toldParts o_depth o_counted o_becameThen o_firstCorner o_drawn o_ranSteps o_isTold o_marks o_text) H → va_D A (wd_X12_inWords E a_o a_o_at a_o_names a_o_sort a_o_trayMany a_o_trays a_o_tape a_o_text a_o_opened a_o_farBy a_o_attendsBy a_o_coveredBy a_o_cameBy a_o_cameThen a_o_fallsBy a_o_loops a_o_ran a_o_told1 o_status o_top o_bottom o_taped o_size o_token o_from o_end o_value o_faultKind o_faultPlace o_faults o_seen o_toldParts o_depth o_counted o_becameThen o_firstCorner o_drawn o_ranSteps o_isTold o_marks o_text) → va_S A s.heap H locs → lv_has ls 7 [(0, .ref a_o), (1, .ref (adK E 1)), (2, .int v2_j63), (3, .int v3_j63), (4, .int v4_j63)] → W p l e (rmd 4) s m aa below meth cd H locs 0 0 QQ (F0 m 63 ls [.int k0_j63]) := by
        intro v2_j63 v3_j63 v4_j63 k0_j63 H locs ls hf hP hD hS hl
        unfold X12_inWords_j63 at hf
        refine lv_istore (lv' := [(5, .int k0_j63), (0, .ref a_o), (1, .ref (adK E 1)), (2, .int v2_j63), (3, .int v3_j63), (4, .int v4_j63)]) hx hb dX12_inWords_63 hl (by decide) rfl (fun ls hl => ?_)
        refine lv_iload_n hx hb dX12_inWords_65 rfl (lv_at hl 4 rfl) ?_
        refine lv_istore (lv' := [(6, .int v3_j63), (5, .int k0_j63), (0, .ref a_o), (1, .ref (adK E 1)), (2, .int v2_j63), (3, .int v3_j63), (4, .int v4_j63)]) hx hb dX12_inWords_66 hl (by decide) rfl (fun ls hl => ?_)
        obtain ⟨e68, hit68, hf⟩ := bd hf
        refine iter_W (b := X12_inWords_b68 F o_size o_token o_from o_end o_text v2_j63 v3_j63 v4_j63) (P := fun st68 => ∀ (H : Heap) (locs : List Loc) (ls : Array Slot), va_P E.1 vwCl (wd_X12_inWords E a_o a_o_at a_o_names a_o_sort a_o_trayMany a_o_trays a_o_tape a_o_text a_o_opened a_o_farBy a_o_attendsBy a_o_coveredBy a_o_cameBy a_o_cameThen a_o_fallsBy a_o_loops a_o_ran a_o_told1 o_status o_top o_bottom o_taped o_size o_token o_from o_end o_value o_faultKind o_faultPlace o_faults o_seen o_toldParts o_depth o_counted o_becameThen o_firstCorner o_drawn o_ranSteps o_isTold o_marks o_text) H → va_D A (wd_X12_inWords E a_o a_o_at a_o_names a_o_sort a_o_trayMany a_o_trays a_o_tape a_o_text a_o_opened a_o_farBy a_o_attendsBy a_o_coveredBy a_o_cameBy a_o_cameThen a_o_fallsBy a_o_loops a_o_ran a_o_told1 o_status o_top o_bottom o_taped o_size o_token o_from o_end o_value o_faultKind o_faultPlace o_faults o_seen o_toldParts o_depth o_counted o_becameThen o_firstCorner o_drawn o_ranSteps o_isTold o_marks o_text) → va_S A s.heap H locs → lv_has ls 7 [(0, .ref a_o), (1, .ref (adK E 1)), (2, .int v2_j63), (3, .int v3_j63), (4, .int v4_j63), (5, .int st68.1), (6, .int st68.2)] → W p l e (rmd 4) s m aa below meth cd H locs 0 0 QQ (F0 m 68 ls [])) (G := (fun (e68 : Int32) => ∀ (H : Heap) (locs : List Loc) (ls : Array Slot), va_P E.1 vwCl (wd_X12_inWords E a_o a_o_at a_o_names a_o_sort a_o_trayMany a_o_trays a_o_tape a_o_text a_o_opened a_o_farBy a_o_attendsBy a_o_coveredBy a_o_cameBy a_o_cameThen a_o_fallsBy a_o_loops a_o_ran a_o_told1 o_status o_top o_bottom o_taped o_size o_token o_from o_end o_value o_faultKind o_faultPlace o_faults o_seen o_toldParts o_depth o_counted o_becameThen o_firstCorner o_drawn o_ranSteps o_isTold o_marks o_text) H → va_D A (wd_X12_inWords E a_o a_o_at a_o_names a_o_sort a_o_trayMany a_o_trays a_o_tape a_o_text a_o_opened a_o_farBy a_o_attendsBy a_o_coveredBy a_o_cameBy a_o_cameThen a_o_fallsBy a_o_loops a_o_ran a_o_told1 o_status o_top o_bottom o_taped o_size o_token o_from o_end o_value o_faultKind o_faultPlace o_faults o_seen o_toldParts o_depth o_counted o_becameThen o_firstCorner o_drawn o_ranSteps o_isTold o_marks o_text) → va_S A s.heap H locs → lv_has ls 7 [(0, .ref a_o), (1, .ref (adK E 1)), (2, .int v2_j63), (4, .int v4_j63), (5, .int e68)] → W p l e (rmd 4) s m aa below meth cd H locs 0 0 QQ (F0 m 115 ls []))) ?_ F (k0_j63, v3_j63) e68 hit68 ?_ _ _ _ hP hD hS (lv_sub hl [2, 3, 4, 5, 6, 1, 0] rfl)
        · intro st68 r68 hf hk68 he68 H locs ls hP hD hS hl
          have hj107 : ∀ (v6_j107 : Int32) (k0_j107 : Int32) (H : Heap) (locs : List Loc) (ls : Array Slot), X12_inWords_j107 F o_size o_token o_from o_end o_text v2_j63 v3_j63 v4_j63 v6_j107 k0_j107 = some r68 → va_P E.1 vwCl (wd_X12_inWords E a_o a_o_at a_o_names a_o_sort a_o_trayMany a_o_trays a_o_tape a_o_text a_o_opened a_o_farBy a_o_attendsBy a_o_coveredBy a_o_cameBy a_o_cameThen a_o_fallsBy a_o_loops a_o_ran a_o_told1 o_status o_top o_bottom o_taped o_size o_token o_from o_end o_value o_faultKind o_faultPlace o_faults o_seen o_toldParts o_depth o_counted o_becameThen o_firstCorner o_drawn o_ranSteps o_isTold o_marks o_text) H → va_D A (wd_X12_inWords E a_o a_o_at a_o_names a_o_sort a_o_trayMany a_o_trays a_o_tape a_o_text a_o_opened a_o_farBy a_o_attendsBy a_o_coveredBy a_o_cameBy a_o_cameThen a_o_fallsBy a_o_loops a_o_ran a_o_told1 o_status o_top o_bottom o_taped o_size o_token o_from o_end o_value o_faultKind o_faultPlace o_faults o_seen o_toldParts o_depth o_counted o_becameThen o_firstCorner o_drawn o_ranSteps o_isTold o_marks o_text) → va_S A s.heap H locs → lv_has ls 7 [(0, .ref a_o), (1, .ref (adK E 1)), (2, .int v2_j63), (3, .int v3_j63), (4, .int v4_j63), (6, .int v6_j107)] → W p l e (rmd 4) s m aa below meth cd H locs 0 0 QQ (F0 m 107 ls [.int k0_j107]) := by
            intro v6_j107 k0_j107 H locs ls hf hP hD hS hl
            unfold X12_inWords_j107 at hf
            refine lv_istore (lv' := [(5, .int k0_j107), (0, .ref a_o), (1, .ref (adK E 1)), (2, .int v2_j63), (3, .int v3_j63), (4, .int v4_j63), (6, .int v6_j107)]) hx hb dX12_inWords_107 hl (by decide) rfl (fun ls hl => ?_)
            refine lv_iinc (v := (v6_j107 + 1)) (lv' := [(6, .int (v6_j107 + 1)), (5, .int k0_j107), (0, .ref a_o), (1, .ref (adK E 1)), (2, .int v2_j63), (3, .int v3_j63), (4, .int v4_j63)]) hx hb dX12_inWords_109 hl (k := 6) rfl rfl (by decide) rfl (fun ls hl => ?_)
            refine lv_goto (tgt := 68) hx hb dX12_inWords_112 (by decide) ?_
            exact hk68 _ (Option.some.inj hf).symm _ _ _ hP hD hS (lv_sub hl [2, 3, 4, 5, 6, 1, 0] rfl)
          unfold X12_inWords_b68 at hf
          refine lv_iload hx hb dX12_inWords_68 (lv_at hl 6 rfl) ?_
          refine lv_iload hx hb dX12_inWords_70 (lv_at hl 4 rfl) ?_
          refine lv_icmp_ge (tgt := 115) hx hb dX12_inWords_72 (by decide) (fun hc => ?_) (fun hc => ?_)
          · have hf := it_t hc hf
            exact he68 _ (Option.some.inj hf).symm _ _ _ hP hD hS (lv_sub hl [0, 1, 2, 4, 5] rfl)
          · have hf := it_f hc hf
            refine lv_iload hx hb dX12_inWords_75 (lv_at hl 5 rfl) ?_
            refine lv_if_eq (tgt := 115) hx hb dX12_inWords_77 (by decide) (fun hc => ?_) (fun hc => ?_)
            · have hf := it_t hc hf
              exact he68 _ (Option.some.inj hf).symm _ _ _ hP hD hS (lv_sub hl [0, 1, 2, 4, 5] rfl)
            · have hf := it_f hc hf
              refine lv_aload_n hx hb dX12_inWords_80 rfl (lv_at hl 1 rfl) ?_
              refine lv_iload hx hb dX12_inWords_81 (lv_at hl 6 rfl) ?_
              obtain ⟨hi, hf⟩ := ck hf
              refine keepXI (As := [.int st68.2]) (cs_charAt l E 1 (by decide) st68.2 hi) [] cal_J0_charAt_5068e cav_J0_charAt_5068e lk_X12_151 cx hP hD hS hl dX12_inWords_83 (vk_recv hX.1 (by decide) hS) rfl rfl (Nat.le_of_ble_eq_true rfl) ⟨Nat.le_of_ble_eq_true rfl, Nat.le_of_ble_eq_true rfl⟩ rfl (by decide) (fun H locs hP hS => ?_)
              refine lv_aload_n hx hb dX12_inWords_86 rfl (lv_at hl 0 rfl) ?_
              refine lv_aload_n hx hb dX12_inWords_87 rfl (lv_at hl 0 rfl) ?_
              refine va_get (D := E.1) (ci := 12) (v := .int o_from) (C := RX12) (T := TX12) (N := 39) hx hb hts inX12 hown hK hP 0 rfl rfl 13 (by decide) (hts _ fl_X12_124) (fun _ h9 => h9) rfl dX12_inWords_88 ?_
              refine lv_iload hx hb dX12_inWords_91 (lv_at hl 6 rfl) ?_
              refine lv_iadd hx hb dX12_inWords_93 ?_
              refine lv_iload_n hx hb dX12_inWords_94 rfl (lv_at hl 3 rfl) ?_
              refine lv_isub hx hb dX12_inWords_95 ?_
              obtain ⟨u96, hu96, hf⟩ := bd hf
              refine keepVI (ct_X12_byteAt l E a_o a_o_at a_o_names a_o_sort a_o_trayMany a_o_trays a_o_tape a_o_text a_o_opened a_o_farBy a_o_attendsBy a_o_coveredBy a_o_cameBy a_o_cameThen a_o_fallsBy a_o_loops a_o_ran a_o_told1 o_status o_top o_bottom o_taped o_size o_token o_from o_end o_value o_faultKind o_faultPlace o_faults o_seen o_toldParts o_depth o_counted o_becameThen o_firstCorner o_drawn o_ranSteps o_isTold o_marks o_text ((o_from + st68.2) - v3_j63) u96 hu96) [0, 1] cal_X12_byteAt cav_X12_byteAt lk_X12_121 cx hP hD hS hl dX12_inWords_96 rfl rfl rfl rfl (Nat.le_of_ble_eq_true rfl) ⟨Nat.le_of_ble_eq_true rfl, Nat.le_of_ble_eq_true rfl⟩ rfl (by decide) (fun H locs hP hS => ?_)
              refine lv_icmp_ne (tgt := 106) hx hb dX12_inWords_99 (by decide) (fun hc => ?_) (fun hc => ?_)
              · have hf := it_f hc hf
                refine lv_iconst (v := 0) hx hb dX12_inWords_106 (by decide) ?_
                exact hj107 _ _ _ _ _ hf hP hD hS (lv_sub hl [0, 1, 2, 3, 4, 6] rfl)
              · have hf := it_t hc hf
                refine lv_iconst (v := 1) hx hb dX12_inWords_102 (by decide) ?_
                refine lv_goto (tgt := 107) hx hb dX12_inWords_103 (by decide) ?_
                exact hj107 _ _ _ _ _ hf hP hD hS (lv_sub hl [0, 1, 2, 3, 4, 6] rfl)
        · refine fun H locs ls hP hD hS hl => ?_
          exact hj115 _ _ _ _ _ _ hf hP hD hS (lv_sub hl [0, 1, 2, 3, 4] rfl)
      unfold X12_inWords_b14 at hf
      refine lv_iload_n hx hb dX12_inWords_14 rfl (lv_at hl 3 rfl) ?_
      refine lv_aload_n hx hb dX12_inWords_15 rfl (lv_at hl 1 rfl) ?_
      refine keepXI (As := []) (cs_length l E 1 (by decide)) [] cal_J0_length_8abf5 cav_J0_length_8abf5 lk_X12_145 cx hP hD hS hl dX12_inWords_16 (vk_recv hX.1 (by decide) hS) rfl rfl (Nat.le_of_ble_eq_true rfl) ⟨Nat.le_of_ble_eq_true rfl, Nat.le_of_ble_eq_true rfl⟩ rfl (by decide) (fun H locs hP hS => ?_)
      refine lv_icmp_ge (tgt := 133) hx hb dX12_inWords_19 (by decide) (fun hc => ?_) (fun hc => ?_)
      · have hf := it_t hc hf
        exact he14 _ (Option.some.inj hf).symm _ _ _ hP hD hS (lv_sub hl [] rfl)
      · have hf := it_f hc hf
        refine lv_iload_n hx hb dX12_inWords_22 rfl (lv_at hl 3 rfl) ?_
        refine lv_istore (lv' := [(4, .int st14.2), (0, .ref a_o), (1, .ref (adK E 1)), (2, .int st14.1), (3, .int st14.2)]) hx hb dX12_inWords_23 hl (by decide) rfl (fun ls hl => ?_)
        obtain ⟨e25, hit25, hf⟩ := bd hf
        refine iter_W (b := X12_inWords_b25 F o_size o_token o_from o_end o_text st14.1 st14.2) (P := fun st25 => ∀ (H : Heap) (locs : List Loc) (ls : Array Slot), va_P E.1 vwCl (wd_X12_inWords E a_o a_o_at a_o_names a_o_sort a_o_trayMany a_o_trays a_o_tape a_o_text a_o_opened a_o_farBy a_o_attendsBy a_o_coveredBy a_o_cameBy a_o_cameThen a_o_fallsBy a_o_loops a_o_ran a_o_told1 o_status o_top o_bottom o_taped o_size o_token o_from o_end o_value o_faultKind o_faultPlace o_faults o_seen o_toldParts o_depth o_counted o_becameThen o_firstCorner o_drawn o_ranSteps o_isTold o_marks o_text) H → va_D A (wd_X12_inWords E a_o a_o_at a_o_names a_o_sort a_o_trayMany a_o_trays a_o_tape a_o_text a_o_opened a_o_farBy a_o_attendsBy a_o_coveredBy a_o_cameBy a_o_cameThen a_o_fallsBy a_o_loops a_o_ran a_o_told1 o_status o_top o_bottom o_taped o_size o_token o_from o_end o_value o_faultKind o_faultPlace o_faults o_seen o_toldParts o_depth o_counted o_becameThen o_firstCorner o_drawn o_ranSteps o_isTold o_marks o_text) → va_S A s.heap H locs → lv_has ls 7 [(0, .ref a_o), (1, .ref (adK E 1)), (2, .int st14.1), (3, .int st14.2), (4, .int st25)] → W p l e (rmd 4) s m aa below meth cd H locs 0 0 QQ (F0 m 25 ls [])) (G := (fun (e25 : Int32) => ∀ (H : Heap) (locs : List Loc) (ls : Array Slot), va_P E.1 vwCl (wd_X12_inWords E a_o a_o_at a_o_names a_o_sort a_o_trayMany a_o_trays a_o_tape a_o_text a_o_opened a_o_farBy a_o_attendsBy a_o_coveredBy a_o_cameBy a_o_cameThen a_o_fallsBy a_o_loops a_o_ran a_o_told1 o_status o_top o_bottom o_taped o_size o_token o_from o_end o_value o_faultKind o_faultPlace o_faults o_seen o_toldParts o_depth o_counted o_becameThen o_firstCorner o_drawn o_ranSteps o_isTold o_marks o_text) H → va_D A (wd_X12_inWords E a_o a_o_at a_o_names a_o_sort a_o_trayMany a_o_trays a_o_tape a_o_text a_o_opened a_o_farBy a_o_attendsBy a_o_coveredBy a_o_cameBy a_o_cameThen a_o_fallsBy a_o_loops a_o_ran a_o_told1 o_status o_top o_bottom o_taped o_size o_token o_from o_end o_value o_faultKind o_faultPlace o_faults o_seen o_toldParts o_depth o_counted o_becameThen o_firstCorner o_drawn o_ranSteps o_isTold o_marks o_text) → va_S A s.heap H locs → lv_has ls 7 [(0, .ref a_o), (1, .ref (adK E 1)), (2, .int st14.1), (3, .int st14.2), (4, .int e25)] → W p l e (rmd 4) s m aa below meth cd H locs 0 0 QQ (F0 m 42 ls []))) ?_ F st14.2 e25 hit25 ?_ _ _ _ hP hD hS (lv_sub hl [1, 2, 3, 4, 0] rfl)
        · intro st25 r25 hf hk25 he25 H locs ls hP hD hS hl
          unfold X12_inWords_b25 at hf
          refine lv_aload_n hx hb dX12_inWords_25 rfl (lv_at hl 1 rfl) ?_
          refine lv_iload hx hb dX12_inWords_26 (lv_at hl 4 rfl) ?_
          obtain ⟨hi, hf⟩ := ck hf
          refine keepXI (As := [.int st25]) (cs_charAt l E 1 (by decide) st25 hi) [] cal_J0_charAt_5068e cav_J0_charAt_5068e lk_X12_151 cx hP hD hS hl dX12_inWords_28 (vk_recv hX.1 (by decide) hS) rfl rfl (Nat.le_of_ble_eq_true rfl) ⟨Nat.le_of_ble_eq_true rfl, Nat.le_of_ble_eq_true rfl⟩ rfl (by decide) (fun H locs hP hS => ?_)
          refine lv_bipush (v := 32) hx hb dX12_inWords_31 (by decide) ?_
          refine lv_icmp_eq (tgt := 42) hx hb dX12_inWords_33 (by decide) (fun hc => ?_) (fun hc => ?_)
          · have hf := it_t hc hf
            exact he25 _ (Option.some.inj hf).symm _ _ _ hP hD hS (lv_sub hl [0, 1, 2, 3, 4] rfl)
          · have hf := it_f hc hf
            refine lv_iinc (v := (st25 + 1)) (lv' := [(4, .int (st25 + 1)), (0, .ref a_o), (1, .ref (adK E 1)), (2, .int st14.1), (3, .int st14.2)]) hx hb dX12_inWords_36 hl (k := 4) rfl rfl (by decide) rfl (fun ls hl => ?_)
            refine lv_goto (tgt := 25) hx hb dX12_inWords_39 (by decide) ?_
            exact hk25 _ (Option.some.inj hf).symm _ _ _ hP hD hS (lv_sub hl [1, 2, 3, 4, 0] rfl)
        · refine fun H locs ls hP hD hS hl => ?_
          refine lv_iload hx hb dX12_inWords_42 (lv_at hl 4 rfl) ?_
          refine lv_iload_n hx hb dX12_inWords_44 rfl (lv_at hl 3 rfl) ?_
          refine lv_isub hx hb dX12_inWords_45 ?_
          refine lv_aload_n hx hb dX12_inWords_46 rfl (lv_at hl 0 rfl) ?_
          refine va_get (D := E.1) (ci := 12) (v := .int o_end) (C := RX12) (T := TX12) (N := 39) hx hb hts inX12 hown hK hP 0 rfl rfl 14 (by decide) (hts _ fl_X12_118) (fun _ h9 => h9) rfl dX12_inWords_47 ?_
          refine lv_aload_n hx hb dX12_inWords_50 rfl (lv_at hl 0 rfl) ?_
          refine va_get (D := E.1) (ci := 12) (v := .int o_from) (C := RX12) (T := TX12) (N := 39) hx hb hts inX12 hown hK hP 0 rfl rfl 13 (by decide) (hts _ fl_X12_124) (fun _ h9 => h9) rfl dX12_inWords_51 ?_
          refine lv_isub hx hb dX12_inWords_54 ?_
          refine lv_icmp_ne (tgt := 62) hx hb dX12_inWords_55 (by decide) (fun hc => ?_) (fun hc => ?_)
          · have hf := it_f hc hf
            refine lv_iconst (v := 0) hx hb dX12_inWords_62 (by decide) ?_
            exact hj63 _ _ _ _ _ _ _ hf hP hD hS (lv_sub hl [0, 1, 2, 3, 4] rfl)
          · have hf := it_t hc hf
            refine lv_iconst (v := 1) hx hb dX12_inWords_58 (by decide) ?_
            refine lv_goto (tgt := 63) hx hb dX12_inWords_59 (by decide) ?_
            exact hj63 _ _ _ _ _ _ _ hf hP hD hS (lv_sub hl [0, 1, 2, 3, 4] rfl)
    · rcases e14 with e14 | e14
      · have hf := se_l hf
        refine fun H locs ls hP hD hS hl => ?_
        refine lv_iload_n hx hb dX12_inWords_120 rfl (lv_at hl 0 rfl) ?_
        obtain rfl := Option.some.inj hf
        subst hq
        exact retI cx hP hD hS dX12_inWords_121
      · have hf := se_r hf
        refine fun H locs ls hP hD hS hl => ?_
        refine lv_iconst (v := (-1)) hx hb dX12_inWords_133 (by decide) ?_
        obtain rfl := Option.some.inj hf
        subst hq
        exact retI cx hP hD hS dX12_inWords_134
  · have hf := it_f hc hf
    refine lv_iconst (v := (-1)) hx hb dX12_inWords_8 (by decide) ?_
    obtain rfl := Option.some.inj hf
    subst hq
    exact retI cx hP hD hS dX12_inWords_9
def X12_fails_j21 (o_token : Int32) (o_from : Int32) (o_faultPlace : Int32) (o_faults : Int32) (k0 : Int32) : Option (Int32 × Int32 × Int32) :=
  some (0, o_from, k0)
def X12_fails (o_token : Int32) (o_from : Int32) (o_faultPlace : Int32) (o_faults : Int32) (v1 : Int32) : Option (Int32 × Int32 × Int32) :=
  if o_faults = 0 then
  if o_token = 1 then
  X12_fails_j21 o_token o_from o_faultPlace o_faults 1
  else
  X12_fails_j21 o_token o_from o_faultPlace o_faults v1
  else
  some (0, o_faultPlace, o_faults)
abbrev wd_X12_fails (E : vE) (a_o a_o_at a_o_names a_o_sort a_o_trayMany a_o_trays a_o_tape a_o_text a_o_opened a_o_farBy a_o_attendsBy a_o_coveredBy a_o_cameBy a_o_cameThen a_o_fallsBy a_o_loops a_o_ran a_o_told1 : Nat) (o_status : Int32) (o_top : Int64) (o_bottom : Int64) (o_taped : Int32) (o_size : Int32) (o_token : Int32) (o_from : Int32) (o_end : Int32) (o_value : Int32) (o_faultKind : Int32) (o_faultPlace : Int32) (o_faults : Int32) (o_seen : Int32) (o_toldParts : Int32) (o_depth : Int32) (o_counted : Int32) (o_becameThen : Int32) (o_firstCorner : Int32) (o_drawn : Int32) (o_ranSteps : Int32) (o_isTold : Int32) (o_marks : Int32) : va_W := [(a_o, .inr (12, [.ref a_o_at, .ref a_o_names, .int o_status, .long o_top, .long o_bottom, .ref a_o_sort, .ref a_o_trayMany, .ref a_o_trays, .ref a_o_tape, .ref a_o_text, .int o_taped, .int o_size, .int o_token, .int o_from, .int o_end, .int o_value, .int o_faultKind, .int o_faultPlace, .int o_faults, .int o_seen, .int o_toldParts, .ref a_o_opened, .int o_depth, .int o_counted, .ref a_o_farBy, .int o_becameThen, .ref a_o_attendsBy, .ref a_o_coveredBy, .ref a_o_cameBy, .ref a_o_cameThen, .int o_firstCorner, .ref a_o_fallsBy, .int o_drawn, .int o_ranSteps, .ref a_o_loops, .ref a_o_ran, .ref a_o_told1, .int o_isTold, .int o_marks]))]
set_option maxHeartbeats 4000000 in
set_option maxRecDepth 100000 in
theorem ct_X12_fails (l : Launch) (E : vE) (a_o a_o_at a_o_names a_o_sort a_o_trayMany a_o_trays a_o_tape a_o_text a_o_opened a_o_farBy a_o_attendsBy a_o_coveredBy a_o_cameBy a_o_cameThen a_o_fallsBy a_o_loops a_o_ran a_o_told1 : Nat) (o_status : Int32) (o_top : Int64) (o_bottom : Int64) (o_taped : Int32) (o_size : Int32) (o_token : Int32) (o_from : Int32) (o_end : Int32) (o_value : Int32) (o_faultKind : Int32) (o_faultPlace : Int32) (o_faults : Int32) (o_seen : Int32) (o_toldParts : Int32) (o_depth : Int32) (o_counted : Int32) (o_becameThen : Int32) (o_firstCorner : Int32) (o_drawn : Int32) (o_ranSteps : Int32) (o_isTold : Int32) (o_marks : Int32) (v1 : Int32) (u : Int32 × Int32 × Int32) (hf : X12_fails o_token o_from o_faultPlace o_faults v1 = some u) :
    CtI l yX12_fails cX12_fails 2 (some .boolean) 0 E [.ref a_o, .int v1] (wd_X12_fails E a_o a_o_at a_o_names a_o_sort a_o_trayMany a_o_trays a_o_tape a_o_text a_o_opened a_o_farBy a_o_attendsBy a_o_coveredBy a_o_cameBy a_o_cameThen a_o_fallsBy a_o_loops a_o_ran a_o_told1 o_status o_top o_bottom o_taped o_size o_token o_from o_end o_value o_faultKind o_faultPlace o_faults o_seen o_toldParts o_depth o_counted o_becameThen o_firstCorner o_drawn o_ranSteps o_isTold o_marks) (wd_X12_fails E a_o a_o_at a_o_names a_o_sort a_o_trayMany a_o_trays a_o_tape a_o_text a_o_opened a_o_farBy a_o_attendsBy a_o_coveredBy a_o_cameBy a_o_cameThen a_o_fallsBy a_o_loops a_o_ran a_o_told1 o_status o_top o_bottom o_taped o_size o_token o_from o_end o_value o_faultKind u.2.1 u.2.2 o_seen o_toldParts o_depth o_counted o_becameThen o_firstCorner o_drawn o_ranSteps o_isTold o_marks) u.1 := by
  refine ctI (by decide) (Nat.le_of_ble_eq_true rfl) ?_
  intro p e s m below meth cd A ls aa QQ hq cx hP hD hS hl
  obtain ⟨⟨hx, hb, hml, hown, hts⟩, hr, hlocks, hK, hA, hX⟩ := id cx
  have hl : lv_has ls 2 [(0, .ref a_o), (1, .int v1)] := hl
  have hj21 : ∀ (o_faultPlace_j21 : Int32) (o_faults_j21 : Int32) (k0_j21 : Int32) (H : Heap) (locs : List Loc) (ls : Array Slot), X12_fails_j21 o_token o_from o_faultPlace_j21 o_faults_j21 k0_j21 = some u → va_P E.1 vwCl (wd_X12_fails E a_o a_o_at a_o_names a_o_sort a_o_trayMany a_o_trays a_o_tape a_o_text a_o_opened a_o_farBy a_o_attendsBy a_o_coveredBy a_o_cameBy a_o_cameThen a_o_fallsBy a_o_loops a_o_ran a_o_told1 o_status o_top o_bottom o_taped o_size o_token o_from o_end o_value o_faultKind o_faultPlace_j21 o_faults_j21 o_seen o_toldParts o_depth o_counted o_becameThen o_firstCorner o_drawn o_ranSteps o_isTold o_marks) H → va_D A (wd_X12_fails E a_o a_o_at a_o_names a_o_sort a_o_trayMany a_o_trays a_o_tape a_o_text a_o_opened a_o_farBy a_o_attendsBy a_o_coveredBy a_o_cameBy a_o_cameThen a_o_fallsBy a_o_loops a_o_ran a_o_told1 o_status o_top o_bottom o_taped o_size o_token o_from o_end o_value o_faultKind o_faultPlace_j21 o_faults_j21 o_seen o_toldParts o_depth o_counted o_becameThen o_firstCorner o_drawn o_ranSteps o_isTold o_marks) → va_S A s.heap H locs → lv_has ls 2 [(0, .ref a_o)] → W p l e (rmd 0) s m aa below meth cd H locs 0 0 QQ (F0 m 21 ls [.int k0_j21, .ref a_o]) := by
    intro o_faultPlace_j21 o_faults_j21 k0_j21 H locs ls hf hP hD hS hl
    unfold X12_fails_j21 at hf
    refine va_put (D := E.1) (ci := 12) (v := .int k0_j21) (ty := .int) (C := RX12) (T := TX12) (N := 39) hx hb hts inX12 tyX12 tyX12_ok nmX12 hown hK hP hD hS 0 rfl rfl 18 (by decide) (hts _ fl_X12_155) (fun _ h9 => h9) rfl (by decide +kernel) rfl rfl (Nat.le_of_ble_eq_true rfl) dX12_fails_21 (fun H locs hP hD hS => ?_)
    have hP : va_P E.1 vwCl (wd_X12_fails E a_o a_o_at a_o_names a_o_sort a_o_trayMany a_o_trays a_o_tape a_o_text a_o_opened a_o_farBy a_o_attendsBy a_o_coveredBy a_o_cameBy a_o_cameThen a_o_fallsBy a_o_loops a_o_ran a_o_told1 o_status o_top o_bottom o_taped o_size o_token o_from o_end o_value o_faultKind o_faultPlace_j21 k0_j21 o_seen o_toldParts o_depth o_counted o_becameThen o_firstCorner o_drawn o_ranSteps o_isTold o_marks) H := hP
    have hD : va_D A (wd_X12_fails E a_o a_o_at a_o_names a_o_sort a_o_trayMany a_o_trays a_o_tape a_o_text a_o_opened a_o_farBy a_o_attendsBy a_o_coveredBy a_o_cameBy a_o_cameThen a_o_fallsBy a_o_loops a_o_ran a_o_told1 o_status o_top o_bottom o_taped o_size o_token o_from o_end o_value o_faultKind o_faultPlace_j21 k0_j21 o_seen o_toldParts o_depth o_counted o_becameThen o_firstCorner o_drawn o_ranSteps o_isTold o_marks) := hD
    refine lv_aload_n hx hb dX12_fails_24 rfl (lv_at hl 0 rfl) ?_
    refine lv_aload_n hx hb dX12_fails_25 rfl (lv_at hl 0 rfl) ?_
    refine va_get (D := E.1) (ci := 12) (v := .int o_from) (C := RX12) (T := TX12) (N := 39) hx hb hts inX12 hown hK hP 0 rfl rfl 13 (by decide) (hts _ fl_X12_124) (fun _ h9 => h9) rfl dX12_fails_26 ?_
    refine va_put (D := E.1) (ci := 12) (v := .int o_from) (ty := .int) (C := RX12) (T := TX12) (N := 39) hx hb hts inX12 tyX12 tyX12_ok nmX12 hown hK hP hD hS 0 rfl rfl 17 (by decide) (hts _ fl_X12_41) (fun _ h9 => h9) rfl (by decide +kernel) rfl rfl (Nat.le_of_ble_eq_true rfl) dX12_fails_29 (fun H locs hP hD hS => ?_)
    have hP : va_P E.1 vwCl (wd_X12_fails E a_o a_o_at a_o_names a_o_sort a_o_trayMany a_o_trays a_o_tape a_o_text a_o_opened a_o_farBy a_o_attendsBy a_o_coveredBy a_o_cameBy a_o_cameThen a_o_fallsBy a_o_loops a_o_ran a_o_told1 o_status o_top o_bottom o_taped o_size o_token o_from o_end o_value o_faultKind o_from k0_j21 o_seen o_toldParts o_depth o_counted o_becameThen o_firstCorner o_drawn o_ranSteps o_isTold o_marks) H := hP
    have hD : va_D A (wd_X12_fails E a_o a_o_at a_o_names a_o_sort a_o_trayMany a_o_trays a_o_tape a_o_text a_o_opened a_o_farBy a_o_attendsBy a_o_coveredBy a_o_cameBy a_o_cameThen a_o_fallsBy a_o_loops a_o_ran a_o_told1 o_status o_top o_bottom o_taped o_size o_token o_from o_end o_value o_faultKind o_from k0_j21 o_seen o_toldParts o_depth o_counted o_becameThen o_firstCorner o_drawn o_ranSteps o_isTold o_marks) := hD
    refine lv_iconst (v := 0) hx hb dX12_fails_32 (by decide) ?_
    obtain rfl := Option.some.inj hf
    subst hq
    exact retZ cx rfl hP hD hS dX12_fails_33
  unfold X12_fails at hf
  refine lv_aload_n hx hb dX12_fails_0 rfl (lv_at hl 0 rfl) ?_
  refine va_get (D := E.1) (ci := 12) (v := .int o_faults) (C := RX12) (T := TX12) (N := 39) hx hb hts inX12 hown hK hP 0 rfl rfl 18 (by decide) (hts _ fl_X12_155) (fun _ h9 => h9) rfl dX12_fails_1 ?_
  refine lv_if_ne (tgt := 32) hx hb dX12_fails_4 (by decide) (fun hc => ?_) (fun hc => ?_)
  · have hf := it_f hc hf
    refine lv_iconst (v := 0) hx hb dX12_fails_32 (by decide) ?_
    obtain rfl := Option.some.inj hf
    subst hq
    exact retZ cx rfl hP hD hS dX12_fails_33
  · have hf := it_t hc hf
    refine lv_aload_n hx hb dX12_fails_7 rfl (lv_at hl 0 rfl) ?_
    refine lv_aload_n hx hb dX12_fails_8 rfl (lv_at hl 0 rfl) ?_
    refine va_get (D := E.1) (ci := 12) (v := .int o_token) (C := RX12) (T := TX12) (N := 39) hx hb hts inX12 hown hK hP 0 rfl rfl 12 (by decide) (hts _ fl_X12_130) (fun _ h9 => h9) rfl dX12_fails_9 ?_
    refine lv_iconst (v := 1) hx hb dX12_fails_12 (by decide) ?_
    refine lv_icmp_ne (tgt := 20) hx hb dX12_fails_13 (by decide) (fun hc => ?_) (fun hc => ?_)
    · have hf := it_f hc hf
      refine lv_iload_n hx hb dX12_fails_20 rfl (lv_at hl 1 rfl) ?_
      exact hj21 _ _ _ _ _ _ hf hP hD hS (lv_sub hl [0] rfl)
    · have hf := it_t hc hf
      refine lv_iconst (v := 1) hx hb dX12_fails_16 (by decide) ?_
      refine lv_goto (tgt := 21) hx hb dX12_fails_17 (by decide) ?_
      exact hj21 _ _ _ _ _ _ hf hP hD hS (lv_sub hl [0] rfl)
def X12_begins_b26 (F : Nat) (o_taped : Int32) (o_size : Int32) (o_token : Int32) (o_from : Int32) (o_end : Int32) (o_value : Int32) (o_faultPlace : Int32) (o_faults : Int32) (o_seen : Int32) (o_tape : Nat → Int32) (v1 : Int32) (st26 : Int32 × (Nat → Int32)) : Option ((Int32 × (Nat → Int32)) ⊕ (((Nat → Int32)))) :=
  if v1 ≤ st26.1 then
  some (.inr st26.2)
  else
  if ix st26.1 900 then
  if ix st26.1 900 then
  some (.inl ((st26.1 + 1), (jputB st26.2 st26.1 (jat o_tape st26.1))))
  else none
  else none
def X12_begins (F : Nat) (o_taped : Int32) (o_size : Int32) (o_token : Int32) (o_from : Int32) (o_end : Int32) (o_value : Int32) (o_faultPlace : Int32) (o_faults : Int32) (o_seen : Int32) (o_tape : Nat → Int32) (o_text : Nat → Int32) (v1 : Int32) (v2 : Int32) : Option (vS) :=
  if v1 < 0 then
  some (mkS [0, o_taped, o_size, o_token, o_from, o_end, o_value, o_faultPlace, o_faults, o_seen] [] [o_text] [])
  else
  if o_taped < v1 then
  some (mkS [0, o_taped, o_size, o_token, o_from, o_end, o_value, o_faultPlace, o_faults, o_seen] [] [o_text] [])
  else
  if v1 ≤ v2 then
  (iter (X12_begins_b26 F o_taped v1 o_token o_from o_end o_value o_faultPlace o_faults o_seen o_tape v1) F (0, o_text)).bind (fun (e26 : (Nat → Int32)) =>
    (X12_ahead F v1 o_token o_from 0 o_value e26).bind fun u75 =>
  some (mkS [1, 0, v1, u75.1, u75.2.1, u75.2.2.1, u75.2.2.2, (-1), 0, 0] [] [e26] []))
  else
  some (mkS [0, o_taped, o_size, o_token, o_from, o_end, o_value, o_faultPlace, o_faults, o_seen] [] [o_text] [])
abbrev wd_X12_begins (E : vE) (a_o a_o_at a_o_names a_o_sort a_o_trayMany a_o_trays a_o_tape a_o_text a_o_opened a_o_farBy a_o_attendsBy a_o_coveredBy a_o_cameBy a_o_cameThen a_o_fallsBy a_o_loops a_o_ran a_o_told1 : Nat) (o_status : Int32) (o_top : Int64) (o_bottom : Int64) (o_taped : Int32) (o_size : Int32) (o_token : Int32) (o_from : Int32) (o_end : Int32) (o_value : Int32) (o_faultKind : Int32) (o_faultPlace : Int32) (o_faults : Int32) (o_seen : Int32) (o_toldParts : Int32) (o_depth : Int32) (o_counted : Int32) (o_becameThen : Int32) (o_firstCorner : Int32) (o_drawn : Int32) (o_ranSteps : Int32) (o_isTold : Int32) (o_marks : Int32) (o_tape : Nat → Int32) (o_text : Nat → Int32) : va_W := [(a_o, .inr (12, [.ref a_o_at, .ref a_o_names, .int o_status, .long o_top, .long o_bottom, .ref a_o_sort, .ref a_o_trayMany, .ref a_o_trays, .ref a_o_tape, .ref a_o_text, .int o_taped, .int o_size, .int o_token, .int o_from, .int o_end, .int o_value, .int o_faultKind, .int o_faultPlace, .int o_faults, .int o_seen, .int o_toldParts, .ref a_o_opened, .int o_depth, .int o_counted, .ref a_o_farBy, .int o_becameThen, .ref a_o_attendsBy, .ref a_o_coveredBy, .ref a_o_cameBy, .ref a_o_cameThen, .int o_firstCorner, .ref a_o_fallsBy, .int o_drawn, .int o_ranSteps, .ref a_o_loops, .ref a_o_ran, .ref a_o_told1, .int o_isTold, .int o_marks])), (a_o_tape, .inl (E.2.2.2.1, 900, .inl o_tape)), (a_o_text, .inl (E.2.2.2.1, 900, .inl o_text))]
set_option maxHeartbeats 4000000 in
set_option maxRecDepth 100000 in
theorem ct_X12_begins (l : Launch) (E : vE) (F : Nat) (a_o a_o_at a_o_names a_o_sort a_o_trayMany a_o_trays a_o_tape a_o_text a_o_opened a_o_farBy a_o_attendsBy a_o_coveredBy a_o_cameBy a_o_cameThen a_o_fallsBy a_o_loops a_o_ran a_o_told1 : Nat) (o_status : Int32) (o_top : Int64) (o_bottom : Int64) (o_taped : Int32) (o_size : Int32) (o_token : Int32) (o_from : Int32) (o_end : Int32) (o_value : Int32) (o_faultKind : Int32) (o_faultPlace : Int32) (o_faults : Int32) (o_seen : Int32) (o_toldParts : Int32) (o_depth : Int32) (o_counted : Int32) (o_becameThen : Int32) (o_firstCorner : Int32) (o_drawn : Int32) (o_ranSteps : Int32) (o_isTold : Int32) (o_marks : Int32) (o_tape : Nat → Int32) (o_text : Nat → Int32) (v1 : Int32) (v2 : Int32) (u : vS) (hf : X12_begins F o_taped o_size o_token o_from o_end o_value o_faultPlace o_faults o_seen o_tape o_text v1 v2 = some u) :
    CtI l yX12_begins cX12_begins 4 (some .boolean) 2 E [.ref a_o, .int v1, .int v2] (wd_X12_begins E a_o a_o_at a_o_names a_o_sort a_o_trayMany a_o_trays a_o_tape a_o_text a_o_opened a_o_farBy a_o_attendsBy a_o_coveredBy a_o_cameBy a_o_cameThen a_o_fallsBy a_o_loops a_o_ran a_o_told1 o_status o_top o_bottom o_taped o_size o_token o_from o_end o_value o_faultKind o_faultPlace o_faults o_seen o_toldParts o_depth o_counted o_becameThen o_firstCorner o_drawn o_ranSteps o_isTold o_marks o_tape o_text) (wd_X12_begins E a_o a_o_at a_o_names a_o_sort a_o_trayMany a_o_trays a_o_tape a_o_text a_o_opened a_o_farBy a_o_attendsBy a_o_coveredBy a_o_cameBy a_o_cameThen a_o_fallsBy a_o_loops a_o_ran a_o_told1 o_status o_top o_bottom (u.1 1) (u.1 2) (u.1 3) (u.1 4) (u.1 5) (u.1 6) o_faultKind (u.1 7) (u.1 8) (u.1 9) o_toldParts o_depth o_counted o_becameThen o_firstCorner o_drawn o_ranSteps o_isTold o_marks o_tape (u.2.2.1 0)) (u.1 0) := by
  refine ctI (by decide) (Nat.le_of_ble_eq_true rfl) ?_
  intro p e s m below meth cd A ls aa QQ hq cx hP hD hS hl
  obtain ⟨⟨hx, hb, hml, hown, hts⟩, hr, hlocks, hK, hA, hX⟩ := id cx
  have hl : lv_has ls 4 [(0, .ref a_o), (1, .int v1), (2, .int v2)] := hl
  unfold X12_begins at hf
  refine lv_iload_n hx hb dX12_begins_0 rfl (lv_at hl 1 rfl) ?_
  refine lv_if_lt (tgt := 17) hx hb dX12_begins_1 (by decide) (fun hc => ?_) (fun hc => ?_)
  · have hf := it_t hc hf
    refine lv_iconst (v := 0) hx hb dX12_begins_17 (by decide) ?_
    obtain rfl := Option.some.inj hf
    subst hq
    exact retZ cx rfl hP hD hS dX12_begins_18
  · have hf := it_f hc hf
    refine lv_iload_n hx hb dX12_begins_4 rfl (lv_at hl 1 rfl) ?_
    refine lv_aload_n hx hb dX12_begins_5 rfl (lv_at hl 0 rfl) ?_
    refine va_get (D := E.1) (ci := 12) (v := .int o_taped) (C := RX12) (T := TX12) (N := 39) hx hb hts inX12 hown hK hP 0 rfl rfl 10 (by decide) (hts _ fl_X12_109) (fun _ h9 => h9) rfl dX12_begins_6 ?_
    refine lv_icmp_gt (tgt := 17) hx hb dX12_begins_9 (by decide) (fun hc => ?_) (fun hc => ?_)
    · have hf := it_t hc hf
      refine lv_iconst (v := 0) hx hb dX12_begins_17 (by decide) ?_
      obtain rfl := Option.some.inj hf
      subst hq
      exact retZ cx rfl hP hD hS dX12_begins_18
    · have hf := it_f hc hf
      refine lv_iload_n hx hb dX12_begins_12 rfl (lv_at hl 1 rfl) ?_
      refine lv_iload_n hx hb dX12_begins_13 rfl (lv_at hl 2 rfl) ?_
      refine lv_icmp_le (tgt := 19) hx hb dX12_begins_14 (by decide) (fun hc => ?_) (fun hc => ?_)
      · have hf := it_t hc hf
        refine lv_aload_n hx hb dX12_begins_19 rfl (lv_at hl 0 rfl) ?_
        refine lv_iload_n hx hb dX12_begins_20 rfl (lv_at hl 1 rfl) ?_
        refine va_put (D := E.1) (ci := 12) (v := .int v1) (ty := .int) (C := RX12) (T := TX12) (N := 39) hx hb hts inX12 tyX12 tyX12_ok nmX12 hown hK hP hD hS 0 rfl rfl 11 (by decide) (hts _ fl_X12_115) (fun _ h9 => h9) rfl (by decide +kernel) rfl rfl (Nat.le_of_ble_eq_true rfl) dX12_begins_21 (fun H locs hP hD hS => ?_)
        have hP : va_P E.1 vwCl (wd_X12_begins E a_o a_o_at a_o_names a_o_sort a_o_trayMany a_o_trays a_o_tape a_o_text a_o_opened a_o_farBy a_o_attendsBy a_o_coveredBy a_o_cameBy a_o_cameThen a_o_fallsBy a_o_loops a_o_ran a_o_told1 o_status o_top o_bottom o_taped v1 o_token o_from o_end o_value o_faultKind o_faultPlace o_faults o_seen o_toldParts o_depth o_counted o_becameThen o_firstCorner o_drawn o_ranSteps o_isTold o_marks o_tape o_text) H := hP
        have hD : va_D A (wd_X12_begins E a_o a_o_at a_o_names a_o_sort a_o_trayMany a_o_trays a_o_tape a_o_text a_o_opened a_o_farBy a_o_attendsBy a_o_coveredBy a_o_cameBy a_o_cameThen a_o_fallsBy a_o_loops a_o_ran a_o_told1 o_status o_top o_bottom o_taped v1 o_token o_from o_end o_value o_faultKind o_faultPlace o_faults o_seen o_toldParts o_depth o_counted o_becameThen o_firstCorner o_drawn o_ranSteps o_isTold o_marks o_tape o_text) := hD
        refine lv_iconst (v := 0) hx hb dX12_begins_24 (by decide) ?_
        refine lv_istore_n (lv' := [(3, .int 0), (0, .ref a_o), (1, .int v1), (2, .int v2)]) hx hb dX12_begins_25 rfl hl (by decide) rfl (fun ls hl => ?_)
        obtain ⟨e26, hit26, hf⟩ := bd hf
        refine iter_W (b := X12_begins_b26 F o_taped v1 o_token o_from o_end o_value o_faultPlace o_faults o_seen o_tape v1) (P := fun st26 => ∀ (H : Heap) (locs : List Loc) (ls : Array Slot), va_P E.1 vwCl (wd_X12_begins E a_o a_o_at a_o_names a_o_sort a_o_trayMany a_o_trays a_o_tape a_o_text a_o_opened a_o_farBy a_o_attendsBy a_o_coveredBy a_o_cameBy a_o_cameThen a_o_fallsBy a_o_loops a_o_ran a_o_told1 o_status o_top o_bottom o_taped v1 o_token o_from o_end o_value o_faultKind o_faultPlace o_faults o_seen o_toldParts o_depth o_counted o_becameThen o_firstCorner o_drawn o_ranSteps o_isTold o_marks o_tape st26.2) H → va_D A (wd_X12_begins E a_o a_o_at a_o_names a_o_sort a_o_trayMany a_o_trays a_o_tape a_o_text a_o_opened a_o_farBy a_o_attendsBy a_o_coveredBy a_o_cameBy a_o_cameThen a_o_fallsBy a_o_loops a_o_ran a_o_told1 o_status o_top o_bottom o_taped v1 o_token o_from o_end o_value o_faultKind o_faultPlace o_faults o_seen o_toldParts o_depth o_counted o_becameThen o_firstCorner o_drawn o_ranSteps o_isTold o_marks o_tape st26.2) → va_S A s.heap H locs → lv_has ls 4 [(0, .ref a_o), (1, .int v1), (3, .int st26.1)] → W p l e (rmd 2) s m aa below meth cd H locs 0 0 QQ (F0 m 26 ls [])) (G := (fun (e26 : (Nat → Int32)) => ∀ (H : Heap) (locs : List Loc) (ls : Array Slot), va_P E.1 vwCl (wd_X12_begins E a_o a_o_at a_o_names a_o_sort a_o_trayMany a_o_trays a_o_tape a_o_text a_o_opened a_o_farBy a_o_attendsBy a_o_coveredBy a_o_cameBy a_o_cameThen a_o_fallsBy a_o_loops a_o_ran a_o_told1 o_status o_top o_bottom o_taped v1 o_token o_from o_end o_value o_faultKind o_faultPlace o_faults o_seen o_toldParts o_depth o_counted o_becameThen o_firstCorner o_drawn o_ranSteps o_isTold o_marks o_tape e26) H → va_D A (wd_X12_begins E a_o a_o_at a_o_names a_o_sort a_o_trayMany a_o_trays a_o_tape a_o_text a_o_opened a_o_farBy a_o_attendsBy a_o_coveredBy a_o_cameBy a_o_cameThen a_o_fallsBy a_o_loops a_o_ran a_o_told1 o_status o_top o_bottom o_taped v1 o_token o_from o_end o_value o_faultKind o_faultPlace o_faults o_seen o_toldParts o_depth o_counted o_becameThen o_firstCorner o_drawn o_ranSteps o_isTold o_marks o_tape e26) → va_S A s.heap H locs → lv_has ls 4 [(0, .ref a_o)] → W p l e (rmd 2) s m aa below meth cd H locs 0 0 QQ (F0 m 49 ls []))) ?_ F (0, o_text) e26 hit26 ?_ _ _ _ hP hD hS (lv_sub hl [1, 2, 0] rfl)
        · intro st26 r26 hf hk26 he26 H locs ls hP hD hS hl
          unfold X12_begins_b26 at hf
          refine lv_iload_n hx hb dX12_begins_26 rfl (lv_at hl 2 rfl) ?_
          refine lv_iload_n hx hb dX12_begins_27 rfl (lv_at hl 1 rfl) ?_
          refine lv_icmp_ge (tgt := 49) hx hb dX12_begins_28 (by decide) (fun hc => ?_) (fun hc => ?_)
          · have hf := it_t hc hf
            exact he26 _ (Option.some.inj hf).symm _ _ _ hP hD hS (lv_sub hl [0] rfl)
          · have hf := it_f hc hf
            refine lv_aload_n hx hb dX12_begins_31 rfl (lv_at hl 0 rfl) ?_
            refine va_get (D := E.1) (ci := 12) (v := .ref a_o_text) (C := RX12) (T := TX12) (N := 39) hx hb hts inX12 hown hK hP 0 rfl rfl 9 (by decide) (hts _ fl_X12_34) (fun _ h9 => h9) rfl dX12_begins_32 ?_
            refine lv_iload_n hx hb dX12_begins_35 rfl (lv_at hl 2 rfl) ?_
            refine lv_aload_n hx hb dX12_begins_36 rfl (lv_at hl 0 rfl) ?_
            refine va_get (D := E.1) (ci := 12) (v := .ref a_o_tape) (C := RX12) (T := TX12) (N := 39) hx hb hts inX12 hown hK hP 0 rfl rfl 8 (by decide) (hts _ fl_X12_30) (fun _ h9 => h9) rfl dX12_begins_37 ?_
            refine lv_iload_n hx hb dX12_begins_40 rfl (lv_at hl 2 rfl) ?_
            obtain ⟨hi, hf⟩ := ck hf
            refine r_bald 1 cx hP rfl hi dX12_begins_41 ?_
            obtain ⟨hi, hf⟩ := ck hf
            refine r_bast 2 cx hP hD hS rfl hi dX12_begins_42 (fun H locs hP hD hS => ?_)
            have hP : va_P E.1 vwCl (wd_X12_begins E a_o a_o_at a_o_names a_o_sort a_o_trayMany a_o_trays a_o_tape a_o_text a_o_opened a_o_farBy a_o_attendsBy a_o_coveredBy a_o_cameBy a_o_cameThen a_o_fallsBy a_o_loops a_o_ran a_o_told1 o_status o_top o_bottom o_taped v1 o_token o_from o_end o_value o_faultKind o_faultPlace o_faults o_seen o_toldParts o_depth o_counted o_becameThen o_firstCorner o_drawn o_ranSteps o_isTold o_marks o_tape (jputB st26.2 st26.1 (jat o_tape st26.1))) H := hP
            have hD : va_D A (wd_X12_begins E a_o a_o_at a_o_names a_o_sort a_o_trayMany a_o_trays a_o_tape a_o_text a_o_opened a_o_farBy a_o_attendsBy a_o_coveredBy a_o_cameBy a_o_cameThen a_o_fallsBy a_o_loops a_o_ran a_o_told1 o_status o_top o_bottom o_taped v1 o_token o_from o_end o_value o_faultKind o_faultPlace o_faults o_seen o_toldParts o_depth o_counted o_becameThen o_firstCorner o_drawn o_ranSteps o_isTold o_marks o_tape (jputB st26.2 st26.1 (jat o_tape st26.1))) := hD
            refine lv_iinc (v := (st26.1 + 1)) (lv' := [(3, .int (st26.1 + 1)), (0, .ref a_o), (1, .int v1)]) hx hb dX12_begins_43 hl (k := 2) rfl rfl (by decide) rfl (fun ls hl => ?_)
            refine lv_goto (tgt := 26) hx hb dX12_begins_46 (by decide) ?_
            exact hk26 _ (Option.some.inj hf).symm _ _ _ hP hD hS (lv_sub hl [1, 2, 0] rfl)
        · refine fun H locs ls hP hD hS hl => ?_
          refine lv_aload_n hx hb dX12_begins_49 rfl (lv_at hl 0 rfl) ?_
          refine lv_iconst (v := 0) hx hb dX12_begins_50 (by decide) ?_
          refine va_put (D := E.1) (ci := 12) (v := .int 0) (ty := .int) (C := RX12) (T := TX12) (N := 39) hx hb hts inX12 tyX12 tyX12_ok nmX12 hown hK hP hD hS 0 rfl rfl 10 (by decide) (hts _ fl_X12_109) (fun _ h9 => h9) rfl (by decide +kernel) rfl rfl (Nat.le_of_ble_eq_true rfl) dX12_begins_51 (fun H locs hP hD hS => ?_)
          have hP : va_P E.1 vwCl (wd_X12_begins E a_o a_o_at a_o_names a_o_sort a_o_trayMany a_o_trays a_o_tape a_o_text a_o_opened a_o_farBy a_o_attendsBy a_o_coveredBy a_o_cameBy a_o_cameThen a_o_fallsBy a_o_loops a_o_ran a_o_told1 o_status o_top o_bottom 0 v1 o_token o_from o_end o_value o_faultKind o_faultPlace o_faults o_seen o_toldParts o_depth o_counted o_becameThen o_firstCorner o_drawn o_ranSteps o_isTold o_marks o_tape e26) H := hP
          have hD : va_D A (wd_X12_begins E a_o a_o_at a_o_names a_o_sort a_o_trayMany a_o_trays a_o_tape a_o_text a_o_opened a_o_farBy a_o_attendsBy a_o_coveredBy a_o_cameBy a_o_cameThen a_o_fallsBy a_o_loops a_o_ran a_o_told1 o_status o_top o_bottom 0 v1 o_token o_from o_end o_value o_faultKind o_faultPlace o_faults o_seen o_toldParts o_depth o_counted o_becameThen o_firstCorner o_drawn o_ranSteps o_isTold o_marks o_tape e26) := hD
          refine lv_aload_n hx hb dX12_begins_54 rfl (lv_at hl 0 rfl) ?_
          refine lv_iconst (v := 0) hx hb dX12_begins_55 (by decide) ?_
          refine va_put (D := E.1) (ci := 12) (v := .int 0) (ty := .int) (C := RX12) (T := TX12) (N := 39) hx hb hts inX12 tyX12 tyX12_ok nmX12 hown hK hP hD hS 0 rfl rfl 18 (by decide) (hts _ fl_X12_155) (fun _ h9 => h9) rfl (by decide +kernel) rfl rfl (Nat.le_of_ble_eq_true rfl) dX12_begins_56 (fun H locs hP hD hS => ?_)
          have hP : va_P E.1 vwCl (wd_X12_begins E a_o a_o_at a_o_names a_o_sort a_o_trayMany a_o_trays a_o_tape a_o_text a_o_opened a_o_farBy a_o_attendsBy a_o_coveredBy a_o_cameBy a_o_cameThen a_o_fallsBy a_o_loops a_o_ran a_o_told1 o_status o_top o_bottom 0 v1 o_token o_from o_end o_value o_faultKind o_faultPlace 0 o_seen o_toldParts o_depth o_counted o_becameThen o_firstCorner o_drawn o_ranSteps o_isTold o_marks o_tape e26) H := hP
          have hD : va_D A (wd_X12_begins E a_o a_o_at a_o_names a_o_sort a_o_trayMany a_o_trays a_o_tape a_o_text a_o_opened a_o_farBy a_o_attendsBy a_o_coveredBy a_o_cameBy a_o_cameThen a_o_fallsBy a_o_loops a_o_ran a_o_told1 o_status o_top o_bottom 0 v1 o_token o_from o_end o_value o_faultKind o_faultPlace 0 o_seen o_toldParts o_depth o_counted o_becameThen o_firstCorner o_drawn o_ranSteps o_isTold o_marks o_tape e26) := hD
          refine lv_aload_n hx hb dX12_begins_59 rfl (lv_at hl 0 rfl) ?_
          refine lv_iconst (v := (-1)) hx hb dX12_begins_60 (by decide) ?_
          refine va_put (D := E.1) (ci := 12) (v := .int (-1)) (ty := .int) (C := RX12) (T := TX12) (N := 39) hx hb hts inX12 tyX12 tyX12_ok nmX12 hown hK hP hD hS 0 rfl rfl 17 (by decide) (hts _ fl_X12_41) (fun _ h9 => h9) rfl (by decide +kernel) rfl rfl (Nat.le_of_ble_eq_true rfl) dX12_begins_61 (fun H locs hP hD hS => ?_)
          have hP : va_P E.1 vwCl (wd_X12_begins E a_o a_o_at a_o_names a_o_sort a_o_trayMany a_o_trays a_o_tape a_o_text a_o_opened a_o_farBy a_o_attendsBy a_o_coveredBy a_o_cameBy a_o_cameThen a_o_fallsBy a_o_loops a_o_ran a_o_told1 o_status o_top o_bottom 0 v1 o_token o_from o_end o_value o_faultKind (-1) 0 o_seen o_toldParts o_depth o_counted o_becameThen o_firstCorner o_drawn o_ranSteps o_isTold o_marks o_tape e26) H := hP
          have hD : va_D A (wd_X12_begins E a_o a_o_at a_o_names a_o_sort a_o_trayMany a_o_trays a_o_tape a_o_text a_o_opened a_o_farBy a_o_attendsBy a_o_coveredBy a_o_cameBy a_o_cameThen a_o_fallsBy a_o_loops a_o_ran a_o_told1 o_status o_top o_bottom 0 v1 o_token o_from o_end o_value o_faultKind (-1) 0 o_seen o_toldParts o_depth o_counted o_becameThen o_firstCorner o_drawn o_ranSteps o_isTold o_marks o_tape e26) := hD
          refine lv_aload_n hx hb dX12_begins_64 rfl (lv_at hl 0 rfl) ?_
          refine lv_iconst (v := 0) hx hb dX12_begins_65 (by decide) ?_
          refine va_put (D := E.1) (ci := 12) (v := .int 0) (ty := .int) (C := RX12) (T := TX12) (N := 39) hx hb hts inX12 tyX12 tyX12_ok nmX12 hown hK hP hD hS 0 rfl rfl 14 (by decide) (hts _ fl_X12_118) (fun _ h9 => h9) rfl (by decide +kernel) rfl rfl (Nat.le_of_ble_eq_true rfl) dX12_begins_66 (fun H locs hP hD hS => ?_)
          have hP : va_P E.1 vwCl (wd_X12_begins E a_o a_o_at a_o_names a_o_sort a_o_trayMany a_o_trays a_o_tape a_o_text a_o_opened a_o_farBy a_o_attendsBy a_o_coveredBy a_o_cameBy a_o_cameThen a_o_fallsBy a_o_loops a_o_ran a_o_told1 o_status o_top o_bottom 0 v1 o_token o_from 0 o_value o_faultKind (-1) 0 o_seen o_toldParts o_depth o_counted o_becameThen o_firstCorner o_drawn o_ranSteps o_isTold o_marks o_tape e26) H := hP
          have hD : va_D A (wd_X12_begins E a_o a_o_at a_o_names a_o_sort a_o_trayMany a_o_trays a_o_tape a_o_text a_o_opened a_o_farBy a_o_attendsBy a_o_coveredBy a_o_cameBy a_o_cameThen a_o_fallsBy a_o_loops a_o_ran a_o_told1 o_status o_top o_bottom 0 v1 o_token o_from 0 o_value o_faultKind (-1) 0 o_seen o_toldParts o_depth o_counted o_becameThen o_firstCorner o_drawn o_ranSteps o_isTold o_marks o_tape e26) := hD
          refine lv_aload_n hx hb dX12_begins_69 rfl (lv_at hl 0 rfl) ?_
          refine lv_iconst (v := 0) hx hb dX12_begins_70 (by decide) ?_
          refine va_put (D := E.1) (ci := 12) (v := .int 0) (ty := .int) (C := RX12) (T := TX12) (N := 39) hx hb hts inX12 tyX12 tyX12_ok nmX12 hown hK hP hD hS 0 rfl rfl 19 (by decide) (hts _ fl_X12_158) (fun _ h9 => h9) rfl (by decide +kernel) rfl rfl (Nat.le_of_ble_eq_true rfl) dX12_begins_71 (fun H locs hP hD hS => ?_)
          have hP : va_P E.1 vwCl (wd_X12_begins E a_o a_o_at a_o_names a_o_sort a_o_trayMany a_o_trays a_o_tape a_o_text a_o_opened a_o_farBy a_o_attendsBy a_o_coveredBy a_o_cameBy a_o_cameThen a_o_fallsBy a_o_loops a_o_ran a_o_told1 o_status o_top o_bottom 0 v1 o_token o_from 0 o_value o_faultKind (-1) 0 0 o_toldParts o_depth o_counted o_becameThen o_firstCorner o_drawn o_ranSteps o_isTold o_marks o_tape e26) H := hP
          have hD : va_D A (wd_X12_begins E a_o a_o_at a_o_names a_o_sort a_o_trayMany a_o_trays a_o_tape a_o_text a_o_opened a_o_farBy a_o_attendsBy a_o_coveredBy a_o_cameBy a_o_cameThen a_o_fallsBy a_o_loops a_o_ran a_o_told1 o_status o_top o_bottom 0 v1 o_token o_from 0 o_value o_faultKind (-1) 0 0 o_toldParts o_depth o_counted o_becameThen o_firstCorner o_drawn o_ranSteps o_isTold o_marks o_tape e26) := hD
          refine lv_aload_n hx hb dX12_begins_74 rfl (lv_at hl 0 rfl) ?_
          obtain ⟨u75, hu75, hf⟩ := bd hf
          refine callVV (wn := (wd_X12_begins E a_o a_o_at a_o_names a_o_sort a_o_trayMany a_o_trays a_o_tape a_o_text a_o_opened a_o_farBy a_o_attendsBy a_o_coveredBy a_o_cameBy a_o_cameThen a_o_fallsBy a_o_loops a_o_ran a_o_told1 o_status o_top o_bottom 0 v1 u75.1 u75.2.1 u75.2.2.1 u75.2.2.2 o_faultKind (-1) 0 0 o_toldParts o_depth o_counted o_becameThen o_firstCorner o_drawn o_ranSteps o_isTold o_marks o_tape e26)) (n1 := 3) (ct_X12_ahead l E F a_o a_o_at a_o_names a_o_sort a_o_trayMany a_o_trays a_o_tape a_o_text a_o_opened a_o_farBy a_o_attendsBy a_o_coveredBy a_o_cameBy a_o_cameThen a_o_fallsBy a_o_loops a_o_ran a_o_told1 o_status o_top o_bottom 0 v1 o_token o_from 0 o_value o_faultKind (-1) 0 0 o_toldParts o_depth o_counted o_becameThen o_firstCorner o_drawn o_ranSteps o_isTold o_marks e26 u75 hu75) [0, 2] cal_X12_ahead cav_X12_ahead lk_X12_161 cx hP hD hS hl dX12_begins_75 rfl rfl rfl rfl (Nat.le_of_ble_eq_true rfl) ⟨Nat.le_of_ble_eq_true rfl, Nat.le_of_ble_eq_true rfl⟩ rfl (by decide +kernel) rfl [some 0, none, some 1] rfl (by decide +kernel) rfl (fun H locs hP hD hS => ?_)
          refine lv_iconst (v := 1) hx hb dX12_begins_78 (by decide) ?_
          obtain rfl := Option.some.inj hf
          subst hq
          exact retZ cx rfl hP hD hS dX12_begins_79
      · have hf := it_f hc hf
        refine lv_iconst (v := 0) hx hb dX12_begins_17 (by decide) ?_
        obtain rfl := Option.some.inj hf
        subst hq
        exact retZ cx rfl hP hD hS dX12_begins_18
