def X12_plain_b2 (F : Nat) (v1 : Int32) (st2 : Int32 × (Nat → Int32)) : Option ((Int32 × (Nat → Int32)) ⊕ (((Nat → Int32)))) :=
  if (495 : Int32) ≤ st2.1 then
  some (.inr st2.2)
  else
  if ix (v1 + st2.1) 3097 then
  some (.inl ((st2.1 + 1), (jput st2.2 (v1 + st2.1) 0)))
  else none
def X12_plain (F : Nat) (o_at : Nat → Int32) (v1 : Int32) : Option ((Nat → Int32)) :=
  (iter (X12_plain_b2 F v1) F (0, o_at)).bind (fun (e2 : (Nat → Int32)) =>
    if ix (v1 + 5) 3097 then
  if ix (v1 + 6) 3097 then
  if ix (v1 + 7) 3097 then
  if ix (v1 + 9) 3097 then
  some (jput (jput (jput (jput e2 (v1 + 5) 1) (v1 + 6) 2) (v1 + 7) 1) (v1 + 9) (-1))
  else none
  else none
  else none
  else none)
abbrev wd_X12_plain (E : vE) (a_o a_o_at a_o_names a_o_sort a_o_trayMany a_o_trays a_o_tape a_o_text a_o_opened a_o_farBy a_o_attendsBy a_o_coveredBy a_o_cameBy a_o_cameThen a_o_fallsBy a_o_loops a_o_ran a_o_told1 : Nat) (o_status : Int32) (o_top : Int64) (o_bottom : Int64) (o_taped : Int32) (o_size : Int32) (o_token : Int32) (o_from : Int32) (o_end : Int32) (o_value : Int32) (o_faultKind : Int32) (o_faultPlace : Int32) (o_faults : Int32) (o_seen : Int32) (o_toldParts : Int32) (o_depth : Int32) (o_counted : Int32) (o_becameThen : Int32) (o_firstCorner : Int32) (o_drawn : Int32) (o_ranSteps : Int32) (o_isTold : Int32) (o_marks : Int32) (o_at : Nat → Int32) : va_W := [(a_o, .inr (12, [.ref a_o_at, .ref a_o_names, .int o_status, .long o_top, .long o_bottom, .ref a_o_sort, .ref a_o_trayMany, .ref a_o_trays, .ref a_o_tape, .ref a_o_text, .int o_taped, .int o_size, .int o_token, .int o_from, .int o_end, .int o_value, .int o_faultKind, .int o_faultPlace, .int o_faults, .int o_seen, .int o_toldParts, .ref a_o_opened, .int o_depth, .int o_counted, .ref a_o_farBy, .int o_becameThen, .ref a_o_attendsBy, .ref a_o_coveredBy, .ref a_o_cameBy, .ref a_o_cameThen, .int o_firstCorner, .ref a_o_fallsBy, .int o_drawn, .int o_ranSteps, .ref a_o_loops, .ref a_o_ran, .ref a_o_told1, .int o_isTold, .int o_marks])), (a_o_at, .inl (E.2.1, 3097, .inl o_at))]
set_option maxHeartbeats 4000000 in
set_option maxRecDepth 100000 in
theorem ct_X12_plain (l : Launch) (E : vE) (F : Nat) (a_o a_o_at a_o_names a_o_sort a_o_trayMany a_o_trays a_o_tape a_o_text a_o_opened a_o_farBy a_o_attendsBy a_o_coveredBy a_o_cameBy a_o_cameThen a_o_fallsBy a_o_loops a_o_ran a_o_told1 : Nat) (o_status : Int32) (o_top : Int64) (o_bottom : Int64) (o_taped : Int32) (o_size : Int32) (o_token : Int32) (o_from : Int32) (o_end : Int32) (o_value : Int32) (o_faultKind : Int32) (o_faultPlace : Int32) (o_faults : Int32) (o_seen : Int32) (o_toldParts : Int32) (o_depth : Int32) (o_counted : Int32) (o_becameThen : Int32) (o_firstCorner : Int32) (o_drawn : Int32) (o_ranSteps : Int32) (o_isTold : Int32) (o_marks : Int32) (o_at : Nat → Int32) (v1 : Int32) (u : (Nat → Int32)) (hf : X12_plain F o_at v1 = some u) :
    CtV l yX12_plain cX12_plain 3 none 0 E [.ref a_o, .int v1] (wd_X12_plain E a_o a_o_at a_o_names a_o_sort a_o_trayMany a_o_trays a_o_tape a_o_text a_o_opened a_o_farBy a_o_attendsBy a_o_coveredBy a_o_cameBy a_o_cameThen a_o_fallsBy a_o_loops a_o_ran a_o_told1 o_status o_top o_bottom o_taped o_size o_token o_from o_end o_value o_faultKind o_faultPlace o_faults o_seen o_toldParts o_depth o_counted o_becameThen o_firstCorner o_drawn o_ranSteps o_isTold o_marks o_at) (wd_X12_plain E a_o a_o_at a_o_names a_o_sort a_o_trayMany a_o_trays a_o_tape a_o_text a_o_opened a_o_farBy a_o_attendsBy a_o_coveredBy a_o_cameBy a_o_cameThen a_o_fallsBy a_o_loops a_o_ran a_o_told1 o_status o_top o_bottom o_taped o_size o_token o_from o_end o_value o_faultKind o_faultPlace o_faults o_seen o_toldParts o_depth o_counted o_becameThen o_firstCorner o_drawn o_ranSteps o_isTold o_marks u) := by
  refine ctV (by decide) (Nat.le_of_ble_eq_true rfl) ?_
  intro p e s m below meth cd A ls aa QQ hq cx hP hD hS hl
  obtain ⟨⟨hx, hb, hml, hown, hts⟩, hr, hlocks, hK, hA, hX⟩ := id cx
  have hl : lv_has ls 3 [(0, .ref a_o), (1, .int v1)] := hl
  unfold X12_plain at hf
  refine lv_iconst (v := 0) hx hb dX12_plain_0 (by decide) ?_
  refine lv_istore_n (lv' := [(2, .int 0), (0, .ref a_o), (1, .int v1)]) hx hb dX12_plain_1 rfl hl (by decide) rfl (fun ls hl => ?_)
  obtain ⟨e2, hit2, hf⟩ := bd hf
  refine iter_W (b := X12_plain_b2 F v1) (P := fun st2 => ∀ (H : Heap) (locs : List Loc) (ls : Array Slot), va_P E.1 vwCl (wd_X12_plain E a_o a_o_at a_o_names a_o_sort a_o_trayMany a_o_trays a_o_tape a_o_text a_o_opened a_o_farBy a_o_attendsBy a_o_coveredBy a_o_cameBy a_o_cameThen a_o_fallsBy a_o_loops a_o_ran a_o_told1 o_status o_top o_bottom o_taped o_size o_token o_from o_end o_value o_faultKind o_faultPlace o_faults o_seen o_toldParts o_depth o_counted o_becameThen o_firstCorner o_drawn o_ranSteps o_isTold o_marks st2.2) H → va_D A (wd_X12_plain E a_o a_o_at a_o_names a_o_sort a_o_trayMany a_o_trays a_o_tape a_o_text a_o_opened a_o_farBy a_o_attendsBy a_o_coveredBy a_o_cameBy a_o_cameThen a_o_fallsBy a_o_loops a_o_ran a_o_told1 o_status o_top o_bottom o_taped o_size o_token o_from o_end o_value o_faultKind o_faultPlace o_faults o_seen o_toldParts o_depth o_counted o_becameThen o_firstCorner o_drawn o_ranSteps o_isTold o_marks st2.2) → va_S A s.heap H locs → lv_has ls 3 [(0, .ref a_o), (1, .int v1), (2, .int st2.1)] → W p l e (rmd 0) s m aa below meth cd H locs 0 0 QQ (F0 m 2 ls [])) (G := (fun (e2 : (Nat → Int32)) => ∀ (H : Heap) (locs : List Loc) (ls : Array Slot), va_P E.1 vwCl (wd_X12_plain E a_o a_o_at a_o_names a_o_sort a_o_trayMany a_o_trays a_o_tape a_o_text a_o_opened a_o_farBy a_o_attendsBy a_o_coveredBy a_o_cameBy a_o_cameThen a_o_fallsBy a_o_loops a_o_ran a_o_told1 o_status o_top o_bottom o_taped o_size o_token o_from o_end o_value o_faultKind o_faultPlace o_faults o_seen o_toldParts o_depth o_counted o_becameThen o_firstCorner o_drawn o_ranSteps o_isTold o_marks e2) H → va_D A (wd_X12_plain E a_o a_o_at a_o_names a_o_sort a_o_trayMany a_o_trays a_o_tape a_o_text a_o_opened a_o_farBy a_o_attendsBy a_o_coveredBy a_o_cameBy a_o_cameThen a_o_fallsBy a_o_loops a_o_ran a_o_told1 o_status o_top o_bottom o_taped o_size o_token o_from o_end o_value o_faultKind o_faultPlace o_faults o_seen o_toldParts o_depth o_counted o_becameThen o_firstCorner o_drawn o_ranSteps o_isTold o_marks e2) → va_S A s.heap H locs → lv_has ls 3 [(0, .ref a_o), (1, .int v1)] → W p l e (rmd 0) s m aa below meth cd H locs 0 0 QQ (F0 m 24 ls []))) ?_ F (0, o_at) e2 hit2 ?_ _ _ _ hP hD hS (lv_sub hl [1, 2, 0] rfl)
  · intro st2 r2 hf hk2 he2 H locs ls hP hD hS hl
    unfold X12_plain_b2 at hf
    refine lv_iload_n hx hb dX12_plain_2 rfl (lv_at hl 2 rfl) ?_
    refine lv_sipush (v := 495) hx hb dX12_plain_3 (by decide) ?_
    refine lv_icmp_ge (tgt := 24) hx hb dX12_plain_6 (by decide) (fun hc => ?_) (fun hc => ?_)
    · have hf := it_t hc hf
      exact he2 _ (Option.some.inj hf).symm _ _ _ hP hD hS (lv_sub hl [0, 1] rfl)
    · have hf := it_f hc hf
      refine lv_aload_n hx hb dX12_plain_9 rfl (lv_at hl 0 rfl) ?_
      refine va_get (D := E.1) (ci := 12) (v := .ref a_o_at) (C := RX12) (T := TX12) (N := 39) hx hb hts inX12 hown hK hP 0 rfl rfl 0 (by decide) (hts _ fl_X12_7) (fun _ h9 => h9) rfl dX12_plain_10 ?_
      refine lv_iload_n hx hb dX12_plain_13 rfl (lv_at hl 1 rfl) ?_
      refine lv_iload_n hx hb dX12_plain_14 rfl (lv_at hl 2 rfl) ?_
      refine lv_iadd hx hb dX12_plain_15 ?_
      refine lv_iconst (v := 0) hx hb dX12_plain_16 (by decide) ?_
      obtain ⟨hi, hf⟩ := ck hf
      refine r_iast 1 cx hP hD hS rfl hi dX12_plain_17 (fun H locs hP hD hS => ?_)
      have hP : va_P E.1 vwCl (wd_X12_plain E a_o a_o_at a_o_names a_o_sort a_o_trayMany a_o_trays a_o_tape a_o_text a_o_opened a_o_farBy a_o_attendsBy a_o_coveredBy a_o_cameBy a_o_cameThen a_o_fallsBy a_o_loops a_o_ran a_o_told1 o_status o_top o_bottom o_taped o_size o_token o_from o_end o_value o_faultKind o_faultPlace o_faults o_seen o_toldParts o_depth o_counted o_becameThen o_firstCorner o_drawn o_ranSteps o_isTold o_marks (jput st2.2 (v1 + st2.1) 0)) H := hP
      have hD : va_D A (wd_X12_plain E a_o a_o_at a_o_names a_o_sort a_o_trayMany a_o_trays a_o_tape a_o_text a_o_opened a_o_farBy a_o_attendsBy a_o_coveredBy a_o_cameBy a_o_cameThen a_o_fallsBy a_o_loops a_o_ran a_o_told1 o_status o_top o_bottom o_taped o_size o_token o_from o_end o_value o_faultKind o_faultPlace o_faults o_seen o_toldParts o_depth o_counted o_becameThen o_firstCorner o_drawn o_ranSteps o_isTold o_marks (jput st2.2 (v1 + st2.1) 0)) := hD
      refine lv_iinc (v := (st2.1 + 1)) (lv' := [(2, .int (st2.1 + 1)), (0, .ref a_o), (1, .int v1)]) hx hb dX12_plain_18 hl (k := 2) rfl rfl (by decide) rfl (fun ls hl => ?_)
      refine lv_goto (tgt := 2) hx hb dX12_plain_21 (by decide) ?_
      exact hk2 _ (Option.some.inj hf).symm _ _ _ hP hD hS (lv_sub hl [1, 2, 0] rfl)
  · refine fun H locs ls hP hD hS hl => ?_
    refine lv_aload_n hx hb dX12_plain_24 rfl (lv_at hl 0 rfl) ?_
    refine va_get (D := E.1) (ci := 12) (v := .ref a_o_at) (C := RX12) (T := TX12) (N := 39) hx hb hts inX12 hown hK hP 0 rfl rfl 0 (by decide) (hts _ fl_X12_7) (fun _ h9 => h9) rfl dX12_plain_25 ?_
    refine lv_iload_n hx hb dX12_plain_28 rfl (lv_at hl 1 rfl) ?_
    refine lv_iconst (v := 5) hx hb dX12_plain_29 (by decide) ?_
    refine lv_iadd hx hb dX12_plain_30 ?_
    refine lv_iconst (v := 1) hx hb dX12_plain_31 (by decide) ?_
    obtain ⟨hi, hf⟩ := ck hf
    refine r_iast 1 cx hP hD hS rfl hi dX12_plain_32 (fun H locs hP hD hS => ?_)
    have hP : va_P E.1 vwCl (wd_X12_plain E a_o a_o_at a_o_names a_o_sort a_o_trayMany a_o_trays a_o_tape a_o_text a_o_opened a_o_farBy a_o_attendsBy a_o_coveredBy a_o_cameBy a_o_cameThen a_o_fallsBy a_o_loops a_o_ran a_o_told1 o_status o_top o_bottom o_taped o_size o_token o_from o_end o_value o_faultKind o_faultPlace o_faults o_seen o_toldParts o_depth o_counted o_becameThen o_firstCorner o_drawn o_ranSteps o_isTold o_marks (jput e2 (v1 + 5) 1)) H := hP
    have hD : va_D A (wd_X12_plain E a_o a_o_at a_o_names a_o_sort a_o_trayMany a_o_trays a_o_tape a_o_text a_o_opened a_o_farBy a_o_attendsBy a_o_coveredBy a_o_cameBy a_o_cameThen a_o_fallsBy a_o_loops a_o_ran a_o_told1 o_status o_top o_bottom o_taped o_size o_token o_from o_end o_value o_faultKind o_faultPlace o_faults o_seen o_toldParts o_depth o_counted o_becameThen o_firstCorner o_drawn o_ranSteps o_isTold o_marks (jput e2 (v1 + 5) 1)) := hD
    refine lv_aload_n hx hb dX12_plain_33 rfl (lv_at hl 0 rfl) ?_
    refine va_get (D := E.1) (ci := 12) (v := .ref a_o_at) (C := RX12) (T := TX12) (N := 39) hx hb hts inX12 hown hK hP 0 rfl rfl 0 (by decide) (hts _ fl_X12_7) (fun _ h9 => h9) rfl dX12_plain_34 ?_
    refine lv_iload_n hx hb dX12_plain_37 rfl (lv_at hl 1 rfl) ?_
    refine lv_bipush (v := 6) hx hb dX12_plain_38 (by decide) ?_
    refine lv_iadd hx hb dX12_plain_40 ?_
    refine lv_iconst (v := 2) hx hb dX12_plain_41 (by decide) ?_
    obtain ⟨hi, hf⟩ := ck hf
    refine r_iast 1 cx hP hD hS rfl hi dX12_plain_42 (fun H locs hP hD hS => ?_)
    have hP : va_P E.1 vwCl (wd_X12_plain E a_o a_o_at a_o_names a_o_sort a_o_trayMany a_o_trays a_o_tape a_o_text a_o_opened a_o_farBy a_o_attendsBy a_o_coveredBy a_o_cameBy a_o_cameThen a_o_fallsBy a_o_loops a_o_ran a_o_told1 o_status o_top o_bottom o_taped o_size o_token o_from o_end o_value o_faultKind o_faultPlace o_faults o_seen o_toldParts o_depth o_counted o_becameThen o_firstCorner o_drawn o_ranSteps o_isTold o_marks (jput (jput e2 (v1 + 5) 1) (v1 + 6) 2)) H := hP
    have hD : va_D A (wd_X12_plain E a_o a_o_at a_o_names a_o_sort a_o_trayMany a_o_trays a_o_tape a_o_text a_o_opened a_o_farBy a_o_attendsBy a_o_coveredBy a_o_cameBy a_o_cameThen a_o_fallsBy a_o_loops a_o_ran a_o_told1 o_status o_top o_bottom o_taped o_size o_token o_from o_end o_value o_faultKind o_faultPlace o_faults o_seen o_toldParts o_depth o_counted o_becameThen o_firstCorner o_drawn o_ranSteps o_isTold o_marks (jput (jput e2 (v1 + 5) 1) (v1 + 6) 2)) := hD
    refine lv_aload_n hx hb dX12_plain_43 rfl (lv_at hl 0 rfl) ?_
    refine va_get (D := E.1) (ci := 12) (v := .ref a_o_at) (C := RX12) (T := TX12) (N := 39) hx hb hts inX12 hown hK hP 0 rfl rfl 0 (by decide) (hts _ fl_X12_7) (fun _ h9 => h9) rfl dX12_plain_44 ?_
    refine lv_iload_n hx hb dX12_plain_47 rfl (lv_at hl 1 rfl) ?_
    refine lv_bipush (v := 7) hx hb dX12_plain_48 (by decide) ?_
    refine lv_iadd hx hb dX12_plain_50 ?_
    refine lv_iconst (v := 1) hx hb dX12_plain_51 (by decide) ?_
    obtain ⟨hi, hf⟩ := ck hf
    refine r_iast 1 cx hP hD hS rfl hi dX12_plain_52 (fun H locs hP hD hS => ?_)
    have hP : va_P E.1 vwCl (wd_X12_plain E a_o a_o_at a_o_names a_o_sort a_o_trayMany a_o_trays a_o_tape a_o_text a_o_opened a_o_farBy a_o_attendsBy a_o_coveredBy a_o_cameBy a_o_cameThen a_o_fallsBy a_o_loops a_o_ran a_o_told1 o_status o_top o_bottom o_taped o_size o_token o_from o_end o_value o_faultKind o_faultPlace o_faults o_seen o_toldParts o_depth o_counted o_becameThen o_firstCorner o_drawn o_ranSteps o_isTold o_marks (jput (jput (jput e2 (v1 + 5) 1) (v1 + 6) 2) (v1 + 7) 1)) H := hP
    have hD : va_D A (wd_X12_plain E a_o a_o_at a_o_names a_o_sort a_o_trayMany a_o_trays a_o_tape a_o_text a_o_opened a_o_farBy a_o_attendsBy a_o_coveredBy a_o_cameBy a_o_cameThen a_o_fallsBy a_o_loops a_o_ran a_o_told1 o_status o_top o_bottom o_taped o_size o_token o_from o_end o_value o_faultKind o_faultPlace o_faults o_seen o_toldParts o_depth o_counted o_becameThen o_firstCorner o_drawn o_ranSteps o_isTold o_marks (jput (jput (jput e2 (v1 + 5) 1) (v1 + 6) 2) (v1 + 7) 1)) := hD
    refine lv_aload_n hx hb dX12_plain_53 rfl (lv_at hl 0 rfl) ?_
    refine va_get (D := E.1) (ci := 12) (v := .ref a_o_at) (C := RX12) (T := TX12) (N := 39) hx hb hts inX12 hown hK hP 0 rfl rfl 0 (by decide) (hts _ fl_X12_7) (fun _ h9 => h9) rfl dX12_plain_54 ?_
    refine lv_iload_n hx hb dX12_plain_57 rfl (lv_at hl 1 rfl) ?_
    refine lv_bipush (v := 9) hx hb dX12_plain_58 (by decide) ?_
    refine lv_iadd hx hb dX12_plain_60 ?_
    refine lv_iconst (v := (-1)) hx hb dX12_plain_61 (by decide) ?_
    obtain ⟨hi, hf⟩ := ck hf
    refine r_iast 1 cx hP hD hS rfl hi dX12_plain_62 (fun H locs hP hD hS => ?_)
    have hP : va_P E.1 vwCl (wd_X12_plain E a_o a_o_at a_o_names a_o_sort a_o_trayMany a_o_trays a_o_tape a_o_text a_o_opened a_o_farBy a_o_attendsBy a_o_coveredBy a_o_cameBy a_o_cameThen a_o_fallsBy a_o_loops a_o_ran a_o_told1 o_status o_top o_bottom o_taped o_size o_token o_from o_end o_value o_faultKind o_faultPlace o_faults o_seen o_toldParts o_depth o_counted o_becameThen o_firstCorner o_drawn o_ranSteps o_isTold o_marks (jput (jput (jput (jput e2 (v1 + 5) 1) (v1 + 6) 2) (v1 + 7) 1) (v1 + 9) (-1))) H := hP
    have hD : va_D A (wd_X12_plain E a_o a_o_at a_o_names a_o_sort a_o_trayMany a_o_trays a_o_tape a_o_text a_o_opened a_o_farBy a_o_attendsBy a_o_coveredBy a_o_cameBy a_o_cameThen a_o_fallsBy a_o_loops a_o_ran a_o_told1 o_status o_top o_bottom o_taped o_size o_token o_from o_end o_value o_faultKind o_faultPlace o_faults o_seen o_toldParts o_depth o_counted o_becameThen o_firstCorner o_drawn o_ranSteps o_isTold o_marks (jput (jput (jput (jput e2 (v1 + 5) 1) (v1 + 6) 2) (v1 + 7) 1) (v1 + 9) (-1))) := hD
    obtain rfl := Option.some.inj hf
    subst hq
    exact retV cx hP hD hS dX12_plain_63
def X12_status (o_status : Int32) : Option (Int32) :=
  some o_status
abbrev wd_X12_status (E : vE) (a_o a_o_at a_o_names a_o_sort a_o_trayMany a_o_trays a_o_tape a_o_text a_o_opened a_o_farBy a_o_attendsBy a_o_coveredBy a_o_cameBy a_o_cameThen a_o_fallsBy a_o_loops a_o_ran a_o_told1 : Nat) (o_status : Int32) (o_top : Int64) (o_bottom : Int64) (o_taped : Int32) (o_size : Int32) (o_token : Int32) (o_from : Int32) (o_end : Int32) (o_value : Int32) (o_faultKind : Int32) (o_faultPlace : Int32) (o_faults : Int32) (o_seen : Int32) (o_toldParts : Int32) (o_depth : Int32) (o_counted : Int32) (o_becameThen : Int32) (o_firstCorner : Int32) (o_drawn : Int32) (o_ranSteps : Int32) (o_isTold : Int32) (o_marks : Int32) : va_W := [(a_o, .inr (12, [.ref a_o_at, .ref a_o_names, .int o_status, .long o_top, .long o_bottom, .ref a_o_sort, .ref a_o_trayMany, .ref a_o_trays, .ref a_o_tape, .ref a_o_text, .int o_taped, .int o_size, .int o_token, .int o_from, .int o_end, .int o_value, .int o_faultKind, .int o_faultPlace, .int o_faults, .int o_seen, .int o_toldParts, .ref a_o_opened, .int o_depth, .int o_counted, .ref a_o_farBy, .int o_becameThen, .ref a_o_attendsBy, .ref a_o_coveredBy, .ref a_o_cameBy, .ref a_o_cameThen, .int o_firstCorner, .ref a_o_fallsBy, .int o_drawn, .int o_ranSteps, .ref a_o_loops, .ref a_o_ran, .ref a_o_told1, .int o_isTold, .int o_marks]))]
set_option maxHeartbeats 4000000 in
set_option maxRecDepth 100000 in
theorem ct_X12_status (l : Launch) (E : vE) (a_o a_o_at a_o_names a_o_sort a_o_trayMany a_o_trays a_o_tape a_o_text a_o_opened a_o_farBy a_o_attendsBy a_o_coveredBy a_o_cameBy a_o_cameThen a_o_fallsBy a_o_loops a_o_ran a_o_told1 : Nat) (o_status : Int32) (o_top : Int64) (o_bottom : Int64) (o_taped : Int32) (o_size : Int32) (o_token : Int32) (o_from : Int32) (o_end : Int32) (o_value : Int32) (o_faultKind : Int32) (o_faultPlace : Int32) (o_faults : Int32) (o_seen : Int32) (o_toldParts : Int32) (o_depth : Int32) (o_counted : Int32) (o_becameThen : Int32) (o_firstCorner : Int32) (o_drawn : Int32) (o_ranSteps : Int32) (o_isTold : Int32) (o_marks : Int32) (u : Int32) (hf : X12_status o_status = some u) :
    CtI l yX12_status cX12_status 1 (some .int) 0 E [.ref a_o] (wd_X12_status E a_o a_o_at a_o_names a_o_sort a_o_trayMany a_o_trays a_o_tape a_o_text a_o_opened a_o_farBy a_o_attendsBy a_o_coveredBy a_o_cameBy a_o_cameThen a_o_fallsBy a_o_loops a_o_ran a_o_told1 o_status o_top o_bottom o_taped o_size o_token o_from o_end o_value o_faultKind o_faultPlace o_faults o_seen o_toldParts o_depth o_counted o_becameThen o_firstCorner o_drawn o_ranSteps o_isTold o_marks) (wd_X12_status E a_o a_o_at a_o_names a_o_sort a_o_trayMany a_o_trays a_o_tape a_o_text a_o_opened a_o_farBy a_o_attendsBy a_o_coveredBy a_o_cameBy a_o_cameThen a_o_fallsBy a_o_loops a_o_ran a_o_told1 o_status o_top o_bottom o_taped o_size o_token o_from o_end o_value o_faultKind o_faultPlace o_faults o_seen o_toldParts o_depth o_counted o_becameThen o_firstCorner o_drawn o_ranSteps o_isTold o_marks) u := by
  refine ctI (by decide) (Nat.le_of_ble_eq_true rfl) ?_
  intro p e s m below meth cd A ls aa QQ hq cx hP hD hS hl
  obtain ⟨⟨hx, hb, hml, hown, hts⟩, hr, hlocks, hK, hA, hX⟩ := id cx
  have hl : lv_has ls 1 [(0, .ref a_o)] := hl
  unfold X12_status at hf
  refine lv_aload_n hx hb dX12_status_0 rfl (lv_at hl 0 rfl) ?_
  refine va_get (D := E.1) (ci := 12) (v := .int o_status) (C := RX12) (T := TX12) (N := 39) hx hb hts inX12 hown hK hP 0 rfl rfl 2 (by decide) (hts _ fl_X12_79) (fun _ h9 => h9) rfl dX12_status_1 ?_
  obtain rfl := Option.some.inj hf
  subst hq
  exact retI cx hP hD hS dX12_status_4
def X12_top (o_top : Int64) : Option (Int64) :=
  some o_top
abbrev wd_X12_top (E : vE) (a_o a_o_at a_o_names a_o_sort a_o_trayMany a_o_trays a_o_tape a_o_text a_o_opened a_o_farBy a_o_attendsBy a_o_coveredBy a_o_cameBy a_o_cameThen a_o_fallsBy a_o_loops a_o_ran a_o_told1 : Nat) (o_status : Int32) (o_top : Int64) (o_bottom : Int64) (o_taped : Int32) (o_size : Int32) (o_token : Int32) (o_from : Int32) (o_end : Int32) (o_value : Int32) (o_faultKind : Int32) (o_faultPlace : Int32) (o_faults : Int32) (o_seen : Int32) (o_toldParts : Int32) (o_depth : Int32) (o_counted : Int32) (o_becameThen : Int32) (o_firstCorner : Int32) (o_drawn : Int32) (o_ranSteps : Int32) (o_isTold : Int32) (o_marks : Int32) : va_W := [(a_o, .inr (12, [.ref a_o_at, .ref a_o_names, .int o_status, .long o_top, .long o_bottom, .ref a_o_sort, .ref a_o_trayMany, .ref a_o_trays, .ref a_o_tape, .ref a_o_text, .int o_taped, .int o_size, .int o_token, .int o_from, .int o_end, .int o_value, .int o_faultKind, .int o_faultPlace, .int o_faults, .int o_seen, .int o_toldParts, .ref a_o_opened, .int o_depth, .int o_counted, .ref a_o_farBy, .int o_becameThen, .ref a_o_attendsBy, .ref a_o_coveredBy, .ref a_o_cameBy, .ref a_o_cameThen, .int o_firstCorner, .ref a_o_fallsBy, .int o_drawn, .int o_ranSteps, .ref a_o_loops, .ref a_o_ran, .ref a_o_told1, .int o_isTold, .int o_marks]))]
set_option maxHeartbeats 4000000 in
set_option maxRecDepth 100000 in
theorem ct_X12_top (l : Launch) (E : vE) (a_o a_o_at a_o_names a_o_sort a_o_trayMany a_o_trays a_o_tape a_o_text a_o_opened a_o_farBy a_o_attendsBy a_o_coveredBy a_o_cameBy a_o_cameThen a_o_fallsBy a_o_loops a_o_ran a_o_told1 : Nat) (o_status : Int32) (o_top : Int64) (o_bottom : Int64) (o_taped : Int32) (o_size : Int32) (o_token : Int32) (o_from : Int32) (o_end : Int32) (o_value : Int32) (o_faultKind : Int32) (o_faultPlace : Int32) (o_faults : Int32) (o_seen : Int32) (o_toldParts : Int32) (o_depth : Int32) (o_counted : Int32) (o_becameThen : Int32) (o_firstCorner : Int32) (o_drawn : Int32) (o_ranSteps : Int32) (o_isTold : Int32) (o_marks : Int32) (u : Int64) (hf : X12_top o_top = some u) :
    CtL l yX12_top cX12_top 1 (some .long) 0 E [.ref a_o] (wd_X12_top E a_o a_o_at a_o_names a_o_sort a_o_trayMany a_o_trays a_o_tape a_o_text a_o_opened a_o_farBy a_o_attendsBy a_o_coveredBy a_o_cameBy a_o_cameThen a_o_fallsBy a_o_loops a_o_ran a_o_told1 o_status o_top o_bottom o_taped o_size o_token o_from o_end o_value o_faultKind o_faultPlace o_faults o_seen o_toldParts o_depth o_counted o_becameThen o_firstCorner o_drawn o_ranSteps o_isTold o_marks) (wd_X12_top E a_o a_o_at a_o_names a_o_sort a_o_trayMany a_o_trays a_o_tape a_o_text a_o_opened a_o_farBy a_o_attendsBy a_o_coveredBy a_o_cameBy a_o_cameThen a_o_fallsBy a_o_loops a_o_ran a_o_told1 o_status o_top o_bottom o_taped o_size o_token o_from o_end o_value o_faultKind o_faultPlace o_faults o_seen o_toldParts o_depth o_counted o_becameThen o_firstCorner o_drawn o_ranSteps o_isTold o_marks) u := by
  refine ctL (by decide) (Nat.le_of_ble_eq_true rfl) ?_
  intro p e s m below meth cd A ls aa QQ hq cx hP hD hS hl
  obtain ⟨⟨hx, hb, hml, hown, hts⟩, hr, hlocks, hK, hA, hX⟩ := id cx
  have hl : lv_has ls 1 [(0, .ref a_o)] := hl
  unfold X12_top at hf
  refine lv_aload_n hx hb dX12_top_0 rfl (lv_at hl 0 rfl) ?_
  refine va_get (D := E.1) (ci := 12) (v := .long o_top) (C := RX12) (T := TX12) (N := 39) hx hb hts inX12 hown hK hP 0 rfl rfl 3 (by decide) (hts _ fl_X12_82) (fun _ h9 => h9) rfl dX12_top_1 ?_
  obtain rfl := Option.some.inj hf
  subst hq
  exact retL cx hP hD hS dX12_top_4
def X12_bottom (o_bottom : Int64) : Option (Int64) :=
  some o_bottom
abbrev wd_X12_bottom (E : vE) (a_o a_o_at a_o_names a_o_sort a_o_trayMany a_o_trays a_o_tape a_o_text a_o_opened a_o_farBy a_o_attendsBy a_o_coveredBy a_o_cameBy a_o_cameThen a_o_fallsBy a_o_loops a_o_ran a_o_told1 : Nat) (o_status : Int32) (o_top : Int64) (o_bottom : Int64) (o_taped : Int32) (o_size : Int32) (o_token : Int32) (o_from : Int32) (o_end : Int32) (o_value : Int32) (o_faultKind : Int32) (o_faultPlace : Int32) (o_faults : Int32) (o_seen : Int32) (o_toldParts : Int32) (o_depth : Int32) (o_counted : Int32) (o_becameThen : Int32) (o_firstCorner : Int32) (o_drawn : Int32) (o_ranSteps : Int32) (o_isTold : Int32) (o_marks : Int32) : va_W := [(a_o, .inr (12, [.ref a_o_at, .ref a_o_names, .int o_status, .long o_top, .long o_bottom, .ref a_o_sort, .ref a_o_trayMany, .ref a_o_trays, .ref a_o_tape, .ref a_o_text, .int o_taped, .int o_size, .int o_token, .int o_from, .int o_end, .int o_value, .int o_faultKind, .int o_faultPlace, .int o_faults, .int o_seen, .int o_toldParts, .ref a_o_opened, .int o_depth, .int o_counted, .ref a_o_farBy, .int o_becameThen, .ref a_o_attendsBy, .ref a_o_coveredBy, .ref a_o_cameBy, .ref a_o_cameThen, .int o_firstCorner, .ref a_o_fallsBy, .int o_drawn, .int o_ranSteps, .ref a_o_loops, .ref a_o_ran, .ref a_o_told1, .int o_isTold, .int o_marks]))]
set_option maxHeartbeats 4000000 in
set_option maxRecDepth 100000 in
theorem ct_X12_bottom (l : Launch) (E : vE) (a_o a_o_at a_o_names a_o_sort a_o_trayMany a_o_trays a_o_tape a_o_text a_o_opened a_o_farBy a_o_attendsBy a_o_coveredBy a_o_cameBy a_o_cameThen a_o_fallsBy a_o_loops a_o_ran a_o_told1 : Nat) (o_status : Int32) (o_top : Int64) (o_bottom : Int64) (o_taped : Int32) (o_size : Int32) (o_token : Int32) (o_from : Int32) (o_end : Int32) (o_value : Int32) (o_faultKind : Int32) (o_faultPlace : Int32) (o_faults : Int32) (o_seen : Int32) (o_toldParts : Int32) (o_depth : Int32) (o_counted : Int32) (o_becameThen : Int32) (o_firstCorner : Int32) (o_drawn : Int32) (o_ranSteps : Int32) (o_isTold : Int32) (o_marks : Int32) (u : Int64) (hf : X12_bottom o_bottom = some u) :
    CtL l yX12_bottom cX12_bottom 1 (some .long) 0 E [.ref a_o] (wd_X12_bottom E a_o a_o_at a_o_names a_o_sort a_o_trayMany a_o_trays a_o_tape a_o_text a_o_opened a_o_farBy a_o_attendsBy a_o_coveredBy a_o_cameBy a_o_cameThen a_o_fallsBy a_o_loops a_o_ran a_o_told1 o_status o_top o_bottom o_taped o_size o_token o_from o_end o_value o_faultKind o_faultPlace o_faults o_seen o_toldParts o_depth o_counted o_becameThen o_firstCorner o_drawn o_ranSteps o_isTold o_marks) (wd_X12_bottom E a_o a_o_at a_o_names a_o_sort a_o_trayMany a_o_trays a_o_tape a_o_text a_o_opened a_o_farBy a_o_attendsBy a_o_coveredBy a_o_cameBy a_o_cameThen a_o_fallsBy a_o_loops a_o_ran a_o_told1 o_status o_top o_bottom o_taped o_size o_token o_from o_end o_value o_faultKind o_faultPlace o_faults o_seen o_toldParts o_depth o_counted o_becameThen o_firstCorner o_drawn o_ranSteps o_isTold o_marks) u := by
  refine ctL (by decide) (Nat.le_of_ble_eq_true rfl) ?_
  intro p e s m below meth cd A ls aa QQ hq cx hP hD hS hl
  obtain ⟨⟨hx, hb, hml, hown, hts⟩, hr, hlocks, hK, hA, hX⟩ := id cx
  have hl : lv_has ls 1 [(0, .ref a_o)] := hl
  unfold X12_bottom at hf
  refine lv_aload_n hx hb dX12_bottom_0 rfl (lv_at hl 0 rfl) ?_
  refine va_get (D := E.1) (ci := 12) (v := .long o_bottom) (C := RX12) (T := TX12) (N := 39) hx hb hts inX12 hown hK hP 0 rfl rfl 4 (by decide) (hts _ fl_X12_17) (fun _ h9 => h9) rfl dX12_bottom_1 ?_
  obtain rfl := Option.some.inj hf
  subst hq
  exact retL cx hP hD hS dX12_bottom_4
def X12_is (o_status : Int32) (v1 : Int32) : Option (Int32 × Int32) :=
  if v1 = 0 then
  some (1, v1)
  else
  some (0, v1)
abbrev wd_X12_is (E : vE) (a_o a_o_at a_o_names a_o_sort a_o_trayMany a_o_trays a_o_tape a_o_text a_o_opened a_o_farBy a_o_attendsBy a_o_coveredBy a_o_cameBy a_o_cameThen a_o_fallsBy a_o_loops a_o_ran a_o_told1 : Nat) (o_status : Int32) (o_top : Int64) (o_bottom : Int64) (o_taped : Int32) (o_size : Int32) (o_token : Int32) (o_from : Int32) (o_end : Int32) (o_value : Int32) (o_faultKind : Int32) (o_faultPlace : Int32) (o_faults : Int32) (o_seen : Int32) (o_toldParts : Int32) (o_depth : Int32) (o_counted : Int32) (o_becameThen : Int32) (o_firstCorner : Int32) (o_drawn : Int32) (o_ranSteps : Int32) (o_isTold : Int32) (o_marks : Int32) : va_W := [(a_o, .inr (12, [.ref a_o_at, .ref a_o_names, .int o_status, .long o_top, .long o_bottom, .ref a_o_sort, .ref a_o_trayMany, .ref a_o_trays, .ref a_o_tape, .ref a_o_text, .int o_taped, .int o_size, .int o_token, .int o_from, .int o_end, .int o_value, .int o_faultKind, .int o_faultPlace, .int o_faults, .int o_seen, .int o_toldParts, .ref a_o_opened, .int o_depth, .int o_counted, .ref a_o_farBy, .int o_becameThen, .ref a_o_attendsBy, .ref a_o_coveredBy, .ref a_o_cameBy, .ref a_o_cameThen, .int o_firstCorner, .ref a_o_fallsBy, .int o_drawn, .int o_ranSteps, .ref a_o_loops, .ref a_o_ran, .ref a_o_told1, .int o_isTold, .int o_marks]))]
set_option maxHeartbeats 4000000 in
set_option maxRecDepth 100000 in
theorem ct_X12_is (l : Launch) (E : vE) (a_o a_o_at a_o_names a_o_sort a_o_trayMany a_o_trays a_o_tape a_o_text a_o_opened a_o_farBy a_o_attendsBy a_o_coveredBy a_o_cameBy a_o_cameThen a_o_fallsBy a_o_loops a_o_ran a_o_told1 : Nat) (o_status : Int32) (o_top : Int64) (o_bottom : Int64) (o_taped : Int32) (o_size : Int32) (o_token : Int32) (o_from : Int32) (o_end : Int32) (o_value : Int32) (o_faultKind : Int32) (o_faultPlace : Int32) (o_faults : Int32) (o_seen : Int32) (o_toldParts : Int32) (o_depth : Int32) (o_counted : Int32) (o_becameThen : Int32) (o_firstCorner : Int32) (o_drawn : Int32) (o_ranSteps : Int32) (o_isTold : Int32) (o_marks : Int32) (v1 : Int32) (u : Int32 × Int32) (hf : X12_is o_status v1 = some u) :
    CtI l yX12_is cX12_is 2 (some .boolean) 0 E [.ref a_o, .int v1] (wd_X12_is E a_o a_o_at a_o_names a_o_sort a_o_trayMany a_o_trays a_o_tape a_o_text a_o_opened a_o_farBy a_o_attendsBy a_o_coveredBy a_o_cameBy a_o_cameThen a_o_fallsBy a_o_loops a_o_ran a_o_told1 o_status o_top o_bottom o_taped o_size o_token o_from o_end o_value o_faultKind o_faultPlace o_faults o_seen o_toldParts o_depth o_counted o_becameThen o_firstCorner o_drawn o_ranSteps o_isTold o_marks) (wd_X12_is E a_o a_o_at a_o_names a_o_sort a_o_trayMany a_o_trays a_o_tape a_o_text a_o_opened a_o_farBy a_o_attendsBy a_o_coveredBy a_o_cameBy a_o_cameThen a_o_fallsBy a_o_loops a_o_ran a_o_told1 u.2 o_top o_bottom o_taped o_size o_token o_from o_end o_value o_faultKind o_faultPlace o_faults o_seen o_toldParts o_depth o_counted o_becameThen o_firstCorner o_drawn o_ranSteps o_isTold o_marks) u.1 := by
  refine ctI (by decide) (Nat.le_of_ble_eq_true rfl) ?_
  intro p e s m below meth cd A ls aa QQ hq cx hP hD hS hl
  obtain ⟨⟨hx, hb, hml, hown, hts⟩, hr, hlocks, hK, hA, hX⟩ := id cx
  have hl : lv_has ls 2 [(0, .ref a_o), (1, .int v1)] := hl
  unfold X12_is at hf
  refine lv_aload_n hx hb dX12_is_0 rfl (lv_at hl 0 rfl) ?_
  refine lv_iload_n hx hb dX12_is_1 rfl (lv_at hl 1 rfl) ?_
  refine va_put (D := E.1) (ci := 12) (v := .int v1) (ty := .int) (C := RX12) (T := TX12) (N := 39) hx hb hts inX12 tyX12 tyX12_ok nmX12 hown hK hP hD hS 0 rfl rfl 2 (by decide) (hts _ fl_X12_79) (fun _ h9 => h9) rfl (by decide +kernel) rfl rfl (Nat.le_of_ble_eq_true rfl) dX12_is_2 (fun H locs hP hD hS => ?_)
  have hP : va_P E.1 vwCl (wd_X12_is E a_o a_o_at a_o_names a_o_sort a_o_trayMany a_o_trays a_o_tape a_o_text a_o_opened a_o_farBy a_o_attendsBy a_o_coveredBy a_o_cameBy a_o_cameThen a_o_fallsBy a_o_loops a_o_ran a_o_told1 v1 o_top o_bottom o_taped o_size o_token o_from o_end o_value o_faultKind o_faultPlace o_faults o_seen o_toldParts o_depth o_counted o_becameThen o_firstCorner o_drawn o_ranSteps o_isTold o_marks) H := hP
  have hD : va_D A (wd_X12_is E a_o a_o_at a_o_names a_o_sort a_o_trayMany a_o_trays a_o_tape a_o_text a_o_opened a_o_farBy a_o_attendsBy a_o_coveredBy a_o_cameBy a_o_cameThen a_o_fallsBy a_o_loops a_o_ran a_o_told1 v1 o_top o_bottom o_taped o_size o_token o_from o_end o_value o_faultKind o_faultPlace o_faults o_seen o_toldParts o_depth o_counted o_becameThen o_firstCorner o_drawn o_ranSteps o_isTold o_marks) := hD
  refine lv_iload_n hx hb dX12_is_5 rfl (lv_at hl 1 rfl) ?_
  refine lv_if_ne (tgt := 13) hx hb dX12_is_6 (by decide) (fun hc => ?_) (fun hc => ?_)
  · have hf := it_f hc hf
    refine lv_iconst (v := 0) hx hb dX12_is_13 (by decide) ?_
    obtain rfl := Option.some.inj hf
    subst hq
    exact retZ cx rfl hP hD hS dX12_is_14
  · have hf := it_t hc hf
    refine lv_iconst (v := 1) hx hb dX12_is_9 (by decide) ?_
    refine lv_goto (tgt := 14) hx hb dX12_is_10 (by decide) ?_
    obtain rfl := Option.some.inj hf
    subst hq
    exact retZ cx rfl hP hD hS dX12_is_14
def X12_refuse (o_status : Int32) (v1 : Int32) : Option (Int32 × Int32) :=
  some ((-1), v1)
abbrev wd_X12_refuse (E : vE) (a_o a_o_at a_o_names a_o_sort a_o_trayMany a_o_trays a_o_tape a_o_text a_o_opened a_o_farBy a_o_attendsBy a_o_coveredBy a_o_cameBy a_o_cameThen a_o_fallsBy a_o_loops a_o_ran a_o_told1 : Nat) (o_status : Int32) (o_top : Int64) (o_bottom : Int64) (o_taped : Int32) (o_size : Int32) (o_token : Int32) (o_from : Int32) (o_end : Int32) (o_value : Int32) (o_faultKind : Int32) (o_faultPlace : Int32) (o_faults : Int32) (o_seen : Int32) (o_toldParts : Int32) (o_depth : Int32) (o_counted : Int32) (o_becameThen : Int32) (o_firstCorner : Int32) (o_drawn : Int32) (o_ranSteps : Int32) (o_isTold : Int32) (o_marks : Int32) : va_W := [(a_o, .inr (12, [.ref a_o_at, .ref a_o_names, .int o_status, .long o_top, .long o_bottom, .ref a_o_sort, .ref a_o_trayMany, .ref a_o_trays, .ref a_o_tape, .ref a_o_text, .int o_taped, .int o_size, .int o_token, .int o_from, .int o_end, .int o_value, .int o_faultKind, .int o_faultPlace, .int o_faults, .int o_seen, .int o_toldParts, .ref a_o_opened, .int o_depth, .int o_counted, .ref a_o_farBy, .int o_becameThen, .ref a_o_attendsBy, .ref a_o_coveredBy, .ref a_o_cameBy, .ref a_o_cameThen, .int o_firstCorner, .ref a_o_fallsBy, .int o_drawn, .int o_ranSteps, .ref a_o_loops, .ref a_o_ran, .ref a_o_told1, .int o_isTold, .int o_marks]))]
set_option maxHeartbeats 4000000 in
set_option maxRecDepth 100000 in
theorem ct_X12_refuse (l : Launch) (E : vE) (a_o a_o_at a_o_names a_o_sort a_o_trayMany a_o_trays a_o_tape a_o_text a_o_opened a_o_farBy a_o_attendsBy a_o_coveredBy a_o_cameBy a_o_cameThen a_o_fallsBy a_o_loops a_o_ran a_o_told1 : Nat) (o_status : Int32) (o_top : Int64) (o_bottom : Int64) (o_taped : Int32) (o_size : Int32) (o_token : Int32) (o_from : Int32) (o_end : Int32) (o_value : Int32) (o_faultKind : Int32) (o_faultPlace : Int32) (o_faults : Int32) (o_seen : Int32) (o_toldParts : Int32) (o_depth : Int32) (o_counted : Int32) (o_becameThen : Int32) (o_firstCorner : Int32) (o_drawn : Int32) (o_ranSteps : Int32) (o_isTold : Int32) (o_marks : Int32) (v1 : Int32) (u : Int32 × Int32) (hf : X12_refuse o_status v1 = some u) :
    CtI l yX12_refuse cX12_refuse 2 (some .int) 0 E [.ref a_o, .int v1] (wd_X12_refuse E a_o a_o_at a_o_names a_o_sort a_o_trayMany a_o_trays a_o_tape a_o_text a_o_opened a_o_farBy a_o_attendsBy a_o_coveredBy a_o_cameBy a_o_cameThen a_o_fallsBy a_o_loops a_o_ran a_o_told1 o_status o_top o_bottom o_taped o_size o_token o_from o_end o_value o_faultKind o_faultPlace o_faults o_seen o_toldParts o_depth o_counted o_becameThen o_firstCorner o_drawn o_ranSteps o_isTold o_marks) (wd_X12_refuse E a_o a_o_at a_o_names a_o_sort a_o_trayMany a_o_trays a_o_tape a_o_text a_o_opened a_o_farBy a_o_attendsBy a_o_coveredBy a_o_cameBy a_o_cameThen a_o_fallsBy a_o_loops a_o_ran a_o_told1 u.2 o_top o_bottom o_taped o_size o_token o_from o_end o_value o_faultKind o_faultPlace o_faults o_seen o_toldParts o_depth o_counted o_becameThen o_firstCorner o_drawn o_ranSteps o_isTold o_marks) u.1 := by
  refine ctI (by decide) (Nat.le_of_ble_eq_true rfl) ?_
  intro p e s m below meth cd A ls aa QQ hq cx hP hD hS hl
  obtain ⟨⟨hx, hb, hml, hown, hts⟩, hr, hlocks, hK, hA, hX⟩ := id cx
  have hl : lv_has ls 2 [(0, .ref a_o), (1, .int v1)] := hl
  unfold X12_refuse at hf
  refine lv_aload_n hx hb dX12_refuse_0 rfl (lv_at hl 0 rfl) ?_
  refine lv_iload_n hx hb dX12_refuse_1 rfl (lv_at hl 1 rfl) ?_
  refine va_put (D := E.1) (ci := 12) (v := .int v1) (ty := .int) (C := RX12) (T := TX12) (N := 39) hx hb hts inX12 tyX12 tyX12_ok nmX12 hown hK hP hD hS 0 rfl rfl 2 (by decide) (hts _ fl_X12_79) (fun _ h9 => h9) rfl (by decide +kernel) rfl rfl (Nat.le_of_ble_eq_true rfl) dX12_refuse_2 (fun H locs hP hD hS => ?_)
  have hP : va_P E.1 vwCl (wd_X12_refuse E a_o a_o_at a_o_names a_o_sort a_o_trayMany a_o_trays a_o_tape a_o_text a_o_opened a_o_farBy a_o_attendsBy a_o_coveredBy a_o_cameBy a_o_cameThen a_o_fallsBy a_o_loops a_o_ran a_o_told1 v1 o_top o_bottom o_taped o_size o_token o_from o_end o_value o_faultKind o_faultPlace o_faults o_seen o_toldParts o_depth o_counted o_becameThen o_firstCorner o_drawn o_ranSteps o_isTold o_marks) H := hP
  have hD : va_D A (wd_X12_refuse E a_o a_o_at a_o_names a_o_sort a_o_trayMany a_o_trays a_o_tape a_o_text a_o_opened a_o_farBy a_o_attendsBy a_o_coveredBy a_o_cameBy a_o_cameThen a_o_fallsBy a_o_loops a_o_ran a_o_told1 v1 o_top o_bottom o_taped o_size o_token o_from o_end o_value o_faultKind o_faultPlace o_faults o_seen o_toldParts o_depth o_counted o_becameThen o_firstCorner o_drawn o_ranSteps o_isTold o_marks) := hD
  refine lv_iconst (v := (-1)) hx hb dX12_refuse_5 (by decide) ?_
  obtain rfl := Option.some.inj hf
  subst hq
  exact retI cx hP hD hS dX12_refuse_6
def X12_gives (o_status : Int32) (v1 : Int32) : Option (Int32 × Int32) :=
  some (v1, 0)
abbrev wd_X12_gives (E : vE) (a_o a_o_at a_o_names a_o_sort a_o_trayMany a_o_trays a_o_tape a_o_text a_o_opened a_o_farBy a_o_attendsBy a_o_coveredBy a_o_cameBy a_o_cameThen a_o_fallsBy a_o_loops a_o_ran a_o_told1 : Nat) (o_status : Int32) (o_top : Int64) (o_bottom : Int64) (o_taped : Int32) (o_size : Int32) (o_token : Int32) (o_from : Int32) (o_end : Int32) (o_value : Int32) (o_faultKind : Int32) (o_faultPlace : Int32) (o_faults : Int32) (o_seen : Int32) (o_toldParts : Int32) (o_depth : Int32) (o_counted : Int32) (o_becameThen : Int32) (o_firstCorner : Int32) (o_drawn : Int32) (o_ranSteps : Int32) (o_isTold : Int32) (o_marks : Int32) : va_W := [(a_o, .inr (12, [.ref a_o_at, .ref a_o_names, .int o_status, .long o_top, .long o_bottom, .ref a_o_sort, .ref a_o_trayMany, .ref a_o_trays, .ref a_o_tape, .ref a_o_text, .int o_taped, .int o_size, .int o_token, .int o_from, .int o_end, .int o_value, .int o_faultKind, .int o_faultPlace, .int o_faults, .int o_seen, .int o_toldParts, .ref a_o_opened, .int o_depth, .int o_counted, .ref a_o_farBy, .int o_becameThen, .ref a_o_attendsBy, .ref a_o_coveredBy, .ref a_o_cameBy, .ref a_o_cameThen, .int o_firstCorner, .ref a_o_fallsBy, .int o_drawn, .int o_ranSteps, .ref a_o_loops, .ref a_o_ran, .ref a_o_told1, .int o_isTold, .int o_marks]))]
set_option maxHeartbeats 4000000 in
set_option maxRecDepth 100000 in
theorem ct_X12_gives (l : Launch) (E : vE) (a_o a_o_at a_o_names a_o_sort a_o_trayMany a_o_trays a_o_tape a_o_text a_o_opened a_o_farBy a_o_attendsBy a_o_coveredBy a_o_cameBy a_o_cameThen a_o_fallsBy a_o_loops a_o_ran a_o_told1 : Nat) (o_status : Int32) (o_top : Int64) (o_bottom : Int64) (o_taped : Int32) (o_size : Int32) (o_token : Int32) (o_from : Int32) (o_end : Int32) (o_value : Int32) (o_faultKind : Int32) (o_faultPlace : Int32) (o_faults : Int32) (o_seen : Int32) (o_toldParts : Int32) (o_depth : Int32) (o_counted : Int32) (o_becameThen : Int32) (o_firstCorner : Int32) (o_drawn : Int32) (o_ranSteps : Int32) (o_isTold : Int32) (o_marks : Int32) (v1 : Int32) (u : Int32 × Int32) (hf : X12_gives o_status v1 = some u) :
    CtI l yX12_gives cX12_gives 2 (some .int) 0 E [.ref a_o, .int v1] (wd_X12_gives E a_o a_o_at a_o_names a_o_sort a_o_trayMany a_o_trays a_o_tape a_o_text a_o_opened a_o_farBy a_o_attendsBy a_o_coveredBy a_o_cameBy a_o_cameThen a_o_fallsBy a_o_loops a_o_ran a_o_told1 o_status o_top o_bottom o_taped o_size o_token o_from o_end o_value o_faultKind o_faultPlace o_faults o_seen o_toldParts o_depth o_counted o_becameThen o_firstCorner o_drawn o_ranSteps o_isTold o_marks) (wd_X12_gives E a_o a_o_at a_o_names a_o_sort a_o_trayMany a_o_trays a_o_tape a_o_text a_o_opened a_o_farBy a_o_attendsBy a_o_coveredBy a_o_cameBy a_o_cameThen a_o_fallsBy a_o_loops a_o_ran a_o_told1 u.2 o_top o_bottom o_taped o_size o_token o_from o_end o_value o_faultKind o_faultPlace o_faults o_seen o_toldParts o_depth o_counted o_becameThen o_firstCorner o_drawn o_ranSteps o_isTold o_marks) u.1 := by
  refine ctI (by decide) (Nat.le_of_ble_eq_true rfl) ?_
  intro p e s m below meth cd A ls aa QQ hq cx hP hD hS hl
  obtain ⟨⟨hx, hb, hml, hown, hts⟩, hr, hlocks, hK, hA, hX⟩ := id cx
  have hl : lv_has ls 2 [(0, .ref a_o), (1, .int v1)] := hl
  unfold X12_gives at hf
  refine lv_aload_n hx hb dX12_gives_0 rfl (lv_at hl 0 rfl) ?_
  refine lv_iconst (v := 0) hx hb dX12_gives_1 (by decide) ?_
  refine va_put (D := E.1) (ci := 12) (v := .int 0) (ty := .int) (C := RX12) (T := TX12) (N := 39) hx hb hts inX12 tyX12 tyX12_ok nmX12 hown hK hP hD hS 0 rfl rfl 2 (by decide) (hts _ fl_X12_79) (fun _ h9 => h9) rfl (by decide +kernel) rfl rfl (Nat.le_of_ble_eq_true rfl) dX12_gives_2 (fun H locs hP hD hS => ?_)
  have hP : va_P E.1 vwCl (wd_X12_gives E a_o a_o_at a_o_names a_o_sort a_o_trayMany a_o_trays a_o_tape a_o_text a_o_opened a_o_farBy a_o_attendsBy a_o_coveredBy a_o_cameBy a_o_cameThen a_o_fallsBy a_o_loops a_o_ran a_o_told1 0 o_top o_bottom o_taped o_size o_token o_from o_end o_value o_faultKind o_faultPlace o_faults o_seen o_toldParts o_depth o_counted o_becameThen o_firstCorner o_drawn o_ranSteps o_isTold o_marks) H := hP
  have hD : va_D A (wd_X12_gives E a_o a_o_at a_o_names a_o_sort a_o_trayMany a_o_trays a_o_tape a_o_text a_o_opened a_o_farBy a_o_attendsBy a_o_coveredBy a_o_cameBy a_o_cameThen a_o_fallsBy a_o_loops a_o_ran a_o_told1 0 o_top o_bottom o_taped o_size o_token o_from o_end o_value o_faultKind o_faultPlace o_faults o_seen o_toldParts o_depth o_counted o_becameThen o_firstCorner o_drawn o_ranSteps o_isTold o_marks) := hD
  refine lv_iload_n hx hb dX12_gives_5 rfl (lv_at hl 1 rfl) ?_
  obtain rfl := Option.some.inj hf
  subst hq
  exact retI cx hP hD hS dX12_gives_6
def X12_orNone (o_status : Int32) (v1 : Int32) : Option (Int32 × Int32) :=
  if v1 = (-1) then
  (X12_refuse o_status (6 : Int32)).bind fun u8 =>
  some (u8.1, u8.2)
  else
  (X12_gives o_status v1).bind fun u16 =>
  some (u16.1, u16.2)
abbrev wd_X12_orNone (E : vE) (a_o a_o_at a_o_names a_o_sort a_o_trayMany a_o_trays a_o_tape a_o_text a_o_opened a_o_farBy a_o_attendsBy a_o_coveredBy a_o_cameBy a_o_cameThen a_o_fallsBy a_o_loops a_o_ran a_o_told1 : Nat) (o_status : Int32) (o_top : Int64) (o_bottom : Int64) (o_taped : Int32) (o_size : Int32) (o_token : Int32) (o_from : Int32) (o_end : Int32) (o_value : Int32) (o_faultKind : Int32) (o_faultPlace : Int32) (o_faults : Int32) (o_seen : Int32) (o_toldParts : Int32) (o_depth : Int32) (o_counted : Int32) (o_becameThen : Int32) (o_firstCorner : Int32) (o_drawn : Int32) (o_ranSteps : Int32) (o_isTold : Int32) (o_marks : Int32) : va_W := [(a_o, .inr (12, [.ref a_o_at, .ref a_o_names, .int o_status, .long o_top, .long o_bottom, .ref a_o_sort, .ref a_o_trayMany, .ref a_o_trays, .ref a_o_tape, .ref a_o_text, .int o_taped, .int o_size, .int o_token, .int o_from, .int o_end, .int o_value, .int o_faultKind, .int o_faultPlace, .int o_faults, .int o_seen, .int o_toldParts, .ref a_o_opened, .int o_depth, .int o_counted, .ref a_o_farBy, .int o_becameThen, .ref a_o_attendsBy, .ref a_o_coveredBy, .ref a_o_cameBy, .ref a_o_cameThen, .int o_firstCorner, .ref a_o_fallsBy, .int o_drawn, .int o_ranSteps, .ref a_o_loops, .ref a_o_ran, .ref a_o_told1, .int o_isTold, .int o_marks]))]
set_option maxHeartbeats 4000000 in
set_option maxRecDepth 100000 in
theorem ct_X12_orNone (l : Launch) (E : vE) (a_o a_o_at a_o_names a_o_sort a_o_trayMany a_o_trays a_o_tape a_o_text a_o_opened a_o_farBy a_o_attendsBy a_o_coveredBy a_o_cameBy a_o_cameThen a_o_fallsBy a_o_loops a_o_ran a_o_told1 : Nat) (o_status : Int32) (o_top : Int64) (o_bottom : Int64) (o_taped : Int32) (o_size : Int32) (o_token : Int32) (o_from : Int32) (o_end : Int32) (o_value : Int32) (o_faultKind : Int32) (o_faultPlace : Int32) (o_faults : Int32) (o_seen : Int32) (o_toldParts : Int32) (o_depth : Int32) (o_counted : Int32) (o_becameThen : Int32) (o_firstCorner : Int32) (o_drawn : Int32) (o_ranSteps : Int32) (o_isTold : Int32) (o_marks : Int32) (v1 : Int32) (u : Int32 × Int32) (hf : X12_orNone o_status v1 = some u) :
    CtI l yX12_orNone cX12_orNone 2 (some .int) 1 E [.ref a_o, .int v1] (wd_X12_orNone E a_o a_o_at a_o_names a_o_sort a_o_trayMany a_o_trays a_o_tape a_o_text a_o_opened a_o_farBy a_o_attendsBy a_o_coveredBy a_o_cameBy a_o_cameThen a_o_fallsBy a_o_loops a_o_ran a_o_told1 o_status o_top o_bottom o_taped o_size o_token o_from o_end o_value o_faultKind o_faultPlace o_faults o_seen o_toldParts o_depth o_counted o_becameThen o_firstCorner o_drawn o_ranSteps o_isTold o_marks) (wd_X12_orNone E a_o a_o_at a_o_names a_o_sort a_o_trayMany a_o_trays a_o_tape a_o_text a_o_opened a_o_farBy a_o_attendsBy a_o_coveredBy a_o_cameBy a_o_cameThen a_o_fallsBy a_o_loops a_o_ran a_o_told1 u.2 o_top o_bottom o_taped o_size o_token o_from o_end o_value o_faultKind o_faultPlace o_faults o_seen o_toldParts o_depth o_counted o_becameThen o_firstCorner o_drawn o_ranSteps o_isTold o_marks) u.1 := by
  refine ctI (by decide) (Nat.le_of_ble_eq_true rfl) ?_
  intro p e s m below meth cd A ls aa QQ hq cx hP hD hS hl
  obtain ⟨⟨hx, hb, hml, hown, hts⟩, hr, hlocks, hK, hA, hX⟩ := id cx
  have hl : lv_has ls 2 [(0, .ref a_o), (1, .int v1)] := hl
  unfold X12_orNone at hf
  refine lv_iload_n hx hb dX12_orNone_0 rfl (lv_at hl 1 rfl) ?_
  refine lv_iconst (v := (-1)) hx hb dX12_orNone_1 (by decide) ?_
  refine lv_icmp_ne (tgt := 14) hx hb dX12_orNone_2 (by decide) (fun hc => ?_) (fun hc => ?_)
  · have hf := it_f hc hf
    refine lv_aload_n hx hb dX12_orNone_14 rfl (lv_at hl 0 rfl) ?_
    refine lv_iload_n hx hb dX12_orNone_15 rfl (lv_at hl 1 rfl) ?_
    obtain ⟨u16, hu16, hf⟩ := bd hf
    refine callVI (wn := (wd_X12_orNone E a_o a_o_at a_o_names a_o_sort a_o_trayMany a_o_trays a_o_tape a_o_text a_o_opened a_o_farBy a_o_attendsBy a_o_coveredBy a_o_cameBy a_o_cameThen a_o_fallsBy a_o_loops a_o_ran a_o_told1 u16.2 o_top o_bottom o_taped o_size o_token o_from o_end o_value o_faultKind o_faultPlace o_faults o_seen o_toldParts o_depth o_counted o_becameThen o_firstCorner o_drawn o_ranSteps o_isTold o_marks)) (n1 := 1) (ct_X12_gives l E a_o a_o_at a_o_names a_o_sort a_o_trayMany a_o_trays a_o_tape a_o_text a_o_opened a_o_farBy a_o_attendsBy a_o_coveredBy a_o_cameBy a_o_cameThen a_o_fallsBy a_o_loops a_o_ran a_o_told1 o_status o_top o_bottom o_taped o_size o_token o_from o_end o_value o_faultKind o_faultPlace o_faults o_seen o_toldParts o_depth o_counted o_becameThen o_firstCorner o_drawn o_ranSteps o_isTold o_marks v1 u16 hu16) [0] cal_X12_gives cav_X12_gives lk_X12_89 cx hP hD hS hl dX12_orNone_16 rfl rfl rfl rfl (Nat.le_of_ble_eq_true rfl) ⟨Nat.le_of_ble_eq_true rfl, Nat.le_of_ble_eq_true rfl⟩ rfl (by decide +kernel) rfl [some 0] rfl (by decide +kernel) rfl (fun H locs hP hD hS => ?_)
    obtain rfl := Option.some.inj hf
    subst hq
    exact retI cx hP hD hS dX12_orNone_19
  · have hf := it_t hc hf
    refine lv_aload_n hx hb dX12_orNone_5 rfl (lv_at hl 0 rfl) ?_
    refine lv_bipush (v := 6) hx hb dX12_orNone_6 (by decide) ?_
    obtain ⟨u8, hu8, hf⟩ := bd hf
    refine callVI (wn := (wd_X12_orNone E a_o a_o_at a_o_names a_o_sort a_o_trayMany a_o_trays a_o_tape a_o_text a_o_opened a_o_farBy a_o_attendsBy a_o_coveredBy a_o_cameBy a_o_cameThen a_o_fallsBy a_o_loops a_o_ran a_o_told1 u8.2 o_top o_bottom o_taped o_size o_token o_from o_end o_value o_faultKind o_faultPlace o_faults o_seen o_toldParts o_depth o_counted o_becameThen o_firstCorner o_drawn o_ranSteps o_isTold o_marks)) (n1 := 1) (ct_X12_refuse l E a_o a_o_at a_o_names a_o_sort a_o_trayMany a_o_trays a_o_tape a_o_text a_o_opened a_o_farBy a_o_attendsBy a_o_coveredBy a_o_cameBy a_o_cameThen a_o_fallsBy a_o_loops a_o_ran a_o_told1 o_status o_top o_bottom o_taped o_size o_token o_from o_end o_value o_faultKind o_faultPlace o_faults o_seen o_toldParts o_depth o_counted o_becameThen o_firstCorner o_drawn o_ranSteps o_isTold o_marks (6 : Int32) u8 hu8) [0] cal_X12_refuse cav_X12_refuse lk_X12_85 cx hP hD hS hl dX12_orNone_8 rfl rfl rfl rfl (Nat.le_of_ble_eq_true rfl) ⟨Nat.le_of_ble_eq_true rfl, Nat.le_of_ble_eq_true rfl⟩ rfl (by decide +kernel) rfl [some 0] rfl (by decide +kernel) rfl (fun H locs hP hD hS => ?_)
    refine lv_goto (tgt := 19) hx hb dX12_orNone_11 (by decide) ?_
    obtain rfl := Option.some.inj hf
    subst hq
    exact retI cx hP hD hS dX12_orNone_19
def X12_tellsBy_b6 (F : Nat) (o_status : Int32) (o_top : Int64) (o_bottom : Int64) (v1 : Int64) (v3 : Int64) (st6 : Int64 × Int64) : Option ((Int64 × Int64) ⊕ ((Int64))) :=
  if (lg_cmp st6.2 0) = 0 then
  some (.inr st6.1)
  else
  if ¬ st6.2 = (0 : Int64) then
  some (.inl (st6.2, (jrem64 st6.1 st6.2)))
  else none
def X12_tellsBy (F : Nat) (o_status : Int32) (o_top : Int64) (o_bottom : Int64) (v1 : Int64) (v3 : Int64) : Option (Int32 × Int32 × Int64 × Int64) :=
  (iter (X12_tellsBy_b6 F o_status o_top o_bottom v1 v3) F (v1, v3)).bind (fun (e6 : Int64) =>
    if ¬ e6 = (0 : Int64) then
  if ¬ e6 = (0 : Int64) then
  (X12_is o_status (0 : Int32)).bind fun u49 =>
  if isZ u49.1 then some (u49.1, u49.2, (v1 / e6), (v3 / e6)) else none
  else none
  else none)
abbrev wd_X12_tellsBy (E : vE) (a_o a_o_at a_o_names a_o_sort a_o_trayMany a_o_trays a_o_tape a_o_text a_o_opened a_o_farBy a_o_attendsBy a_o_coveredBy a_o_cameBy a_o_cameThen a_o_fallsBy a_o_loops a_o_ran a_o_told1 : Nat) (o_status : Int32) (o_top : Int64) (o_bottom : Int64) (o_taped : Int32) (o_size : Int32) (o_token : Int32) (o_from : Int32) (o_end : Int32) (o_value : Int32) (o_faultKind : Int32) (o_faultPlace : Int32) (o_faults : Int32) (o_seen : Int32) (o_toldParts : Int32) (o_depth : Int32) (o_counted : Int32) (o_becameThen : Int32) (o_firstCorner : Int32) (o_drawn : Int32) (o_ranSteps : Int32) (o_isTold : Int32) (o_marks : Int32) : va_W := [(a_o, .inr (12, [.ref a_o_at, .ref a_o_names, .int o_status, .long o_top, .long o_bottom, .ref a_o_sort, .ref a_o_trayMany, .ref a_o_trays, .ref a_o_tape, .ref a_o_text, .int o_taped, .int o_size, .int o_token, .int o_from, .int o_end, .int o_value, .int o_faultKind, .int o_faultPlace, .int o_faults, .int o_seen, .int o_toldParts, .ref a_o_opened, .int o_depth, .int o_counted, .ref a_o_farBy, .int o_becameThen, .ref a_o_attendsBy, .ref a_o_coveredBy, .ref a_o_cameBy, .ref a_o_cameThen, .int o_firstCorner, .ref a_o_fallsBy, .int o_drawn, .int o_ranSteps, .ref a_o_loops, .ref a_o_ran, .ref a_o_told1, .int o_isTold, .int o_marks]))]
set_option maxHeartbeats 4000000 in
set_option maxRecDepth 100000 in
theorem ct_X12_tellsBy (l : Launch) (E : vE) (F : Nat) (a_o a_o_at a_o_names a_o_sort a_o_trayMany a_o_trays a_o_tape a_o_text a_o_opened a_o_farBy a_o_attendsBy a_o_coveredBy a_o_cameBy a_o_cameThen a_o_fallsBy a_o_loops a_o_ran a_o_told1 : Nat) (o_status : Int32) (o_top : Int64) (o_bottom : Int64) (o_taped : Int32) (o_size : Int32) (o_token : Int32) (o_from : Int32) (o_end : Int32) (o_value : Int32) (o_faultKind : Int32) (o_faultPlace : Int32) (o_faults : Int32) (o_seen : Int32) (o_toldParts : Int32) (o_depth : Int32) (o_counted : Int32) (o_becameThen : Int32) (o_firstCorner : Int32) (o_drawn : Int32) (o_ranSteps : Int32) (o_isTold : Int32) (o_marks : Int32) (v1 : Int64) (v3 : Int64) (u : Int32 × Int32 × Int64 × Int64) (hf : X12_tellsBy F o_status o_top o_bottom v1 v3 = some u) :
    CtI l yX12_tellsBy cX12_tellsBy 11 (some .boolean) 1 E [.ref a_o, .long v1, .long v3] (wd_X12_tellsBy E a_o a_o_at a_o_names a_o_sort a_o_trayMany a_o_trays a_o_tape a_o_text a_o_opened a_o_farBy a_o_attendsBy a_o_coveredBy a_o_cameBy a_o_cameThen a_o_fallsBy a_o_loops a_o_ran a_o_told1 o_status o_top o_bottom o_taped o_size o_token o_from o_end o_value o_faultKind o_faultPlace o_faults o_seen o_toldParts o_depth o_counted o_becameThen o_firstCorner o_drawn o_ranSteps o_isTold o_marks) (wd_X12_tellsBy E a_o a_o_at a_o_names a_o_sort a_o_trayMany a_o_trays a_o_tape a_o_text a_o_opened a_o_farBy a_o_attendsBy a_o_coveredBy a_o_cameBy a_o_cameThen a_o_fallsBy a_o_loops a_o_ran a_o_told1 u.2.1 u.2.2.1 u.2.2.2 o_taped o_size o_token o_from o_end o_value o_faultKind o_faultPlace o_faults o_seen o_toldParts o_depth o_counted o_becameThen o_firstCorner o_drawn o_ranSteps o_isTold o_marks) u.1 := by
  refine ctI (by decide) (Nat.le_of_ble_eq_true rfl) ?_
  intro p e s m below meth cd A ls aa QQ hq cx hP hD hS hl
  obtain ⟨⟨hx, hb, hml, hown, hts⟩, hr, hlocks, hK, hA, hX⟩ := id cx
  have hl : lv_has ls 11 [(0, .ref a_o), (1, .long v1), (3, .long v3)] := hl
  unfold X12_tellsBy at hf
  refine lv_lload_n hx hb dX12_tellsBy_0 rfl (lv_at hl 1 rfl) ?_
  refine lv_lstore (lv' := [(5, .long v1), (0, .ref a_o), (1, .long v1), (3, .long v3)]) hx hb dX12_tellsBy_1 hl (by decide) rfl (fun ls hl => ?_)
  refine lv_lload_n hx hb dX12_tellsBy_3 rfl (lv_at hl 3 rfl) ?_
  refine lv_lstore (lv' := [(7, .long v3), (5, .long v1), (0, .ref a_o), (1, .long v1), (3, .long v3)]) hx hb dX12_tellsBy_4 hl (by decide) rfl (fun ls hl => ?_)
  obtain ⟨e6, hit6, hf⟩ := bd hf
  refine iter_W (b := X12_tellsBy_b6 F o_status o_top o_bottom v1 v3) (P := fun st6 => ∀ (H : Heap) (locs : List Loc) (ls : Array Slot), va_P E.1 vwCl (wd_X12_tellsBy E a_o a_o_at a_o_names a_o_sort a_o_trayMany a_o_trays a_o_tape a_o_text a_o_opened a_o_farBy a_o_attendsBy a_o_coveredBy a_o_cameBy a_o_cameThen a_o_fallsBy a_o_loops a_o_ran a_o_told1 o_status o_top o_bottom o_taped o_size o_token o_from o_end o_value o_faultKind o_faultPlace o_faults o_seen o_toldParts o_depth o_counted o_becameThen o_firstCorner o_drawn o_ranSteps o_isTold o_marks) H → va_D A (wd_X12_tellsBy E a_o a_o_at a_o_names a_o_sort a_o_trayMany a_o_trays a_o_tape a_o_text a_o_opened a_o_farBy a_o_attendsBy a_o_coveredBy a_o_cameBy a_o_cameThen a_o_fallsBy a_o_loops a_o_ran a_o_told1 o_status o_top o_bottom o_taped o_size o_token o_from o_end o_value o_faultKind o_faultPlace o_faults o_seen o_toldParts o_depth o_counted o_becameThen o_firstCorner o_drawn o_ranSteps o_isTold o_marks) → va_S A s.heap H locs → lv_has ls 11 [(0, .ref a_o), (1, .long v1), (3, .long v3), (5, .long st6.1), (7, .long st6.2)] → W p l e (rmd 1) s m aa below meth cd H locs 0 0 QQ (F0 m 6 ls [])) (G := (fun (e6 : Int64) => ∀ (H : Heap) (locs : List Loc) (ls : Array Slot), va_P E.1 vwCl (wd_X12_tellsBy E a_o a_o_at a_o_names a_o_sort a_o_trayMany a_o_trays a_o_tape a_o_text a_o_opened a_o_farBy a_o_attendsBy a_o_coveredBy a_o_cameBy a_o_cameThen a_o_fallsBy a_o_loops a_o_ran a_o_told1 o_status o_top o_bottom o_taped o_size o_token o_from o_end o_value o_faultKind o_faultPlace o_faults o_seen o_toldParts o_depth o_counted o_becameThen o_firstCorner o_drawn o_ranSteps o_isTold o_marks) H → va_D A (wd_X12_tellsBy E a_o a_o_at a_o_names a_o_sort a_o_trayMany a_o_trays a_o_tape a_o_text a_o_opened a_o_farBy a_o_attendsBy a_o_coveredBy a_o_cameBy a_o_cameThen a_o_fallsBy a_o_loops a_o_ran a_o_told1 o_status o_top o_bottom o_taped o_size o_token o_from o_end o_value o_faultKind o_faultPlace o_faults o_seen o_toldParts o_depth o_counted o_becameThen o_firstCorner o_drawn o_ranSteps o_isTold o_marks) → va_S A s.heap H locs → lv_has ls 11 [(0, .ref a_o), (1, .long v1), (3, .long v3), (5, .long e6)] → W p l e (rmd 1) s m aa below meth cd H locs 0 0 QQ (F0 m 31 ls []))) ?_ F (v1, v3) e6 hit6 ?_ _ _ _ hP hD hS (lv_sub hl [2, 3, 4, 1, 0] rfl)
  · intro st6 r6 hf hk6 he6 H locs ls hP hD hS hl
    unfold X12_tellsBy_b6 at hf
    refine lv_lload hx hb dX12_tellsBy_6 (lv_at hl 4 rfl) ?_
    refine lv_lconst (v := 0) hx hb dX12_tellsBy_8 (by decide) ?_
    refine W.lcmp hx hb dX12_tellsBy_9 ?_
    refine lv_if_eq (tgt := 31) hx hb dX12_tellsBy_10 (by decide) (fun hc => ?_) (fun hc => ?_)
    · have hf := it_t hc hf
      exact he6 _ (Option.some.inj hf).symm _ _ _ hP hD hS (lv_sub hl [0, 1, 2, 3] rfl)
    · have hf := it_f hc hf
      refine lv_lload hx hb dX12_tellsBy_13 (lv_at hl 3 rfl) ?_
      refine lv_lload hx hb dX12_tellsBy_15 (lv_at hl 4 rfl) ?_
      obtain ⟨hnz, hf⟩ := ck hf
      refine r_lrem hx hb dX12_tellsBy_17 hnz ?_
      refine lv_lstore (lv' := [(9, .long (jrem64 st6.1 st6.2)), (0, .ref a_o), (1, .long v1), (3, .long v3), (5, .long st6.1), (7, .long st6.2)]) hx hb dX12_tellsBy_18 hl (by decide) rfl (fun ls hl => ?_)
      refine lv_lload hx hb dX12_tellsBy_20 (lv_at hl 5 rfl) ?_
      refine lv_lstore (lv' := [(5, .long st6.2), (9, .long (jrem64 st6.1 st6.2)), (0, .ref a_o), (1, .long v1), (3, .long v3), (7, .long st6.2)]) hx hb dX12_tellsBy_22 hl (by decide) rfl (fun ls hl => ?_)
      refine lv_lload hx hb dX12_tellsBy_24 (lv_at hl 1 rfl) ?_
      refine lv_lstore (lv' := [(7, .long (jrem64 st6.1 st6.2)), (5, .long st6.2), (9, .long (jrem64 st6.1 st6.2)), (0, .ref a_o), (1, .long v1), (3, .long v3)]) hx hb dX12_tellsBy_26 hl (by decide) rfl (fun ls hl => ?_)
      refine lv_goto (tgt := 6) hx hb dX12_tellsBy_28 (by decide) ?_
      exact hk6 _ (Option.some.inj hf).symm _ _ _ hP hD hS (lv_sub hl [3, 4, 5, 1, 0] rfl)
  · refine fun H locs ls hP hD hS hl => ?_
    refine lv_aload_n hx hb dX12_tellsBy_31 rfl (lv_at hl 0 rfl) ?_
    refine lv_lload_n hx hb dX12_tellsBy_32 rfl (lv_at hl 1 rfl) ?_
    refine lv_lload hx hb dX12_tellsBy_33 (lv_at hl 3 rfl) ?_
    obtain ⟨hnz, hf⟩ := ck hf
    refine lv_ldiv hx hb dX12_tellsBy_35 hnz ?_
    refine va_put (D := E.1) (ci := 12) (v := .long (v1 / e6)) (ty := .long) (C := RX12) (T := TX12) (N := 39) hx hb hts inX12 tyX12 tyX12_ok nmX12 hown hK hP hD hS 0 rfl rfl 3 (by decide) (hts _ fl_X12_82) (fun _ h9 => h9) rfl (by decide +kernel) rfl rfl (Nat.le_of_ble_eq_true rfl) dX12_tellsBy_36 (fun H locs hP hD hS => ?_)
    have hP : va_P E.1 vwCl (wd_X12_tellsBy E a_o a_o_at a_o_names a_o_sort a_o_trayMany a_o_trays a_o_tape a_o_text a_o_opened a_o_farBy a_o_attendsBy a_o_coveredBy a_o_cameBy a_o_cameThen a_o_fallsBy a_o_loops a_o_ran a_o_told1 o_status (v1 / e6) o_bottom o_taped o_size o_token o_from o_end o_value o_faultKind o_faultPlace o_faults o_seen o_toldParts o_depth o_counted o_becameThen o_firstCorner o_drawn o_ranSteps o_isTold o_marks) H := hP
    have hD : va_D A (wd_X12_tellsBy E a_o a_o_at a_o_names a_o_sort a_o_trayMany a_o_trays a_o_tape a_o_text a_o_opened a_o_farBy a_o_attendsBy a_o_coveredBy a_o_cameBy a_o_cameThen a_o_fallsBy a_o_loops a_o_ran a_o_told1 o_status (v1 / e6) o_bottom o_taped o_size o_token o_from o_end o_value o_faultKind o_faultPlace o_faults o_seen o_toldParts o_depth o_counted o_becameThen o_firstCorner o_drawn o_ranSteps o_isTold o_marks) := hD
    refine lv_aload_n hx hb dX12_tellsBy_39 rfl (lv_at hl 0 rfl) ?_
    refine lv_lload_n hx hb dX12_tellsBy_40 rfl (lv_at hl 2 rfl) ?_
    refine lv_lload hx hb dX12_tellsBy_41 (lv_at hl 3 rfl) ?_
    obtain ⟨hnz, hf⟩ := ck hf
    refine lv_ldiv hx hb dX12_tellsBy_43 hnz ?_
    refine va_put (D := E.1) (ci := 12) (v := .long (v3 / e6)) (ty := .long) (C := RX12) (T := TX12) (N := 39) hx hb hts inX12 tyX12 tyX12_ok nmX12 hown hK hP hD hS 0 rfl rfl 4 (by decide) (hts _ fl_X12_17) (fun _ h9 => h9) rfl (by decide +kernel) rfl rfl (Nat.le_of_ble_eq_true rfl) dX12_tellsBy_44 (fun H locs hP hD hS => ?_)
    have hP : va_P E.1 vwCl (wd_X12_tellsBy E a_o a_o_at a_o_names a_o_sort a_o_trayMany a_o_trays a_o_tape a_o_text a_o_opened a_o_farBy a_o_attendsBy a_o_coveredBy a_o_cameBy a_o_cameThen a_o_fallsBy a_o_loops a_o_ran a_o_told1 o_status (v1 / e6) (v3 / e6) o_taped o_size o_token o_from o_end o_value o_faultKind o_faultPlace o_faults o_seen o_toldParts o_depth o_counted o_becameThen o_firstCorner o_drawn o_ranSteps o_isTold o_marks) H := hP
    have hD : va_D A (wd_X12_tellsBy E a_o a_o_at a_o_names a_o_sort a_o_trayMany a_o_trays a_o_tape a_o_text a_o_opened a_o_farBy a_o_attendsBy a_o_coveredBy a_o_cameBy a_o_cameThen a_o_fallsBy a_o_loops a_o_ran a_o_told1 o_status (v1 / e6) (v3 / e6) o_taped o_size o_token o_from o_end o_value o_faultKind o_faultPlace o_faults o_seen o_toldParts o_depth o_counted o_becameThen o_firstCorner o_drawn o_ranSteps o_isTold o_marks) := hD
    refine lv_aload_n hx hb dX12_tellsBy_47 rfl (lv_at hl 0 rfl) ?_
    refine lv_iconst (v := 0) hx hb dX12_tellsBy_48 (by decide) ?_
    obtain ⟨u49, hu49, hf⟩ := bd hf
    refine callVI (wn := (wd_X12_tellsBy E a_o a_o_at a_o_names a_o_sort a_o_trayMany a_o_trays a_o_tape a_o_text a_o_opened a_o_farBy a_o_attendsBy a_o_coveredBy a_o_cameBy a_o_cameThen a_o_fallsBy a_o_loops a_o_ran a_o_told1 u49.2 (v1 / e6) (v3 / e6) o_taped o_size o_token o_from o_end o_value o_faultKind o_faultPlace o_faults o_seen o_toldParts o_depth o_counted o_becameThen o_firstCorner o_drawn o_ranSteps o_isTold o_marks)) (n1 := 1) (ct_X12_is l E a_o a_o_at a_o_names a_o_sort a_o_trayMany a_o_trays a_o_tape a_o_text a_o_opened a_o_farBy a_o_attendsBy a_o_coveredBy a_o_cameBy a_o_cameThen a_o_fallsBy a_o_loops a_o_ran a_o_told1 o_status (v1 / e6) (v3 / e6) o_taped o_size o_token o_from o_end o_value o_faultKind o_faultPlace o_faults o_seen o_toldParts o_depth o_counted o_becameThen o_firstCorner o_drawn o_ranSteps o_isTold o_marks (0 : Int32) u49 hu49) [0] cal_X12_is cav_X12_is lk_X12_92 cx hP hD hS hl dX12_tellsBy_49 rfl rfl rfl rfl (Nat.le_of_ble_eq_true rfl) ⟨Nat.le_of_ble_eq_true rfl, Nat.le_of_ble_eq_true rfl⟩ rfl (by decide +kernel) rfl [some 0] rfl (by decide +kernel) rfl (fun H locs hP hD hS => ?_)
    obtain ⟨hz, hf⟩ := ck hf
    obtain rfl := Option.some.inj hf
    subst hq
    exact retZ cx hz hP hD hS dX12_tellsBy_52
def X12_isTray_j13  : Option (Int32) :=
  some 0
def X12_isTray (v0 : Int32) : Option (Int32) :=
  if v0 < 0 then
  X12_isTray_j13
  else
  if (4 : Int32) ≤ v0 then
  X12_isTray_j13
  else
  some 1
abbrev wd_X12_isTray (E : vE) : va_W := []
set_option maxHeartbeats 4000000 in
set_option maxRecDepth 100000 in
theorem ct_X12_isTray (l : Launch) (E : vE) (v0 : Int32) (u : Int32) (hf : X12_isTray v0 = some u) :
    CtI l yX12_isTray cX12_isTray 1 (some .boolean) 0 E [.int v0] (wd_X12_isTray E) (wd_X12_isTray E) u := by
  refine ctI (by decide) (Nat.le_of_ble_eq_true rfl) ?_
  intro p e s m below meth cd A ls aa QQ hq cx hP hD hS hl
  obtain ⟨⟨hx, hb, hml, hown, hts⟩, hr, hlocks, hK, hA, hX⟩ := id cx
  have hl : lv_has ls 1 [(0, .int v0)] := hl
  have hj13 : ∀ (H : Heap) (locs : List Loc) (ls : Array Slot), X12_isTray_j13 = some u → va_P E.1 vwCl (wd_X12_isTray E) H → va_D A (wd_X12_isTray E) → va_S A s.heap H locs → lv_has ls 1 [] → W p l e (rmd 0) s m aa below meth cd H locs 0 0 QQ (F0 m 13 ls []) := by
    intro H locs ls hf hP hD hS hl
    unfold X12_isTray_j13 at hf
    refine lv_iconst (v := 0) hx hb dX12_isTray_13 (by decide) ?_
    obtain rfl := Option.some.inj hf
    subst hq
    exact retZ cx rfl hP hD hS dX12_isTray_14
  unfold X12_isTray at hf
  refine lv_iload_n hx hb dX12_isTray_0 rfl (lv_at hl 0 rfl) ?_
  refine lv_if_lt (tgt := 13) hx hb dX12_isTray_1 (by decide) (fun hc => ?_) (fun hc => ?_)
  · have hf := it_t hc hf
    exact hj13  _ _ _ hf hP hD hS (lv_sub hl [] rfl)
  · have hf := it_f hc hf
    refine lv_iload_n hx hb dX12_isTray_4 rfl (lv_at hl 0 rfl) ?_
    refine lv_iconst (v := 4) hx hb dX12_isTray_5 (by decide) ?_
    refine lv_icmp_ge (tgt := 13) hx hb dX12_isTray_6 (by decide) (fun hc => ?_) (fun hc => ?_)
    · have hf := it_t hc hf
      exact hj13  _ _ _ hf hP hD hS (lv_sub hl [] rfl)
    · have hf := it_f hc hf
      refine lv_iconst (v := 1) hx hb dX12_isTray_9 (by decide) ?_
      refine lv_goto (tgt := 14) hx hb dX12_isTray_10 (by decide) ?_
      obtain rfl := Option.some.inj hf
      subst hq
      exact retZ cx rfl hP hD hS dX12_isTray_14
def X12_shrunk (v0 : Int64) (v2 : Int32) : Option (Int64) :=
  if v2 = 0 then
  some ((jbyte (v0.toInt32)).toInt64)
  else
  if v2 = 1 then
  some ((jshort (v0.toInt32)).toInt64)
  else
  if v2 = 2 then
  some ((v0.toInt32).toInt64)
  else
  some v0
abbrev wd_X12_shrunk (E : vE) : va_W := []
set_option maxHeartbeats 4000000 in
set_option maxRecDepth 100000 in
theorem ct_X12_shrunk (l : Launch) (E : vE) (v0 : Int64) (v2 : Int32) (u : Int64) (hf : X12_shrunk v0 v2 = some u) :
    CtL l yX12_shrunk cX12_shrunk 3 (some .long) 0 E [.long v0, .int v2] (wd_X12_shrunk E) (wd_X12_shrunk E) u := by
  refine ctL (by decide) (Nat.le_of_ble_eq_true rfl) ?_
  intro p e s m below meth cd A ls aa QQ hq cx hP hD hS hl
  obtain ⟨⟨hx, hb, hml, hown, hts⟩, hr, hlocks, hK, hA, hX⟩ := id cx
  have hl : lv_has ls 3 [(0, .long v0), (2, .int v2)] := hl
  unfold X12_shrunk at hf
  refine lv_iload_n hx hb dX12_shrunk_0 rfl (lv_at hl 1 rfl) ?_
  refine lv_if_ne (tgt := 11) hx hb dX12_shrunk_1 (by decide) (fun hc => ?_) (fun hc => ?_)
  · have hf := it_f hc hf
    refine lv_iload_n hx hb dX12_shrunk_11 rfl (lv_at hl 1 rfl) ?_
    refine lv_iconst (v := 1) hx hb dX12_shrunk_12 (by decide) ?_
    refine lv_icmp_ne (tgt := 23) hx hb dX12_shrunk_13 (by decide) (fun hc => ?_) (fun hc => ?_)
    · have hf := it_f hc hf
      refine lv_iload_n hx hb dX12_shrunk_23 rfl (lv_at hl 1 rfl) ?_
      refine lv_iconst (v := 2) hx hb dX12_shrunk_24 (by decide) ?_
      refine lv_icmp_ne (tgt := 34) hx hb dX12_shrunk_25 (by decide) (fun hc => ?_) (fun hc => ?_)
      · have hf := it_f hc hf
        refine lv_lload_n hx hb dX12_shrunk_34 rfl (lv_at hl 0 rfl) ?_
        obtain rfl := Option.some.inj hf
        subst hq
        exact retL cx hP hD hS dX12_shrunk_35
      · have hf := it_t hc hf
        refine lv_lload_n hx hb dX12_shrunk_28 rfl (lv_at hl 0 rfl) ?_
        refine lv_l2i (v := (v0.toInt32)) hx hb dX12_shrunk_29 rfl ?_
        refine lv_i2l (v := (v0.toInt32).toInt64) hx hb dX12_shrunk_30 rfl ?_
        refine lv_goto (tgt := 35) hx hb dX12_shrunk_31 (by decide) ?_
        obtain rfl := Option.some.inj hf
        subst hq
        exact retL cx hP hD hS dX12_shrunk_35
    · have hf := it_t hc hf
      refine lv_lload_n hx hb dX12_shrunk_16 rfl (lv_at hl 0 rfl) ?_
      refine lv_l2i (v := (v0.toInt32)) hx hb dX12_shrunk_17 rfl ?_
      refine lv_i2s (v := (jshort (v0.toInt32))) hx hb dX12_shrunk_18 rfl ?_
      refine lv_i2l (v := (jshort (v0.toInt32)).toInt64) hx hb dX12_shrunk_19 rfl ?_
      refine lv_goto (tgt := 35) hx hb dX12_shrunk_20 (by decide) ?_
      obtain rfl := Option.some.inj hf
      subst hq
      exact retL cx hP hD hS dX12_shrunk_35
  · have hf := it_t hc hf
    refine lv_lload_n hx hb dX12_shrunk_4 rfl (lv_at hl 0 rfl) ?_
    refine lv_l2i (v := (v0.toInt32)) hx hb dX12_shrunk_5 rfl ?_
    refine lv_i2b (v := (jbyte (v0.toInt32))) hx hb dX12_shrunk_6 rfl ?_
    refine lv_i2l (v := (jbyte (v0.toInt32)).toInt64) hx hb dX12_shrunk_7 rfl ?_
    refine lv_goto (tgt := 35) hx hb dX12_shrunk_8 (by decide) ?_
    obtain rfl := Option.some.inj hf
    subst hq
    exact retL cx hP hD hS dX12_shrunk_35
def X12_tray_j26 (F : Nat) (o_status : Int32) (o_sort : Nat → Int32) (o_trayMany : Nat → Int32) (o_trays : Nat → Int64) : Option (Int32 × Int32 × (Nat → Int32) × (Nat → Int32) × (Nat → Int64)) :=
  (X12_is o_status (1 : Int32)).bind fun u28 =>
  if isZ u28.1 then some (u28.1, u28.2, o_sort, o_trayMany, o_trays) else none
def X12_tray_b49 (F : Nat) (o_status : Int32) (o_sort : Nat → Int32) (o_trayMany : Nat → Int32) (v1 : Int32) (v3 : Int32) (st49 : Int32 × (Nat → Int64)) : Option ((Int32 × (Nat → Int64)) ⊕ (((Nat → Int64)))) :=
  if v3 ≤ st49.1 then
  some (.inr st49.2)
  else
  if ix ((60 * v1) + st49.1) 240 then
  some (.inl ((st49.1 + 1), (jputL st49.2 ((60 * v1) + st49.1) 0)))
  else none
def X12_tray (F : Nat) (o_status : Int32) (o_sort : Nat → Int32) (o_trayMany : Nat → Int32) (o_trays : Nat → Int64) (v1 : Int32) (v2 : Int32) (v3 : Int32) : Option (Int32 × Int32 × (Nat → Int32) × (Nat → Int32) × (Nat → Int64)) :=
  (X12_isTray v1).bind fun u1 =>
  if u1 = 0 then
  X12_tray_j26 F o_status o_sort o_trayMany o_trays
  else
  if v2 < 0 then
  X12_tray_j26 F o_status o_sort o_trayMany o_trays
  else
  if (3 : Int32) < v2 then
  X12_tray_j26 F o_status o_sort o_trayMany o_trays
  else
  if v3 < 0 then
  X12_tray_j26 F o_status o_sort o_trayMany o_trays
  else
  if v3 ≤ 60 then
  if ix v1 4 then
  if ix v1 4 then
  (iter (X12_tray_b49 F o_status (jput o_sort v1 v2) (jput o_trayMany v1 v3) v1 v3) F (0, o_trays)).bind (fun (e49 : (Nat → Int64)) =>
    (X12_is o_status (0 : Int32)).bind fun u76 =>
  if isZ u76.1 then some (u76.1, u76.2, (jput o_sort v1 v2), (jput o_trayMany v1 v3), e49) else none)
  else none
  else none
  else
  X12_tray_j26 F o_status o_sort o_trayMany o_trays
abbrev wd_X12_tray (E : vE) (a_o a_o_at a_o_names a_o_sort a_o_trayMany a_o_trays a_o_tape a_o_text a_o_opened a_o_farBy a_o_attendsBy a_o_coveredBy a_o_cameBy a_o_cameThen a_o_fallsBy a_o_loops a_o_ran a_o_told1 : Nat) (o_status : Int32) (o_top : Int64) (o_bottom : Int64) (o_taped : Int32) (o_size : Int32) (o_token : Int32) (o_from : Int32) (o_end : Int32) (o_value : Int32) (o_faultKind : Int32) (o_faultPlace : Int32) (o_faults : Int32) (o_seen : Int32) (o_toldParts : Int32) (o_depth : Int32) (o_counted : Int32) (o_becameThen : Int32) (o_firstCorner : Int32) (o_drawn : Int32) (o_ranSteps : Int32) (o_isTold : Int32) (o_marks : Int32) (o_sort : Nat → Int32) (o_trayMany : Nat → Int32) (o_trays : Nat → Int64) : va_W := [(a_o, .inr (12, [.ref a_o_at, .ref a_o_names, .int o_status, .long o_top, .long o_bottom, .ref a_o_sort, .ref a_o_trayMany, .ref a_o_trays, .ref a_o_tape, .ref a_o_text, .int o_taped, .int o_size, .int o_token, .int o_from, .int o_end, .int o_value, .int o_faultKind, .int o_faultPlace, .int o_faults, .int o_seen, .int o_toldParts, .ref a_o_opened, .int o_depth, .int o_counted, .ref a_o_farBy, .int o_becameThen, .ref a_o_attendsBy, .ref a_o_coveredBy, .ref a_o_cameBy, .ref a_o_cameThen, .int o_firstCorner, .ref a_o_fallsBy, .int o_drawn, .int o_ranSteps, .ref a_o_loops, .ref a_o_ran, .ref a_o_told1, .int o_isTold, .int o_marks])), (a_o_sort, .inl (E.2.1, 4, .inl o_sort)), (a_o_trayMany, .inl (E.2.1, 4, .inl o_trayMany)), (a_o_trays, .inl (E.2.2.1, 240, .inr (.inl o_trays)))]
set_option maxHeartbeats 4000000 in
set_option maxRecDepth 100000 in
theorem ct_X12_tray (l : Launch) (E : vE) (F : Nat) (a_o a_o_at a_o_names a_o_sort a_o_trayMany a_o_trays a_o_tape a_o_text a_o_opened a_o_farBy a_o_attendsBy a_o_coveredBy a_o_cameBy a_o_cameThen a_o_fallsBy a_o_loops a_o_ran a_o_told1 : Nat) (o_status : Int32) (o_top : Int64) (o_bottom : Int64) (o_taped : Int32) (o_size : Int32) (o_token : Int32) (o_from : Int32) (o_end : Int32) (o_value : Int32) (o_faultKind : Int32) (o_faultPlace : Int32) (o_faults : Int32) (o_seen : Int32) (o_toldParts : Int32) (o_depth : Int32) (o_counted : Int32) (o_becameThen : Int32) (o_firstCorner : Int32) (o_drawn : Int32) (o_ranSteps : Int32) (o_isTold : Int32) (o_marks : Int32) (o_sort : Nat → Int32) (o_trayMany : Nat → Int32) (o_trays : Nat → Int64) (v1 : Int32) (v2 : Int32) (v3 : Int32) (u : Int32 × Int32 × (Nat → Int32) × (Nat → Int32) × (Nat → Int64)) (hf : X12_tray F o_status o_sort o_trayMany o_trays v1 v2 v3 = some u) :
    CtI l yX12_tray cX12_tray 5 (some .boolean) 1 E [.ref a_o, .int v1, .int v2, .int v3] (wd_X12_tray E a_o a_o_at a_o_names a_o_sort a_o_trayMany a_o_trays a_o_tape a_o_text a_o_opened a_o_farBy a_o_attendsBy a_o_coveredBy a_o_cameBy a_o_cameThen a_o_fallsBy a_o_loops a_o_ran a_o_told1 o_status o_top o_bottom o_taped o_size o_token o_from o_end o_value o_faultKind o_faultPlace o_faults o_seen o_toldParts o_depth o_counted o_becameThen o_firstCorner o_drawn o_ranSteps o_isTold o_marks o_sort o_trayMany o_trays) (wd_X12_tray E a_o a_o_at a_o_names a_o_sort a_o_trayMany a_o_trays a_o_tape a_o_text a_o_opened a_o_farBy a_o_attendsBy a_o_coveredBy a_o_cameBy a_o_cameThen a_o_fallsBy a_o_loops a_o_ran a_o_told1 u.2.1 o_top o_bottom o_taped o_size o_token o_from o_end o_value o_faultKind o_faultPlace o_faults o_seen o_toldParts o_depth o_counted o_becameThen o_firstCorner o_drawn o_ranSteps o_isTold o_marks u.2.2.1 u.2.2.2.1 u.2.2.2.2) u.1 := by
  refine ctI (by decide) (Nat.le_of_ble_eq_true rfl) ?_
  intro p e s m below meth cd A ls aa QQ hq cx hP hD hS hl
  obtain ⟨⟨hx, hb, hml, hown, hts⟩, hr, hlocks, hK, hA, hX⟩ := id cx
  have hl : lv_has ls 5 [(0, .ref a_o), (1, .int v1), (2, .int v2), (3, .int v3)] := hl
  have hj26 : ∀ (o_status_j26 : Int32) (o_sort_j26 : Nat → Int32) (o_trayMany_j26 : Nat → Int32) (o_trays_j26 : Nat → Int64) (H : Heap) (locs : List Loc) (ls : Array Slot), X12_tray_j26 F o_status_j26 o_sort_j26 o_trayMany_j26 o_trays_j26 = some u → va_P E.1 vwCl (wd_X12_tray E a_o a_o_at a_o_names a_o_sort a_o_trayMany a_o_trays a_o_tape a_o_text a_o_opened a_o_farBy a_o_attendsBy a_o_coveredBy a_o_cameBy a_o_cameThen a_o_fallsBy a_o_loops a_o_ran a_o_told1 o_status_j26 o_top o_bottom o_taped o_size o_token o_from o_end o_value o_faultKind o_faultPlace o_faults o_seen o_toldParts o_depth o_counted o_becameThen o_firstCorner o_drawn o_ranSteps o_isTold o_marks o_sort_j26 o_trayMany_j26 o_trays_j26) H → va_D A (wd_X12_tray E a_o a_o_at a_o_names a_o_sort a_o_trayMany a_o_trays a_o_tape a_o_text a_o_opened a_o_farBy a_o_attendsBy a_o_coveredBy a_o_cameBy a_o_cameThen a_o_fallsBy a_o_loops a_o_ran a_o_told1 o_status_j26 o_top o_bottom o_taped o_size o_token o_from o_end o_value o_faultKind o_faultPlace o_faults o_seen o_toldParts o_depth o_counted o_becameThen o_firstCorner o_drawn o_ranSteps o_isTold o_marks o_sort_j26 o_trayMany_j26 o_trays_j26) → va_S A s.heap H locs → lv_has ls 5 [(0, .ref a_o)] → W p l e (rmd 1) s m aa below meth cd H locs 0 0 QQ (F0 m 26 ls []) := by
    intro o_status_j26 o_sort_j26 o_trayMany_j26 o_trays_j26 H locs ls hf hP hD hS hl
    unfold X12_tray_j26 at hf
    refine lv_aload_n hx hb dX12_tray_26 rfl (lv_at hl 0 rfl) ?_
    refine lv_iconst (v := 1) hx hb dX12_tray_27 (by decide) ?_
    obtain ⟨u28, hu28, hf⟩ := bd hf
    refine callVI (wn := (wd_X12_tray E a_o a_o_at a_o_names a_o_sort a_o_trayMany a_o_trays a_o_tape a_o_text a_o_opened a_o_farBy a_o_attendsBy a_o_coveredBy a_o_cameBy a_o_cameThen a_o_fallsBy a_o_loops a_o_ran a_o_told1 u28.2 o_top o_bottom o_taped o_size o_token o_from o_end o_value o_faultKind o_faultPlace o_faults o_seen o_toldParts o_depth o_counted o_becameThen o_firstCorner o_drawn o_ranSteps o_isTold o_marks o_sort_j26 o_trayMany_j26 o_trays_j26)) (n1 := 4) (ct_X12_is l E a_o a_o_at a_o_names a_o_sort a_o_trayMany a_o_trays a_o_tape a_o_text a_o_opened a_o_farBy a_o_attendsBy a_o_coveredBy a_o_cameBy a_o_cameThen a_o_fallsBy a_o_loops a_o_ran a_o_told1 o_status_j26 o_top o_bottom o_taped o_size o_token o_from o_end o_value o_faultKind o_faultPlace o_faults o_seen o_toldParts o_depth o_counted o_becameThen o_firstCorner o_drawn o_ranSteps o_isTold o_marks (1 : Int32) u28 hu28) [0] cal_X12_is cav_X12_is lk_X12_92 cx hP hD hS hl dX12_tray_28 rfl rfl rfl rfl (Nat.le_of_ble_eq_true rfl) ⟨Nat.le_of_ble_eq_true rfl, Nat.le_of_ble_eq_true rfl⟩ rfl (by decide +kernel) rfl [some 0, none, none, none] rfl (by decide +kernel) rfl (fun H locs hP hD hS => ?_)
    obtain ⟨hz, hf⟩ := ck hf
    obtain rfl := Option.some.inj hf
    subst hq
    exact retZ cx hz hP hD hS dX12_tray_31
  unfold X12_tray at hf
  refine lv_iload_n hx hb dX12_tray_0 rfl (lv_at hl 1 rfl) ?_
  obtain ⟨u1, hu1, hf⟩ := bd hf
  refine keepSI (ct_X12_isTray l E v1 u1 hu1) [] cal_X12_isTray sta_X12_isTray lk_X12_96 cx hP hD hS hl dX12_tray_1 rfl rfl (Nat.le_of_ble_eq_true rfl) ⟨Nat.le_of_ble_eq_true rfl, Nat.le_of_ble_eq_true rfl⟩ rfl (by decide) (fun H locs hP hS => ?_)
  refine lv_if_eq (tgt := 26) hx hb dX12_tray_4 (by decide) (fun hc => ?_) (fun hc => ?_)
  · have hf := it_t hc hf
    exact hj26 _ _ _ _ _ _ _ hf hP hD hS (lv_sub hl [0] rfl)
  · have hf := it_f hc hf
    refine lv_iload_n hx hb dX12_tray_7 rfl (lv_at hl 2 rfl) ?_
    refine lv_if_lt (tgt := 26) hx hb dX12_tray_8 (by decide) (fun hc => ?_) (fun hc => ?_)
    · have hf := it_t hc hf
      exact hj26 _ _ _ _ _ _ _ hf hP hD hS (lv_sub hl [0] rfl)
    · have hf := it_f hc hf
      refine lv_iload_n hx hb dX12_tray_11 rfl (lv_at hl 2 rfl) ?_
      refine lv_iconst (v := 3) hx hb dX12_tray_12 (by decide) ?_
      refine lv_icmp_gt (tgt := 26) hx hb dX12_tray_13 (by decide) (fun hc => ?_) (fun hc => ?_)
      · have hf := it_t hc hf
        exact hj26 _ _ _ _ _ _ _ hf hP hD hS (lv_sub hl [0] rfl)
      · have hf := it_f hc hf
        refine lv_iload_n hx hb dX12_tray_16 rfl (lv_at hl 3 rfl) ?_
        refine lv_if_lt (tgt := 26) hx hb dX12_tray_17 (by decide) (fun hc => ?_) (fun hc => ?_)
        · have hf := it_t hc hf
          exact hj26 _ _ _ _ _ _ _ hf hP hD hS (lv_sub hl [0] rfl)
        · have hf := it_f hc hf
          refine lv_iload_n hx hb dX12_tray_20 rfl (lv_at hl 3 rfl) ?_
          refine lv_bipush (v := 60) hx hb dX12_tray_21 (by decide) ?_
          refine lv_icmp_le (tgt := 32) hx hb dX12_tray_23 (by decide) (fun hc => ?_) (fun hc => ?_)
          · have hf := it_t hc hf
            refine lv_aload_n hx hb dX12_tray_32 rfl (lv_at hl 0 rfl) ?_
            refine va_get (D := E.1) (ci := 12) (v := .ref a_o_sort) (C := RX12) (T := TX12) (N := 39) hx hb hts inX12 hown hK hP 0 rfl rfl 5 (by decide) (hts _ fl_X12_21) (fun _ h9 => h9) rfl dX12_tray_33 ?_
            refine lv_iload_n hx hb dX12_tray_36 rfl (lv_at hl 1 rfl) ?_
            refine lv_iload_n hx hb dX12_tray_37 rfl (lv_at hl 2 rfl) ?_
            obtain ⟨hi, hf⟩ := ck hf
            refine r_iast 1 cx hP hD hS rfl hi dX12_tray_38 (fun H locs hP hD hS => ?_)
            have hP : va_P E.1 vwCl (wd_X12_tray E a_o a_o_at a_o_names a_o_sort a_o_trayMany a_o_trays a_o_tape a_o_text a_o_opened a_o_farBy a_o_attendsBy a_o_coveredBy a_o_cameBy a_o_cameThen a_o_fallsBy a_o_loops a_o_ran a_o_told1 o_status o_top o_bottom o_taped o_size o_token o_from o_end o_value o_faultKind o_faultPlace o_faults o_seen o_toldParts o_depth o_counted o_becameThen o_firstCorner o_drawn o_ranSteps o_isTold o_marks (jput o_sort v1 v2) o_trayMany o_trays) H := hP
            have hD : va_D A (wd_X12_tray E a_o a_o_at a_o_names a_o_sort a_o_trayMany a_o_trays a_o_tape a_o_text a_o_opened a_o_farBy a_o_attendsBy a_o_coveredBy a_o_cameBy a_o_cameThen a_o_fallsBy a_o_loops a_o_ran a_o_told1 o_status o_top o_bottom o_taped o_size o_token o_from o_end o_value o_faultKind o_faultPlace o_faults o_seen o_toldParts o_depth o_counted o_becameThen o_firstCorner o_drawn o_ranSteps o_isTold o_marks (jput o_sort v1 v2) o_trayMany o_trays) := hD
            refine lv_aload_n hx hb dX12_tray_39 rfl (lv_at hl 0 rfl) ?_
            refine va_get (D := E.1) (ci := 12) (v := .ref a_o_trayMany) (C := RX12) (T := TX12) (N := 39) hx hb hts inX12 hown hK hP 0 rfl rfl 6 (by decide) (hts _ fl_X12_24) (fun _ h9 => h9) rfl dX12_tray_40 ?_
            refine lv_iload_n hx hb dX12_tray_43 rfl (lv_at hl 1 rfl) ?_
            refine lv_iload_n hx hb dX12_tray_44 rfl (lv_at hl 3 rfl) ?_
            obtain ⟨hi, hf⟩ := ck hf
            refine r_iast 2 cx hP hD hS rfl hi dX12_tray_45 (fun H locs hP hD hS => ?_)
            have hP : va_P E.1 vwCl (wd_X12_tray E a_o a_o_at a_o_names a_o_sort a_o_trayMany a_o_trays a_o_tape a_o_text a_o_opened a_o_farBy a_o_attendsBy a_o_coveredBy a_o_cameBy a_o_cameThen a_o_fallsBy a_o_loops a_o_ran a_o_told1 o_status o_top o_bottom o_taped o_size o_token o_from o_end o_value o_faultKind o_faultPlace o_faults o_seen o_toldParts o_depth o_counted o_becameThen o_firstCorner o_drawn o_ranSteps o_isTold o_marks (jput o_sort v1 v2) (jput o_trayMany v1 v3) o_trays) H := hP
            have hD : va_D A (wd_X12_tray E a_o a_o_at a_o_names a_o_sort a_o_trayMany a_o_trays a_o_tape a_o_text a_o_opened a_o_farBy a_o_attendsBy a_o_coveredBy a_o_cameBy a_o_cameThen a_o_fallsBy a_o_loops a_o_ran a_o_told1 o_status o_top o_bottom o_taped o_size o_token o_from o_end o_value o_faultKind o_faultPlace o_faults o_seen o_toldParts o_depth o_counted o_becameThen o_firstCorner o_drawn o_ranSteps o_isTold o_marks (jput o_sort v1 v2) (jput o_trayMany v1 v3) o_trays) := hD
            refine lv_iconst (v := 0) hx hb dX12_tray_46 (by decide) ?_
            refine lv_istore (lv' := [(4, .int 0), (0, .ref a_o), (1, .int v1), (2, .int v2), (3, .int v3)]) hx hb dX12_tray_47 hl (by decide) rfl (fun ls hl => ?_)
            obtain ⟨e49, hit49, hf⟩ := bd hf
            refine iter_W (b := X12_tray_b49 F o_status (jput o_sort v1 v2) (jput o_trayMany v1 v3) v1 v3) (P := fun st49 => ∀ (H : Heap) (locs : List Loc) (ls : Array Slot), va_P E.1 vwCl (wd_X12_tray E a_o a_o_at a_o_names a_o_sort a_o_trayMany a_o_trays a_o_tape a_o_text a_o_opened a_o_farBy a_o_attendsBy a_o_coveredBy a_o_cameBy a_o_cameThen a_o_fallsBy a_o_loops a_o_ran a_o_told1 o_status o_top o_bottom o_taped o_size o_token o_from o_end o_value o_faultKind o_faultPlace o_faults o_seen o_toldParts o_depth o_counted o_becameThen o_firstCorner o_drawn o_ranSteps o_isTold o_marks (jput o_sort v1 v2) (jput o_trayMany v1 v3) st49.2) H → va_D A (wd_X12_tray E a_o a_o_at a_o_names a_o_sort a_o_trayMany a_o_trays a_o_tape a_o_text a_o_opened a_o_farBy a_o_attendsBy a_o_coveredBy a_o_cameBy a_o_cameThen a_o_fallsBy a_o_loops a_o_ran a_o_told1 o_status o_top o_bottom o_taped o_size o_token o_from o_end o_value o_faultKind o_faultPlace o_faults o_seen o_toldParts o_depth o_counted o_becameThen o_firstCorner o_drawn o_ranSteps o_isTold o_marks (jput o_sort v1 v2) (jput o_trayMany v1 v3) st49.2) → va_S A s.heap H locs → lv_has ls 5 [(0, .ref a_o), (1, .int v1), (3, .int v3), (4, .int st49.1)] → W p l e (rmd 1) s m aa below meth cd H locs 0 0 QQ (F0 m 49 ls [])) (G := (fun (e49 : (Nat → Int64)) => ∀ (H : Heap) (locs : List Loc) (ls : Array Slot), va_P E.1 vwCl (wd_X12_tray E a_o a_o_at a_o_names a_o_sort a_o_trayMany a_o_trays a_o_tape a_o_text a_o_opened a_o_farBy a_o_attendsBy a_o_coveredBy a_o_cameBy a_o_cameThen a_o_fallsBy a_o_loops a_o_ran a_o_told1 o_status o_top o_bottom o_taped o_size o_token o_from o_end o_value o_faultKind o_faultPlace o_faults o_seen o_toldParts o_depth o_counted o_becameThen o_firstCorner o_drawn o_ranSteps o_isTold o_marks (jput o_sort v1 v2) (jput o_trayMany v1 v3) e49) H → va_D A (wd_X12_tray E a_o a_o_at a_o_names a_o_sort a_o_trayMany a_o_trays a_o_tape a_o_text a_o_opened a_o_farBy a_o_attendsBy a_o_coveredBy a_o_cameBy a_o_cameThen a_o_fallsBy a_o_loops a_o_ran a_o_told1 o_status o_top o_bottom o_taped o_size o_token o_from o_end o_value o_faultKind o_faultPlace o_faults o_seen o_toldParts o_depth o_counted o_becameThen o_firstCorner o_drawn o_ranSteps o_isTold o_marks (jput o_sort v1 v2) (jput o_trayMany v1 v3) e49) → va_S A s.heap H locs → lv_has ls 5 [(0, .ref a_o)] → W p l e (rmd 1) s m aa below meth cd H locs 0 0 QQ (F0 m 74 ls []))) ?_ F (0, o_trays) e49 hit49 ?_ _ _ _ hP hD hS (lv_sub hl [1, 2, 4, 0] rfl)
            · intro st49 r49 hf hk49 he49 H locs ls hP hD hS hl
              unfold X12_tray_b49 at hf
              refine lv_iload hx hb dX12_tray_49 (lv_at hl 3 rfl) ?_
              refine lv_iload_n hx hb dX12_tray_51 rfl (lv_at hl 2 rfl) ?_
              refine lv_icmp_ge (tgt := 74) hx hb dX12_tray_52 (by decide) (fun hc => ?_) (fun hc => ?_)
              · have hf := it_t hc hf
                exact he49 _ (Option.some.inj hf).symm _ _ _ hP hD hS (lv_sub hl [0] rfl)
              · have hf := it_f hc hf
                refine lv_aload_n hx hb dX12_tray_55 rfl (lv_at hl 0 rfl) ?_
                refine va_get (D := E.1) (ci := 12) (v := .ref a_o_trays) (C := RX12) (T := TX12) (N := 39) hx hb hts inX12 hown hK hP 0 rfl rfl 7 (by decide) (hts _ fl_X12_27) (fun _ h9 => h9) rfl dX12_tray_56 ?_
                refine lv_bipush (v := 60) hx hb dX12_tray_59 (by decide) ?_
                refine lv_iload_n hx hb dX12_tray_61 rfl (lv_at hl 1 rfl) ?_
                refine lv_imul hx hb dX12_tray_62 ?_
                refine lv_iload hx hb dX12_tray_63 (lv_at hl 3 rfl) ?_
                refine lv_iadd hx hb dX12_tray_65 ?_
                refine lv_lconst (v := 0) hx hb dX12_tray_66 (by decide) ?_
                obtain ⟨hi, hf⟩ := ck hf
                refine r_last 3 cx hP hD hS rfl hi dX12_tray_67 (fun H locs hP hD hS => ?_)
                have hP : va_P E.1 vwCl (wd_X12_tray E a_o a_o_at a_o_names a_o_sort a_o_trayMany a_o_trays a_o_tape a_o_text a_o_opened a_o_farBy a_o_attendsBy a_o_coveredBy a_o_cameBy a_o_cameThen a_o_fallsBy a_o_loops a_o_ran a_o_told1 o_status o_top o_bottom o_taped o_size o_token o_from o_end o_value o_faultKind o_faultPlace o_faults o_seen o_toldParts o_depth o_counted o_becameThen o_firstCorner o_drawn o_ranSteps o_isTold o_marks (jput o_sort v1 v2) (jput o_trayMany v1 v3) (jputL st49.2 ((60 * v1) + st49.1) 0)) H := hP
                have hD : va_D A (wd_X12_tray E a_o a_o_at a_o_names a_o_sort a_o_trayMany a_o_trays a_o_tape a_o_text a_o_opened a_o_farBy a_o_attendsBy a_o_coveredBy a_o_cameBy a_o_cameThen a_o_fallsBy a_o_loops a_o_ran a_o_told1 o_status o_top o_bottom o_taped o_size o_token o_from o_end o_value o_faultKind o_faultPlace o_faults o_seen o_toldParts o_depth o_counted o_becameThen o_firstCorner o_drawn o_ranSteps o_isTold o_marks (jput o_sort v1 v2) (jput o_trayMany v1 v3) (jputL st49.2 ((60 * v1) + st49.1) 0)) := hD
                refine lv_iinc (v := (st49.1 + 1)) (lv' := [(4, .int (st49.1 + 1)), (0, .ref a_o), (1, .int v1), (3, .int v3)]) hx hb dX12_tray_68 hl (k := 3) rfl rfl (by decide) rfl (fun ls hl => ?_)
                refine lv_goto (tgt := 49) hx hb dX12_tray_71 (by decide) ?_
                exact hk49 _ (Option.some.inj hf).symm _ _ _ hP hD hS (lv_sub hl [1, 2, 3, 0] rfl)
            · refine fun H locs ls hP hD hS hl => ?_
              refine lv_aload_n hx hb dX12_tray_74 rfl (lv_at hl 0 rfl) ?_
              refine lv_iconst (v := 0) hx hb dX12_tray_75 (by decide) ?_
              obtain ⟨u76, hu76, hf⟩ := bd hf
              refine callVI (wn := (wd_X12_tray E a_o a_o_at a_o_names a_o_sort a_o_trayMany a_o_trays a_o_tape a_o_text a_o_opened a_o_farBy a_o_attendsBy a_o_coveredBy a_o_cameBy a_o_cameThen a_o_fallsBy a_o_loops a_o_ran a_o_told1 u76.2 o_top o_bottom o_taped o_size o_token o_from o_end o_value o_faultKind o_faultPlace o_faults o_seen o_toldParts o_depth o_counted o_becameThen o_firstCorner o_drawn o_ranSteps o_isTold o_marks (jput o_sort v1 v2) (jput o_trayMany v1 v3) e49)) (n1 := 4) (ct_X12_is l E a_o a_o_at a_o_names a_o_sort a_o_trayMany a_o_trays a_o_tape a_o_text a_o_opened a_o_farBy a_o_attendsBy a_o_coveredBy a_o_cameBy a_o_cameThen a_o_fallsBy a_o_loops a_o_ran a_o_told1 o_status o_top o_bottom o_taped o_size o_token o_from o_end o_value o_faultKind o_faultPlace o_faults o_seen o_toldParts o_depth o_counted o_becameThen o_firstCorner o_drawn o_ranSteps o_isTold o_marks (0 : Int32) u76 hu76) [0] cal_X12_is cav_X12_is lk_X12_92 cx hP hD hS hl dX12_tray_76 rfl rfl rfl rfl (Nat.le_of_ble_eq_true rfl) ⟨Nat.le_of_ble_eq_true rfl, Nat.le_of_ble_eq_true rfl⟩ rfl (by decide +kernel) rfl [some 0, none, none, none] rfl (by decide +kernel) rfl (fun H locs hP hD hS => ?_)
              obtain ⟨hz, hf⟩ := ck hf
              obtain rfl := Option.some.inj hf
              subst hq
              exact retZ cx hz hP hD hS dX12_tray_79
          · have hf := it_f hc hf
            exact hj26 _ _ _ _ _ _ _ hf hP hD hS (lv_sub hl [0] rfl)
def X12_wrongPlace_j39 (o_trayMany : Nat → Int32) : Option (Int32) :=
  some 3
def X12_wrongPlace (o_trayMany : Nat → Int32) (v1 : Int32) (v2 : Int32) : Option (Int32) :=
  (X12_isTray v1).bind fun u1 =>
  if u1 = 0 then
  some 1
  else
  if ix v1 4 then
  if (jat o_trayMany v1) = (-1) then
  some 2
  else
  if v2 < 0 then
  X12_wrongPlace_j39 o_trayMany
  else
  if ix v1 4 then
  if v2 < (jat o_trayMany v1) then
  some 0
  else
  X12_wrongPlace_j39 o_trayMany
  else none
  else none
abbrev wd_X12_wrongPlace (E : vE) (a_o a_o_at a_o_names a_o_sort a_o_trayMany a_o_trays a_o_tape a_o_text a_o_opened a_o_farBy a_o_attendsBy a_o_coveredBy a_o_cameBy a_o_cameThen a_o_fallsBy a_o_loops a_o_ran a_o_told1 : Nat) (o_status : Int32) (o_top : Int64) (o_bottom : Int64) (o_taped : Int32) (o_size : Int32) (o_token : Int32) (o_from : Int32) (o_end : Int32) (o_value : Int32) (o_faultKind : Int32) (o_faultPlace : Int32) (o_faults : Int32) (o_seen : Int32) (o_toldParts : Int32) (o_depth : Int32) (o_counted : Int32) (o_becameThen : Int32) (o_firstCorner : Int32) (o_drawn : Int32) (o_ranSteps : Int32) (o_isTold : Int32) (o_marks : Int32) (o_trayMany : Nat → Int32) : va_W := [(a_o, .inr (12, [.ref a_o_at, .ref a_o_names, .int o_status, .long o_top, .long o_bottom, .ref a_o_sort, .ref a_o_trayMany, .ref a_o_trays, .ref a_o_tape, .ref a_o_text, .int o_taped, .int o_size, .int o_token, .int o_from, .int o_end, .int o_value, .int o_faultKind, .int o_faultPlace, .int o_faults, .int o_seen, .int o_toldParts, .ref a_o_opened, .int o_depth, .int o_counted, .ref a_o_farBy, .int o_becameThen, .ref a_o_attendsBy, .ref a_o_coveredBy, .ref a_o_cameBy, .ref a_o_cameThen, .int o_firstCorner, .ref a_o_fallsBy, .int o_drawn, .int o_ranSteps, .ref a_o_loops, .ref a_o_ran, .ref a_o_told1, .int o_isTold, .int o_marks])), (a_o_trayMany, .inl (E.2.1, 4, .inl o_trayMany))]
set_option maxHeartbeats 4000000 in
set_option maxRecDepth 100000 in
theorem ct_X12_wrongPlace (l : Launch) (E : vE) (a_o a_o_at a_o_names a_o_sort a_o_trayMany a_o_trays a_o_tape a_o_text a_o_opened a_o_farBy a_o_attendsBy a_o_coveredBy a_o_cameBy a_o_cameThen a_o_fallsBy a_o_loops a_o_ran a_o_told1 : Nat) (o_status : Int32) (o_top : Int64) (o_bottom : Int64) (o_taped : Int32) (o_size : Int32) (o_token : Int32) (o_from : Int32) (o_end : Int32) (o_value : Int32) (o_faultKind : Int32) (o_faultPlace : Int32) (o_faults : Int32) (o_seen : Int32) (o_toldParts : Int32) (o_depth : Int32) (o_counted : Int32) (o_becameThen : Int32) (o_firstCorner : Int32) (o_drawn : Int32) (o_ranSteps : Int32) (o_isTold : Int32) (o_marks : Int32) (o_trayMany : Nat → Int32) (v1 : Int32) (v2 : Int32) (u : Int32) (hf : X12_wrongPlace o_trayMany v1 v2 = some u) :
    CtI l yX12_wrongPlace cX12_wrongPlace 3 (some .int) 1 E [.ref a_o, .int v1, .int v2] (wd_X12_wrongPlace E a_o a_o_at a_o_names a_o_sort a_o_trayMany a_o_trays a_o_tape a_o_text a_o_opened a_o_farBy a_o_attendsBy a_o_coveredBy a_o_cameBy a_o_cameThen a_o_fallsBy a_o_loops a_o_ran a_o_told1 o_status o_top o_bottom o_taped o_size o_token o_from o_end o_value o_faultKind o_faultPlace o_faults o_seen o_toldParts o_depth o_counted o_becameThen o_firstCorner o_drawn o_ranSteps o_isTold o_marks o_trayMany) (wd_X12_wrongPlace E a_o a_o_at a_o_names a_o_sort a_o_trayMany a_o_trays a_o_tape a_o_text a_o_opened a_o_farBy a_o_attendsBy a_o_coveredBy a_o_cameBy a_o_cameThen a_o_fallsBy a_o_loops a_o_ran a_o_told1 o_status o_top o_bottom o_taped o_size o_token o_from o_end o_value o_faultKind o_faultPlace o_faults o_seen o_toldParts o_depth o_counted o_becameThen o_firstCorner o_drawn o_ranSteps o_isTold o_marks o_trayMany) u := by
  refine ctI (by decide) (Nat.le_of_ble_eq_true rfl) ?_
  intro p e s m below meth cd A ls aa QQ hq cx hP hD hS hl
  obtain ⟨⟨hx, hb, hml, hown, hts⟩, hr, hlocks, hK, hA, hX⟩ := id cx
  have hl : lv_has ls 3 [(0, .ref a_o), (1, .int v1), (2, .int v2)] := hl
  have hj39 : ∀ (H : Heap) (locs : List Loc) (ls : Array Slot), X12_wrongPlace_j39 o_trayMany = some u → va_P E.1 vwCl (wd_X12_wrongPlace E a_o a_o_at a_o_names a_o_sort a_o_trayMany a_o_trays a_o_tape a_o_text a_o_opened a_o_farBy a_o_attendsBy a_o_coveredBy a_o_cameBy a_o_cameThen a_o_fallsBy a_o_loops a_o_ran a_o_told1 o_status o_top o_bottom o_taped o_size o_token o_from o_end o_value o_faultKind o_faultPlace o_faults o_seen o_toldParts o_depth o_counted o_becameThen o_firstCorner o_drawn o_ranSteps o_isTold o_marks o_trayMany) H → va_D A (wd_X12_wrongPlace E a_o a_o_at a_o_names a_o_sort a_o_trayMany a_o_trays a_o_tape a_o_text a_o_opened a_o_farBy a_o_attendsBy a_o_coveredBy a_o_cameBy a_o_cameThen a_o_fallsBy a_o_loops a_o_ran a_o_told1 o_status o_top o_bottom o_taped o_size o_token o_from o_end o_value o_faultKind o_faultPlace o_faults o_seen o_toldParts o_depth o_counted o_becameThen o_firstCorner o_drawn o_ranSteps o_isTold o_marks o_trayMany) → va_S A s.heap H locs → lv_has ls 3 [] → W p l e (rmd 1) s m aa below meth cd H locs 0 0 QQ (F0 m 39 ls []) := by
    intro H locs ls hf hP hD hS hl
    unfold X12_wrongPlace_j39 at hf
    refine lv_iconst (v := 3) hx hb dX12_wrongPlace_39 (by decide) ?_
    refine lv_goto (tgt := 44) hx hb dX12_wrongPlace_40 (by decide) ?_
    obtain rfl := Option.some.inj hf
    subst hq
    exact retI cx hP hD hS dX12_wrongPlace_44
  unfold X12_wrongPlace at hf
  refine lv_iload_n hx hb dX12_wrongPlace_0 rfl (lv_at hl 1 rfl) ?_
  obtain ⟨u1, hu1, hf⟩ := bd hf
  refine keepSI (ct_X12_isTray l E v1 u1 hu1) [] cal_X12_isTray sta_X12_isTray lk_X12_96 cx hP hD hS hl dX12_wrongPlace_1 rfl rfl (Nat.le_of_ble_eq_true rfl) ⟨Nat.le_of_ble_eq_true rfl, Nat.le_of_ble_eq_true rfl⟩ rfl (by decide) (fun H locs hP hS => ?_)
  refine lv_if_ne (tgt := 11) hx hb dX12_wrongPlace_4 (by decide) (fun hc => ?_) (fun hc => ?_)
  · have hf := it_f hc hf
    refine lv_aload_n hx hb dX12_wrongPlace_11 rfl (lv_at hl 0 rfl) ?_
    refine va_get (D := E.1) (ci := 12) (v := .ref a_o_trayMany) (C := RX12) (T := TX12) (N := 39) hx hb hts inX12 hown hK hP 0 rfl rfl 6 (by decide) (hts _ fl_X12_24) (fun _ h9 => h9) rfl dX12_wrongPlace_12 ?_
    refine lv_iload_n hx hb dX12_wrongPlace_15 rfl (lv_at hl 1 rfl) ?_
    obtain ⟨hi, hf⟩ := ck hf
    refine r_iald 1 cx hP rfl hi dX12_wrongPlace_16 ?_
    refine lv_iconst (v := (-1)) hx hb dX12_wrongPlace_17 (by decide) ?_
    refine lv_icmp_ne (tgt := 25) hx hb dX12_wrongPlace_18 (by decide) (fun hc => ?_) (fun hc => ?_)
    · have hf := it_f hc hf
      refine lv_iload_n hx hb dX12_wrongPlace_25 rfl (lv_at hl 2 rfl) ?_
      refine lv_if_lt (tgt := 39) hx hb dX12_wrongPlace_26 (by decide) (fun hc => ?_) (fun hc => ?_)
      · have hf := it_t hc hf
        exact hj39  _ _ _ hf hP hD hS (lv_sub hl [] rfl)
      · have hf := it_f hc hf
        refine lv_iload_n hx hb dX12_wrongPlace_29 rfl (lv_at hl 2 rfl) ?_
        refine lv_aload_n hx hb dX12_wrongPlace_30 rfl (lv_at hl 0 rfl) ?_
        refine va_get (D := E.1) (ci := 12) (v := .ref a_o_trayMany) (C := RX12) (T := TX12) (N := 39) hx hb hts inX12 hown hK hP 0 rfl rfl 6 (by decide) (hts _ fl_X12_24) (fun _ h9 => h9) rfl dX12_wrongPlace_31 ?_
        refine lv_iload_n hx hb dX12_wrongPlace_34 rfl (lv_at hl 1 rfl) ?_
        obtain ⟨hi, hf⟩ := ck hf
        refine r_iald 1 cx hP rfl hi dX12_wrongPlace_35 ?_
        refine lv_icmp_lt (tgt := 43) hx hb dX12_wrongPlace_36 (by decide) (fun hc => ?_) (fun hc => ?_)
        · have hf := it_t hc hf
          refine lv_iconst (v := 0) hx hb dX12_wrongPlace_43 (by decide) ?_
          obtain rfl := Option.some.inj hf
          subst hq
          exact retI cx hP hD hS dX12_wrongPlace_44
        · have hf := it_f hc hf
          exact hj39  _ _ _ hf hP hD hS (lv_sub hl [] rfl)
    · have hf := it_t hc hf
      refine lv_iconst (v := 2) hx hb dX12_wrongPlace_21 (by decide) ?_
      refine lv_goto (tgt := 44) hx hb dX12_wrongPlace_22 (by decide) ?_
      obtain rfl := Option.some.inj hf
      subst hq
      exact retI cx hP hD hS dX12_wrongPlace_44
  · have hf := it_t hc hf
    refine lv_iconst (v := 1) hx hb dX12_wrongPlace_7 (by decide) ?_
    refine lv_goto (tgt := 44) hx hb dX12_wrongPlace_8 (by decide) ?_
    obtain rfl := Option.some.inj hf
    subst hq
    exact retI cx hP hD hS dX12_wrongPlace_44
def X12_write_j34 (o_status : Int32) (o_sort : Nat → Int32) (o_trayMany : Nat → Int32) (o_trays : Nat → Int64) (v5 : Int32) : Option (Int32 × Int32 × (Nat → Int64)) :=
  (X12_is o_status v5).bind fun u37 =>
  if isZ u37.1 then some (u37.1, u37.2, o_trays) else none
def X12_write (o_status : Int32) (o_sort : Nat → Int32) (o_trayMany : Nat → Int32) (o_trays : Nat → Int64) (v1 : Int32) (v2 : Int32) (v3 : Int64) : Option (Int32 × Int32 × (Nat → Int64)) :=
  (X12_wrongPlace o_trayMany v1 v2).bind fun u3 =>
  if u3 = 0 then
  if ix v1 4 then
  (X12_shrunk v3 (jat o_sort v1)).bind fun u30 =>
  if ix ((60 * v1) + v2) 240 then
  X12_write_j34 o_status o_sort o_trayMany (jputL o_trays ((60 * v1) + v2) u30) u3
  else none
  else none
  else
  X12_write_j34 o_status o_sort o_trayMany o_trays u3
abbrev wd_X12_write (E : vE) (a_o a_o_at a_o_names a_o_sort a_o_trayMany a_o_trays a_o_tape a_o_text a_o_opened a_o_farBy a_o_attendsBy a_o_coveredBy a_o_cameBy a_o_cameThen a_o_fallsBy a_o_loops a_o_ran a_o_told1 : Nat) (o_status : Int32) (o_top : Int64) (o_bottom : Int64) (o_taped : Int32) (o_size : Int32) (o_token : Int32) (o_from : Int32) (o_end : Int32) (o_value : Int32) (o_faultKind : Int32) (o_faultPlace : Int32) (o_faults : Int32) (o_seen : Int32) (o_toldParts : Int32) (o_depth : Int32) (o_counted : Int32) (o_becameThen : Int32) (o_firstCorner : Int32) (o_drawn : Int32) (o_ranSteps : Int32) (o_isTold : Int32) (o_marks : Int32) (o_sort : Nat → Int32) (o_trayMany : Nat → Int32) (o_trays : Nat → Int64) : va_W := [(a_o, .inr (12, [.ref a_o_at, .ref a_o_names, .int o_status, .long o_top, .long o_bottom, .ref a_o_sort, .ref a_o_trayMany, .ref a_o_trays, .ref a_o_tape, .ref a_o_text, .int o_taped, .int o_size, .int o_token, .int o_from, .int o_end, .int o_value, .int o_faultKind, .int o_faultPlace, .int o_faults, .int o_seen, .int o_toldParts, .ref a_o_opened, .int o_depth, .int o_counted, .ref a_o_farBy, .int o_becameThen, .ref a_o_attendsBy, .ref a_o_coveredBy, .ref a_o_cameBy, .ref a_o_cameThen, .int o_firstCorner, .ref a_o_fallsBy, .int o_drawn, .int o_ranSteps, .ref a_o_loops, .ref a_o_ran, .ref a_o_told1, .int o_isTold, .int o_marks])), (a_o_sort, .inl (E.2.1, 4, .inl o_sort)), (a_o_trayMany, .inl (E.2.1, 4, .inl o_trayMany)), (a_o_trays, .inl (E.2.2.1, 240, .inr (.inl o_trays)))]
set_option maxHeartbeats 4000000 in
set_option maxRecDepth 100000 in
theorem ct_X12_write (l : Launch) (E : vE) (a_o a_o_at a_o_names a_o_sort a_o_trayMany a_o_trays a_o_tape a_o_text a_o_opened a_o_farBy a_o_attendsBy a_o_coveredBy a_o_cameBy a_o_cameThen a_o_fallsBy a_o_loops a_o_ran a_o_told1 : Nat) (o_status : Int32) (o_top : Int64) (o_bottom : Int64) (o_taped : Int32) (o_size : Int32) (o_token : Int32) (o_from : Int32) (o_end : Int32) (o_value : Int32) (o_faultKind : Int32) (o_faultPlace : Int32) (o_faults : Int32) (o_seen : Int32) (o_toldParts : Int32) (o_depth : Int32) (o_counted : Int32) (o_becameThen : Int32) (o_firstCorner : Int32) (o_drawn : Int32) (o_ranSteps : Int32) (o_isTold : Int32) (o_marks : Int32) (o_sort : Nat → Int32) (o_trayMany : Nat → Int32) (o_trays : Nat → Int64) (v1 : Int32) (v2 : Int32) (v3 : Int64) (u : Int32 × Int32 × (Nat → Int64)) (hf : X12_write o_status o_sort o_trayMany o_trays v1 v2 v3 = some u) :
    CtI l yX12_write cX12_write 6 (some .boolean) 2 E [.ref a_o, .int v1, .int v2, .long v3] (wd_X12_write E a_o a_o_at a_o_names a_o_sort a_o_trayMany a_o_trays a_o_tape a_o_text a_o_opened a_o_farBy a_o_attendsBy a_o_coveredBy a_o_cameBy a_o_cameThen a_o_fallsBy a_o_loops a_o_ran a_o_told1 o_status o_top o_bottom o_taped o_size o_token o_from o_end o_value o_faultKind o_faultPlace o_faults o_seen o_toldParts o_depth o_counted o_becameThen o_firstCorner o_drawn o_ranSteps o_isTold o_marks o_sort o_trayMany o_trays) (wd_X12_write E a_o a_o_at a_o_names a_o_sort a_o_trayMany a_o_trays a_o_tape a_o_text a_o_opened a_o_farBy a_o_attendsBy a_o_coveredBy a_o_cameBy a_o_cameThen a_o_fallsBy a_o_loops a_o_ran a_o_told1 u.2.1 o_top o_bottom o_taped o_size o_token o_from o_end o_value o_faultKind o_faultPlace o_faults o_seen o_toldParts o_depth o_counted o_becameThen o_firstCorner o_drawn o_ranSteps o_isTold o_marks o_sort o_trayMany u.2.2) u.1 := by
  refine ctI (by decide) (Nat.le_of_ble_eq_true rfl) ?_
  intro p e s m below meth cd A ls aa QQ hq cx hP hD hS hl
  obtain ⟨⟨hx, hb, hml, hown, hts⟩, hr, hlocks, hK, hA, hX⟩ := id cx
  have hl : lv_has ls 6 [(0, .ref a_o), (1, .int v1), (2, .int v2), (3, .long v3)] := hl
  have hj34 : ∀ (v5_j34 : Int32) (o_status_j34 : Int32) (o_trays_j34 : Nat → Int64) (H : Heap) (locs : List Loc) (ls : Array Slot), X12_write_j34 o_status_j34 o_sort o_trayMany o_trays_j34 v5_j34 = some u → va_P E.1 vwCl (wd_X12_write E a_o a_o_at a_o_names a_o_sort a_o_trayMany a_o_trays a_o_tape a_o_text a_o_opened a_o_farBy a_o_attendsBy a_o_coveredBy a_o_cameBy a_o_cameThen a_o_fallsBy a_o_loops a_o_ran a_o_told1 o_status_j34 o_top o_bottom o_taped o_size o_token o_from o_end o_value o_faultKind o_faultPlace o_faults o_seen o_toldParts o_depth o_counted o_becameThen o_firstCorner o_drawn o_ranSteps o_isTold o_marks o_sort o_trayMany o_trays_j34) H → va_D A (wd_X12_write E a_o a_o_at a_o_names a_o_sort a_o_trayMany a_o_trays a_o_tape a_o_text a_o_opened a_o_farBy a_o_attendsBy a_o_coveredBy a_o_cameBy a_o_cameThen a_o_fallsBy a_o_loops a_o_ran a_o_told1 o_status_j34 o_top o_bottom o_taped o_size o_token o_from o_end o_value o_faultKind o_faultPlace o_faults o_seen o_toldParts o_depth o_counted o_becameThen o_firstCorner o_drawn o_ranSteps o_isTold o_marks o_sort o_trayMany o_trays_j34) → va_S A s.heap H locs → lv_has ls 6 [(0, .ref a_o), (5, .int v5_j34)] → W p l e (rmd 2) s m aa below meth cd H locs 0 0 QQ (F0 m 34 ls []) := by
    intro v5_j34 o_status_j34 o_trays_j34 H locs ls hf hP hD hS hl
    unfold X12_write_j34 at hf
    refine lv_aload_n hx hb dX12_write_34 rfl (lv_at hl 0 rfl) ?_
    refine lv_iload hx hb dX12_write_35 (lv_at hl 1 rfl) ?_
    obtain ⟨u37, hu37, hf⟩ := bd hf
    refine callVI (wn := (wd_X12_write E a_o a_o_at a_o_names a_o_sort a_o_trayMany a_o_trays a_o_tape a_o_text a_o_opened a_o_farBy a_o_attendsBy a_o_coveredBy a_o_cameBy a_o_cameThen a_o_fallsBy a_o_loops a_o_ran a_o_told1 u37.2 o_top o_bottom o_taped o_size o_token o_from o_end o_value o_faultKind o_faultPlace o_faults o_seen o_toldParts o_depth o_counted o_becameThen o_firstCorner o_drawn o_ranSteps o_isTold o_marks o_sort o_trayMany o_trays_j34)) (n1 := 4) (ct_X12_is l E a_o a_o_at a_o_names a_o_sort a_o_trayMany a_o_trays a_o_tape a_o_text a_o_opened a_o_farBy a_o_attendsBy a_o_coveredBy a_o_cameBy a_o_cameThen a_o_fallsBy a_o_loops a_o_ran a_o_told1 o_status_j34 o_top o_bottom o_taped o_size o_token o_from o_end o_value o_faultKind o_faultPlace o_faults o_seen o_toldParts o_depth o_counted o_becameThen o_firstCorner o_drawn o_ranSteps o_isTold o_marks v5_j34 u37 hu37) [0] cal_X12_is cav_X12_is lk_X12_92 cx hP hD hS hl dX12_write_37 rfl rfl rfl rfl (Nat.le_of_ble_eq_true rfl) ⟨Nat.le_of_ble_eq_true rfl, Nat.le_of_ble_eq_true rfl⟩ rfl (by decide +kernel) rfl [some 0, none, none, none] rfl (by decide +kernel) rfl (fun H locs hP hD hS => ?_)
    obtain ⟨hz, hf⟩ := ck hf
    obtain rfl := Option.some.inj hf
    subst hq
    exact retZ cx hz hP hD hS dX12_write_40
  unfold X12_write at hf
  refine lv_aload_n hx hb dX12_write_0 rfl (lv_at hl 0 rfl) ?_
  refine lv_iload_n hx hb dX12_write_1 rfl (lv_at hl 1 rfl) ?_
  refine lv_iload_n hx hb dX12_write_2 rfl (lv_at hl 2 rfl) ?_
  obtain ⟨u3, hu3, hf⟩ := bd hf
  refine keepVI (ct_X12_wrongPlace l E a_o a_o_at a_o_names a_o_sort a_o_trayMany a_o_trays a_o_tape a_o_text a_o_opened a_o_farBy a_o_attendsBy a_o_coveredBy a_o_cameBy a_o_cameThen a_o_fallsBy a_o_loops a_o_ran a_o_told1 o_status o_top o_bottom o_taped o_size o_token o_from o_end o_value o_faultKind o_faultPlace o_faults o_seen o_toldParts o_depth o_counted o_becameThen o_firstCorner o_drawn o_ranSteps o_isTold o_marks o_trayMany v1 v2 u3 hu3) [0, 2] cal_X12_wrongPlace cav_X12_wrongPlace lk_X12_99 cx hP hD hS hl dX12_write_3 rfl rfl rfl rfl (Nat.le_of_ble_eq_true rfl) ⟨Nat.le_of_ble_eq_true rfl, Nat.le_of_ble_eq_true rfl⟩ rfl (by decide) (fun H locs hP hS => ?_)
  refine lv_istore (lv' := [(5, .int u3), (0, .ref a_o), (1, .int v1), (2, .int v2), (3, .long v3)]) hx hb dX12_write_6 hl (by decide) rfl (fun ls hl => ?_)
  refine lv_iload hx hb dX12_write_8 (lv_at hl 0 rfl) ?_
  refine lv_if_ne (tgt := 34) hx hb dX12_write_10 (by decide) (fun hc => ?_) (fun hc => ?_)
  · have hf := it_f hc hf
    exact hj34 _ _ _ _ _ _ hf hP hD hS (lv_sub hl [1, 0] rfl)
  · have hf := it_t hc hf
    refine lv_aload_n hx hb dX12_write_13 rfl (lv_at hl 1 rfl) ?_
    refine va_get (D := E.1) (ci := 12) (v := .ref a_o_trays) (C := RX12) (T := TX12) (N := 39) hx hb hts inX12 hown hK hP 0 rfl rfl 7 (by decide) (hts _ fl_X12_27) (fun _ h9 => h9) rfl dX12_write_14 ?_
    refine lv_bipush (v := 60) hx hb dX12_write_17 (by decide) ?_
    refine lv_iload_n hx hb dX12_write_19 rfl (lv_at hl 2 rfl) ?_
    refine lv_imul hx hb dX12_write_20 ?_
    refine lv_iload_n hx hb dX12_write_21 rfl (lv_at hl 3 rfl) ?_
    refine lv_iadd hx hb dX12_write_22 ?_
    refine lv_lload_n hx hb dX12_write_23 rfl (lv_at hl 4 rfl) ?_
    refine lv_aload_n hx hb dX12_write_24 rfl (lv_at hl 1 rfl) ?_
    refine va_get (D := E.1) (ci := 12) (v := .ref a_o_sort) (C := RX12) (T := TX12) (N := 39) hx hb hts inX12 hown hK hP 0 rfl rfl 5 (by decide) (hts _ fl_X12_21) (fun _ h9 => h9) rfl dX12_write_25 ?_
    refine lv_iload_n hx hb dX12_write_28 rfl (lv_at hl 2 rfl) ?_
    obtain ⟨hi, hf⟩ := ck hf
    refine r_iald 1 cx hP rfl hi dX12_write_29 ?_
    obtain ⟨u30, hu30, hf⟩ := bd hf
    refine keepSL (ct_X12_shrunk l E v3 (jat o_sort v1) u30 hu30) [] cal_X12_shrunk sta_X12_shrunk lk_X12_103 cx hP hD hS hl dX12_write_30 rfl rfl (Nat.le_of_ble_eq_true rfl) ⟨Nat.le_of_ble_eq_true rfl, Nat.le_of_ble_eq_true rfl⟩ rfl (by decide) (fun H locs hP hS => ?_)
    obtain ⟨hi, hf⟩ := ck hf
    refine r_last 3 cx hP hD hS rfl hi dX12_write_33 (fun H locs hP hD hS => ?_)
    have hP : va_P E.1 vwCl (wd_X12_write E a_o a_o_at a_o_names a_o_sort a_o_trayMany a_o_trays a_o_tape a_o_text a_o_opened a_o_farBy a_o_attendsBy a_o_coveredBy a_o_cameBy a_o_cameThen a_o_fallsBy a_o_loops a_o_ran a_o_told1 o_status o_top o_bottom o_taped o_size o_token o_from o_end o_value o_faultKind o_faultPlace o_faults o_seen o_toldParts o_depth o_counted o_becameThen o_firstCorner o_drawn o_ranSteps o_isTold o_marks o_sort o_trayMany (jputL o_trays ((60 * v1) + v2) u30)) H := hP
    have hD : va_D A (wd_X12_write E a_o a_o_at a_o_names a_o_sort a_o_trayMany a_o_trays a_o_tape a_o_text a_o_opened a_o_farBy a_o_attendsBy a_o_coveredBy a_o_cameBy a_o_cameThen a_o_fallsBy a_o_loops a_o_ran a_o_told1 o_status o_top o_bottom o_taped o_size o_token o_from o_end o_value o_faultKind o_faultPlace o_faults o_seen o_toldParts o_depth o_counted o_becameThen o_firstCorner o_drawn o_ranSteps o_isTold o_marks o_sort o_trayMany (jputL o_trays ((60 * v1) + v2) u30)) := hD
    exact hj34 _ _ _ _ _ _ hf hP hD hS (lv_sub hl [1, 0] rfl)
def X12_read (o_status : Int32) (o_trayMany : Nat → Int32) (o_trays : Nat → Int64) (v1 : Int32) (v2 : Int32) : Option (Int64 × Int32) :=
  (X12_wrongPlace o_trayMany v1 v2).bind fun u4 =>
  if u4 ≤ 0 then
  if ix ((60 * v1) + v2) 240 then
  some ((jat o_trays ((60 * v1) + v2)), u4)
  else none
  else
  some ((-1), u4)
abbrev wd_X12_read (E : vE) (a_o a_o_at a_o_names a_o_sort a_o_trayMany a_o_trays a_o_tape a_o_text a_o_opened a_o_farBy a_o_attendsBy a_o_coveredBy a_o_cameBy a_o_cameThen a_o_fallsBy a_o_loops a_o_ran a_o_told1 : Nat) (o_status : Int32) (o_top : Int64) (o_bottom : Int64) (o_taped : Int32) (o_size : Int32) (o_token : Int32) (o_from : Int32) (o_end : Int32) (o_value : Int32) (o_faultKind : Int32) (o_faultPlace : Int32) (o_faults : Int32) (o_seen : Int32) (o_toldParts : Int32) (o_depth : Int32) (o_counted : Int32) (o_becameThen : Int32) (o_firstCorner : Int32) (o_drawn : Int32) (o_ranSteps : Int32) (o_isTold : Int32) (o_marks : Int32) (o_trayMany : Nat → Int32) (o_trays : Nat → Int64) : va_W := [(a_o, .inr (12, [.ref a_o_at, .ref a_o_names, .int o_status, .long o_top, .long o_bottom, .ref a_o_sort, .ref a_o_trayMany, .ref a_o_trays, .ref a_o_tape, .ref a_o_text, .int o_taped, .int o_size, .int o_token, .int o_from, .int o_end, .int o_value, .int o_faultKind, .int o_faultPlace, .int o_faults, .int o_seen, .int o_toldParts, .ref a_o_opened, .int o_depth, .int o_counted, .ref a_o_farBy, .int o_becameThen, .ref a_o_attendsBy, .ref a_o_coveredBy, .ref a_o_cameBy, .ref a_o_cameThen, .int o_firstCorner, .ref a_o_fallsBy, .int o_drawn, .int o_ranSteps, .ref a_o_loops, .ref a_o_ran, .ref a_o_told1, .int o_isTold, .int o_marks])), (a_o_trayMany, .inl (E.2.1, 4, .inl o_trayMany)), (a_o_trays, .inl (E.2.2.1, 240, .inr (.inl o_trays)))]
set_option maxHeartbeats 4000000 in
set_option maxRecDepth 100000 in
theorem ct_X12_read (l : Launch) (E : vE) (a_o a_o_at a_o_names a_o_sort a_o_trayMany a_o_trays a_o_tape a_o_text a_o_opened a_o_farBy a_o_attendsBy a_o_coveredBy a_o_cameBy a_o_cameThen a_o_fallsBy a_o_loops a_o_ran a_o_told1 : Nat) (o_status : Int32) (o_top : Int64) (o_bottom : Int64) (o_taped : Int32) (o_size : Int32) (o_token : Int32) (o_from : Int32) (o_end : Int32) (o_value : Int32) (o_faultKind : Int32) (o_faultPlace : Int32) (o_faults : Int32) (o_seen : Int32) (o_toldParts : Int32) (o_depth : Int32) (o_counted : Int32) (o_becameThen : Int32) (o_firstCorner : Int32) (o_drawn : Int32) (o_ranSteps : Int32) (o_isTold : Int32) (o_marks : Int32) (o_trayMany : Nat → Int32) (o_trays : Nat → Int64) (v1 : Int32) (v2 : Int32) (u : Int64 × Int32) (hf : X12_read o_status o_trayMany o_trays v1 v2 = some u) :
    CtL l yX12_read cX12_read 3 (some .long) 2 E [.ref a_o, .int v1, .int v2] (wd_X12_read E a_o a_o_at a_o_names a_o_sort a_o_trayMany a_o_trays a_o_tape a_o_text a_o_opened a_o_farBy a_o_attendsBy a_o_coveredBy a_o_cameBy a_o_cameThen a_o_fallsBy a_o_loops a_o_ran a_o_told1 o_status o_top o_bottom o_taped o_size o_token o_from o_end o_value o_faultKind o_faultPlace o_faults o_seen o_toldParts o_depth o_counted o_becameThen o_firstCorner o_drawn o_ranSteps o_isTold o_marks o_trayMany o_trays) (wd_X12_read E a_o a_o_at a_o_names a_o_sort a_o_trayMany a_o_trays a_o_tape a_o_text a_o_opened a_o_farBy a_o_attendsBy a_o_coveredBy a_o_cameBy a_o_cameThen a_o_fallsBy a_o_loops a_o_ran a_o_told1 u.2 o_top o_bottom o_taped o_size o_token o_from o_end o_value o_faultKind o_faultPlace o_faults o_seen o_toldParts o_depth o_counted o_becameThen o_firstCorner o_drawn o_ranSteps o_isTold o_marks o_trayMany o_trays) u.1 := by
  refine ctL (by decide) (Nat.le_of_ble_eq_true rfl) ?_
  intro p e s m below meth cd A ls aa QQ hq cx hP hD hS hl
  obtain ⟨⟨hx, hb, hml, hown, hts⟩, hr, hlocks, hK, hA, hX⟩ := id cx
  have hl : lv_has ls 3 [(0, .ref a_o), (1, .int v1), (2, .int v2)] := hl
  unfold X12_read at hf
  refine lv_aload_n hx hb dX12_read_0 rfl (lv_at hl 0 rfl) ?_
  refine lv_aload_n hx hb dX12_read_1 rfl (lv_at hl 0 rfl) ?_
  refine lv_iload_n hx hb dX12_read_2 rfl (lv_at hl 1 rfl) ?_
  refine lv_iload_n hx hb dX12_read_3 rfl (lv_at hl 2 rfl) ?_
  obtain ⟨u4, hu4, hf⟩ := bd hf
  refine keepVI (ct_X12_wrongPlace l E a_o a_o_at a_o_names a_o_sort a_o_trayMany a_o_trays a_o_tape a_o_text a_o_opened a_o_farBy a_o_attendsBy a_o_coveredBy a_o_cameBy a_o_cameThen a_o_fallsBy a_o_loops a_o_ran a_o_told1 o_status o_top o_bottom o_taped o_size o_token o_from o_end o_value o_faultKind o_faultPlace o_faults o_seen o_toldParts o_depth o_counted o_becameThen o_firstCorner o_drawn o_ranSteps o_isTold o_marks o_trayMany v1 v2 u4 hu4) [0, 1] cal_X12_wrongPlace cav_X12_wrongPlace lk_X12_99 cx hP hD hS hl dX12_read_4 rfl rfl rfl rfl (Nat.le_of_ble_eq_true rfl) ⟨Nat.le_of_ble_eq_true rfl, Nat.le_of_ble_eq_true rfl⟩ rfl (by decide) (fun H locs hP hS => ?_)
  refine va_put (D := E.1) (ci := 12) (v := .int u4) (ty := .int) (C := RX12) (T := TX12) (N := 39) hx hb hts inX12 tyX12 tyX12_ok nmX12 hown hK hP hD hS 0 rfl rfl 2 (by decide) (hts _ fl_X12_79) (fun _ h9 => h9) rfl (by decide +kernel) rfl rfl (Nat.le_of_ble_eq_true rfl) dX12_read_7 (fun H locs hP hD hS => ?_)
  have hP : va_P E.1 vwCl (wd_X12_read E a_o a_o_at a_o_names a_o_sort a_o_trayMany a_o_trays a_o_tape a_o_text a_o_opened a_o_farBy a_o_attendsBy a_o_coveredBy a_o_cameBy a_o_cameThen a_o_fallsBy a_o_loops a_o_ran a_o_told1 u4 o_top o_bottom o_taped o_size o_token o_from o_end o_value o_faultKind o_faultPlace o_faults o_seen o_toldParts o_depth o_counted o_becameThen o_firstCorner o_drawn o_ranSteps o_isTold o_marks o_trayMany o_trays) H := hP
  have hD : va_D A (wd_X12_read E a_o a_o_at a_o_names a_o_sort a_o_trayMany a_o_trays a_o_tape a_o_text a_o_opened a_o_farBy a_o_attendsBy a_o_coveredBy a_o_cameBy a_o_cameThen a_o_fallsBy a_o_loops a_o_ran a_o_told1 u4 o_top o_bottom o_taped o_size o_token o_from o_end o_value o_faultKind o_faultPlace o_faults o_seen o_toldParts o_depth o_counted o_becameThen o_firstCorner o_drawn o_ranSteps o_isTold o_marks o_trayMany o_trays) := hD
  refine lv_aload_n hx hb dX12_read_10 rfl (lv_at hl 0 rfl) ?_
  refine va_get (D := E.1) (ci := 12) (v := .int u4) (C := RX12) (T := TX12) (N := 39) hx hb hts inX12 hown hK hP 0 rfl rfl 2 (by decide) (hts _ fl_X12_79) (fun _ h9 => h9) rfl dX12_read_11 ?_
  refine lv_if_le (tgt := 23) hx hb dX12_read_14 (by decide) (fun hc => ?_) (fun hc => ?_)
  · have hf := it_t hc hf
    refine lv_aload_n hx hb dX12_read_23 rfl (lv_at hl 0 rfl) ?_
    refine va_get (D := E.1) (ci := 12) (v := .ref a_o_trays) (C := RX12) (T := TX12) (N := 39) hx hb hts inX12 hown hK hP 0 rfl rfl 7 (by decide) (hts _ fl_X12_27) (fun _ h9 => h9) rfl dX12_read_24 ?_
    refine lv_bipush (v := 60) hx hb dX12_read_27 (by decide) ?_
    refine lv_iload_n hx hb dX12_read_29 rfl (lv_at hl 1 rfl) ?_
    refine lv_imul hx hb dX12_read_30 ?_
    refine lv_iload_n hx hb dX12_read_31 rfl (lv_at hl 2 rfl) ?_
    refine lv_iadd hx hb dX12_read_32 ?_
    obtain ⟨hi, hf⟩ := ck hf
    refine r_lald 2 cx hP rfl hi dX12_read_33 ?_
    obtain rfl := Option.some.inj hf
    subst hq
    exact retL cx hP hD hS dX12_read_34
  · have hf := it_f hc hf
    refine lv_ldc2 (v := (-1)) hx hb hown (hts _ kl_X12_107) dX12_read_17 ?_
    refine lv_goto (tgt := 34) hx hb dX12_read_20 (by decide) ?_
    obtain rfl := Option.some.inj hf
    subst hq
    exact retL cx hP hD hS dX12_read_34
def X12_pour_j109 (F : Nat) (o_status : Int32) (o_sort : Nat → Int32) (o_trayMany : Nat → Int32) (o_trays : Nat → Int64) : Option (Int32 × Int32 × (Nat → Int64)) :=
  (X12_is o_status (3 : Int32)).bind fun u111 =>
  if isZ u111.1 then some (u111.1, u111.2, o_trays) else none
def X12_pour_j54 (F : Nat) (o_status : Int32) (o_sort : Nat → Int32) (o_trayMany : Nat → Int32) (o_trays : Nat → Int64) : Option (Int32 × Int32 × (Nat → Int64)) :=
  (X12_is o_status (2 : Int32)).bind fun u56 =>
  if isZ u56.1 then some (u56.1, u56.2, o_trays) else none
def X12_pour_j28 (F : Nat) (o_status : Int32) (o_sort : Nat → Int32) (o_trayMany : Nat → Int32) (o_trays : Nat → Int64) : Option (Int32 × Int32 × (Nat → Int64)) :=
  (X12_is o_status (1 : Int32)).bind fun u30 =>
  if isZ u30.1 then some (u30.1, u30.2, o_trays) else none
def X12_pour_j143 (F : Nat) (o_status : Int32) (o_sort : Nat → Int32) (o_trayMany : Nat → Int32) (o_trays : Nat → Int64) (v1 : Int32) (v2 : Int32) (v3 : Int32) (v4 : Int32) (v5 : Int32) (v6 : Int32) (k0 : Int32) : Option ((Int32 × (Nat → Int64)) ⊕ (((Nat → Int64)))) :=
  if ix (((60 * v1) + v2) + k0) 240 then
  if ix (((60 * v3) + v4) + k0) 240 then
  some (.inl ((v6 + 1), (jputL o_trays (((60 * v3) + v4) + k0) (jat o_trays (((60 * v1) + v2) + k0)))))
  else none
  else none
def X12_pour_b118 (F : Nat) (o_status : Int32) (o_sort : Nat → Int32) (o_trayMany : Nat → Int32) (v1 : Int32) (v2 : Int32) (v3 : Int32) (v4 : Int32) (v5 : Int32) (st118 : Int32 × (Nat → Int64)) : Option ((Int32 × (Nat → Int64)) ⊕ (((Nat → Int64)))) :=
  if v5 ≤ st118.1 then
  some (.inr st118.2)
  else
  if v4 ≤ v2 then
  X12_pour_j143 F o_status o_sort o_trayMany st118.2 v1 v2 v3 v4 v5 st118.1 st118.1
  else
  X12_pour_j143 F o_status o_sort o_trayMany st118.2 v1 v2 v3 v4 v5 st118.1 ((v5 - 1) - st118.1)
def X12_pour (F : Nat) (o_status : Int32) (o_sort : Nat → Int32) (o_trayMany : Nat → Int32) (o_trays : Nat → Int64) (v1 : Int32) (v2 : Int32) (v3 : Int32) (v4 : Int32) (v5 : Int32) : Option (Int32 × Int32 × (Nat → Int64)) :=
  (X12_isTray v1).bind fun u1 =>
  if u1 = 0 then
  X12_pour_j28 F o_status o_sort o_trayMany o_trays
  else
  (X12_isTray v3).bind fun u8 =>
  if u8 = 0 then
  X12_pour_j28 F o_status o_sort o_trayMany o_trays
  else
  if v2 < 0 then
  X12_pour_j28 F o_status o_sort o_trayMany o_trays
  else
  if v4 < 0 then
  X12_pour_j28 F o_status o_sort o_trayMany o_trays
  else
  if (0 : Int32) ≤ v5 then
  if ix v1 4 then
  if (jat o_trayMany v1) = (-1) then
  X12_pour_j54 F o_status o_sort o_trayMany o_trays
  else
  if ix v3 4 then
  if (jat o_trayMany v3) = (-1) then
  X12_pour_j54 F o_status o_sort o_trayMany o_trays
  else
  if ix v1 4 then
  if ix v3 4 then
  if (jat o_sort v1) = (jat o_sort v3) then
  if ix v1 4 then
  if ((jat o_trayMany v1) - v2) < v5 then
  X12_pour_j109 F o_status o_sort o_trayMany o_trays
  else
  if ix v3 4 then
  if v5 ≤ ((jat o_trayMany v3) - v4) then
  (iter (X12_pour_b118 F o_status o_sort o_trayMany v1 v2 v3 v4 v5) F (0, o_trays)).bind (fun (e118 : (Nat → Int64)) =>
    (X12_is o_status (0 : Int32)).bind fun u182 =>
  if isZ u182.1 then some (u182.1, u182.2, e118) else none)
  else
  X12_pour_j109 F o_status o_sort o_trayMany o_trays
  else none
  else none
  else
  (X12_is o_status (8 : Int32)).bind fun u78 =>
  if isZ u78.1 then some (u78.1, u78.2, o_trays) else none
  else none
  else none
  else none
  else none
  else
  X12_pour_j28 F o_status o_sort o_trayMany o_trays
abbrev wd_X12_pour (E : vE) (a_o a_o_at a_o_names a_o_sort a_o_trayMany a_o_trays a_o_tape a_o_text a_o_opened a_o_farBy a_o_attendsBy a_o_coveredBy a_o_cameBy a_o_cameThen a_o_fallsBy a_o_loops a_o_ran a_o_told1 : Nat) (o_status : Int32) (o_top : Int64) (o_bottom : Int64) (o_taped : Int32) (o_size : Int32) (o_token : Int32) (o_from : Int32) (o_end : Int32) (o_value : Int32) (o_faultKind : Int32) (o_faultPlace : Int32) (o_faults : Int32) (o_seen : Int32) (o_toldParts : Int32) (o_depth : Int32) (o_counted : Int32) (o_becameThen : Int32) (o_firstCorner : Int32) (o_drawn : Int32) (o_ranSteps : Int32) (o_isTold : Int32) (o_marks : Int32) (o_sort : Nat → Int32) (o_trayMany : Nat → Int32) (o_trays : Nat → Int64) : va_W := [(a_o, .inr (12, [.ref a_o_at, .ref a_o_names, .int o_status, .long o_top, .long o_bottom, .ref a_o_sort, .ref a_o_trayMany, .ref a_o_trays, .ref a_o_tape, .ref a_o_text, .int o_taped, .int o_size, .int o_token, .int o_from, .int o_end, .int o_value, .int o_faultKind, .int o_faultPlace, .int o_faults, .int o_seen, .int o_toldParts, .ref a_o_opened, .int o_depth, .int o_counted, .ref a_o_farBy, .int o_becameThen, .ref a_o_attendsBy, .ref a_o_coveredBy, .ref a_o_cameBy, .ref a_o_cameThen, .int o_firstCorner, .ref a_o_fallsBy, .int o_drawn, .int o_ranSteps, .ref a_o_loops, .ref a_o_ran, .ref a_o_told1, .int o_isTold, .int o_marks])), (a_o_sort, .inl (E.2.1, 4, .inl o_sort)), (a_o_trayMany, .inl (E.2.1, 4, .inl o_trayMany)), (a_o_trays, .inl (E.2.2.1, 240, .inr (.inl o_trays)))]
set_option maxHeartbeats 4000000 in
set_option maxRecDepth 100000 in
theorem ct_X12_pour (l : Launch) (E : vE) (F : Nat) (a_o a_o_at a_o_names a_o_sort a_o_trayMany a_o_trays a_o_tape a_o_text a_o_opened a_o_farBy a_o_attendsBy a_o_coveredBy a_o_cameBy a_o_cameThen a_o_fallsBy a_o_loops a_o_ran a_o_told1 : Nat) (o_status : Int32) (o_top : Int64) (o_bottom : Int64) (o_taped : Int32) (o_size : Int32) (o_token : Int32) (o_from : Int32) (o_end : Int32) (o_value : Int32) (o_faultKind : Int32) (o_faultPlace : Int32) (o_faults : Int32) (o_seen : Int32) (o_toldParts : Int32) (o_depth : Int32) (o_counted : Int32) (o_becameThen : Int32) (o_firstCorner : Int32) (o_drawn : Int32) (o_ranSteps : Int32) (o_isTold : Int32) (o_marks : Int32) (o_sort : Nat → Int32) (o_trayMany : Nat → Int32) (o_trays : Nat → Int64) (v1 : Int32) (v2 : Int32) (v3 : Int32) (v4 : Int32) (v5 : Int32) (u : Int32 × Int32 × (Nat → Int64)) (hf : X12_pour F o_status o_sort o_trayMany o_trays v1 v2 v3 v4 v5 = some u) :
    CtI l yX12_pour cX12_pour 8 (some .boolean) 1 E [.ref a_o, .int v1, .int v2, .int v3, .int v4, .int v5] (wd_X12_pour E a_o a_o_at a_o_names a_o_sort a_o_trayMany a_o_trays a_o_tape a_o_text a_o_opened a_o_farBy a_o_attendsBy a_o_coveredBy a_o_cameBy a_o_cameThen a_o_fallsBy a_o_loops a_o_ran a_o_told1 o_status o_top o_bottom o_taped o_size o_token o_from o_end o_value o_faultKind o_faultPlace o_faults o_seen o_toldParts o_depth o_counted o_becameThen o_firstCorner o_drawn o_ranSteps o_isTold o_marks o_sort o_trayMany o_trays) (wd_X12_pour E a_o a_o_at a_o_names a_o_sort a_o_trayMany a_o_trays a_o_tape a_o_text a_o_opened a_o_farBy a_o_attendsBy a_o_coveredBy a_o_cameBy a_o_cameThen a_o_fallsBy a_o_loops a_o_ran a_o_told1 u.2.1 o_top o_bottom o_taped o_size o_token o_from o_end o_value o_faultKind o_faultPlace o_faults o_seen o_toldParts o_depth o_counted o_becameThen o_firstCorner o_drawn o_ranSteps o_isTold o_marks o_sort o_trayMany u.2.2) u.1 := by
  refine ctI (by decide) (Nat.le_of_ble_eq_true rfl) ?_
  intro p e s m below meth cd A ls aa QQ hq cx hP hD hS hl
  obtain ⟨⟨hx, hb, hml, hown, hts⟩, hr, hlocks, hK, hA, hX⟩ := id cx
  have hl : lv_has ls 8 [(0, .ref a_o), (1, .int v1), (2, .int v2), (3, .int v3), (4, .int v4), (5, .int v5)] := hl
  have hj109 : ∀ (o_status_j109 : Int32) (o_trays_j109 : Nat → Int64) (H : Heap) (locs : List Loc) (ls : Array Slot), X12_pour_j109 F o_status_j109 o_sort o_trayMany o_trays_j109 = some u → va_P E.1 vwCl (wd_X12_pour E a_o a_o_at a_o_names a_o_sort a_o_trayMany a_o_trays a_o_tape a_o_text a_o_opened a_o_farBy a_o_attendsBy a_o_coveredBy a_o_cameBy a_o_cameThen a_o_fallsBy a_o_loops a_o_ran a_o_told1 o_status_j109 o_top o_bottom o_taped o_size o_token o_from o_end o_value o_faultKind o_faultPlace o_faults o_seen o_toldParts o_depth o_counted o_becameThen o_firstCorner o_drawn o_ranSteps o_isTold o_marks o_sort o_trayMany o_trays_j109) H → va_D A (wd_X12_pour E a_o a_o_at a_o_names a_o_sort a_o_trayMany a_o_trays a_o_tape a_o_text a_o_opened a_o_farBy a_o_attendsBy a_o_coveredBy a_o_cameBy a_o_cameThen a_o_fallsBy a_o_loops a_o_ran a_o_told1 o_status_j109 o_top o_bottom o_taped o_size o_token o_from o_end o_value o_faultKind o_faultPlace o_faults o_seen o_toldParts o_depth o_counted o_becameThen o_firstCorner o_drawn o_ranSteps o_isTold o_marks o_sort o_trayMany o_trays_j109) → va_S A s.heap H locs → lv_has ls 8 [(0, .ref a_o)] → W p l e (rmd 1) s m aa below meth cd H locs 0 0 QQ (F0 m 109 ls []) := by
    intro o_status_j109 o_trays_j109 H locs ls hf hP hD hS hl
    unfold X12_pour_j109 at hf
    refine lv_aload_n hx hb dX12_pour_109 rfl (lv_at hl 0 rfl) ?_
    refine lv_iconst (v := 3) hx hb dX12_pour_110 (by decide) ?_
    obtain ⟨u111, hu111, hf⟩ := bd hf
    refine callVI (wn := (wd_X12_pour E a_o a_o_at a_o_names a_o_sort a_o_trayMany a_o_trays a_o_tape a_o_text a_o_opened a_o_farBy a_o_attendsBy a_o_coveredBy a_o_cameBy a_o_cameThen a_o_fallsBy a_o_loops a_o_ran a_o_told1 u111.2 o_top o_bottom o_taped o_size o_token o_from o_end o_value o_faultKind o_faultPlace o_faults o_seen o_toldParts o_depth o_counted o_becameThen o_firstCorner o_drawn o_ranSteps o_isTold o_marks o_sort o_trayMany o_trays_j109)) (n1 := 4) (ct_X12_is l E a_o a_o_at a_o_names a_o_sort a_o_trayMany a_o_trays a_o_tape a_o_text a_o_opened a_o_farBy a_o_attendsBy a_o_coveredBy a_o_cameBy a_o_cameThen a_o_fallsBy a_o_loops a_o_ran a_o_told1 o_status_j109 o_top o_bottom o_taped o_size o_token o_from o_end o_value o_faultKind o_faultPlace o_faults o_seen o_toldParts o_depth o_counted o_becameThen o_firstCorner o_drawn o_ranSteps o_isTold o_marks (3 : Int32) u111 hu111) [0] cal_X12_is cav_X12_is lk_X12_92 cx hP hD hS hl dX12_pour_111 rfl rfl rfl rfl (Nat.le_of_ble_eq_true rfl) ⟨Nat.le_of_ble_eq_true rfl, Nat.le_of_ble_eq_true rfl⟩ rfl (by decide +kernel) rfl [some 0, none, none, none] rfl (by decide +kernel) rfl (fun H locs hP hD hS => ?_)
    obtain ⟨hz, hf⟩ := ck hf
    obtain rfl := Option.some.inj hf
    subst hq
    exact retZ cx hz hP hD hS dX12_pour_114
  have hj54 : ∀ (o_status_j54 : Int32) (o_trays_j54 : Nat → Int64) (H : Heap) (locs : List Loc) (ls : Array Slot), X12_pour_j54 F o_status_j54 o_sort o_trayMany o_trays_j54 = some u → va_P E.1 vwCl (wd_X12_pour E a_o a_o_at a_o_names a_o_sort a_o_trayMany a_o_trays a_o_tape a_o_text a_o_opened a_o_farBy a_o_attendsBy a_o_coveredBy a_o_cameBy a_o_cameThen a_o_fallsBy a_o_loops a_o_ran a_o_told1 o_status_j54 o_top o_bottom o_taped o_size o_token o_from o_end o_value o_faultKind o_faultPlace o_faults o_seen o_toldParts o_depth o_counted o_becameThen o_firstCorner o_drawn o_ranSteps o_isTold o_marks o_sort o_trayMany o_trays_j54) H → va_D A (wd_X12_pour E a_o a_o_at a_o_names a_o_sort a_o_trayMany a_o_trays a_o_tape a_o_text a_o_opened a_o_farBy a_o_attendsBy a_o_coveredBy a_o_cameBy a_o_cameThen a_o_fallsBy a_o_loops a_o_ran a_o_told1 o_status_j54 o_top o_bottom o_taped o_size o_token o_from o_end o_value o_faultKind o_faultPlace o_faults o_seen o_toldParts o_depth o_counted o_becameThen o_firstCorner o_drawn o_ranSteps o_isTold o_marks o_sort o_trayMany o_trays_j54) → va_S A s.heap H locs → lv_has ls 8 [(0, .ref a_o)] → W p l e (rmd 1) s m aa below meth cd H locs 0 0 QQ (F0 m 54 ls []) := by
    intro o_status_j54 o_trays_j54 H locs ls hf hP hD hS hl
    unfold X12_pour_j54 at hf
    refine lv_aload_n hx hb dX12_pour_54 rfl (lv_at hl 0 rfl) ?_
    refine lv_iconst (v := 2) hx hb dX12_pour_55 (by decide) ?_
    obtain ⟨u56, hu56, hf⟩ := bd hf
    refine callVI (wn := (wd_X12_pour E a_o a_o_at a_o_names a_o_sort a_o_trayMany a_o_trays a_o_tape a_o_text a_o_opened a_o_farBy a_o_attendsBy a_o_coveredBy a_o_cameBy a_o_cameThen a_o_fallsBy a_o_loops a_o_ran a_o_told1 u56.2 o_top o_bottom o_taped o_size o_token o_from o_end o_value o_faultKind o_faultPlace o_faults o_seen o_toldParts o_depth o_counted o_becameThen o_firstCorner o_drawn o_ranSteps o_isTold o_marks o_sort o_trayMany o_trays_j54)) (n1 := 4) (ct_X12_is l E a_o a_o_at a_o_names a_o_sort a_o_trayMany a_o_trays a_o_tape a_o_text a_o_opened a_o_farBy a_o_attendsBy a_o_coveredBy a_o_cameBy a_o_cameThen a_o_fallsBy a_o_loops a_o_ran a_o_told1 o_status_j54 o_top o_bottom o_taped o_size o_token o_from o_end o_value o_faultKind o_faultPlace o_faults o_seen o_toldParts o_depth o_counted o_becameThen o_firstCorner o_drawn o_ranSteps o_isTold o_marks (2 : Int32) u56 hu56) [0] cal_X12_is cav_X12_is lk_X12_92 cx hP hD hS hl dX12_pour_56 rfl rfl rfl rfl (Nat.le_of_ble_eq_true rfl) ⟨Nat.le_of_ble_eq_true rfl, Nat.le_of_ble_eq_true rfl⟩ rfl (by decide +kernel) rfl [some 0, none, none, none] rfl (by decide +kernel) rfl (fun H locs hP hD hS => ?_)
    obtain ⟨hz, hf⟩ := ck hf
    obtain rfl := Option.some.inj hf
    subst hq
    exact retZ cx hz hP hD hS dX12_pour_59
  have hj28 : ∀ (o_status_j28 : Int32) (o_trays_j28 : Nat → Int64) (H : Heap) (locs : List Loc) (ls : Array Slot), X12_pour_j28 F o_status_j28 o_sort o_trayMany o_trays_j28 = some u → va_P E.1 vwCl (wd_X12_pour E a_o a_o_at a_o_names a_o_sort a_o_trayMany a_o_trays a_o_tape a_o_text a_o_opened a_o_farBy a_o_attendsBy a_o_coveredBy a_o_cameBy a_o_cameThen a_o_fallsBy a_o_loops a_o_ran a_o_told1 o_status_j28 o_top o_bottom o_taped o_size o_token o_from o_end o_value o_faultKind o_faultPlace o_faults o_seen o_toldParts o_depth o_counted o_becameThen o_firstCorner o_drawn o_ranSteps o_isTold o_marks o_sort o_trayMany o_trays_j28) H → va_D A (wd_X12_pour E a_o a_o_at a_o_names a_o_sort a_o_trayMany a_o_trays a_o_tape a_o_text a_o_opened a_o_farBy a_o_attendsBy a_o_coveredBy a_o_cameBy a_o_cameThen a_o_fallsBy a_o_loops a_o_ran a_o_told1 o_status_j28 o_top o_bottom o_taped o_size o_token o_from o_end o_value o_faultKind o_faultPlace o_faults o_seen o_toldParts o_depth o_counted o_becameThen o_firstCorner o_drawn o_ranSteps o_isTold o_marks o_sort o_trayMany o_trays_j28) → va_S A s.heap H locs → lv_has ls 8 [(0, .ref a_o)] → W p l e (rmd 1) s m aa below meth cd H locs 0 0 QQ (F0 m 28 ls []) := by
    intro o_status_j28 o_trays_j28 H locs ls hf hP hD hS hl
    unfold X12_pour_j28 at hf
    refine lv_aload_n hx hb dX12_pour_28 rfl (lv_at hl 0 rfl) ?_
    refine lv_iconst (v := 1) hx hb dX12_pour_29 (by decide) ?_
    obtain ⟨u30, hu30, hf⟩ := bd hf
    refine callVI (wn := (wd_X12_pour E a_o a_o_at a_o_names a_o_sort a_o_trayMany a_o_trays a_o_tape a_o_text a_o_opened a_o_farBy a_o_attendsBy a_o_coveredBy a_o_cameBy a_o_cameThen a_o_fallsBy a_o_loops a_o_ran a_o_told1 u30.2 o_top o_bottom o_taped o_size o_token o_from o_end o_value o_faultKind o_faultPlace o_faults o_seen o_toldParts o_depth o_counted o_becameThen o_firstCorner o_drawn o_ranSteps o_isTold o_marks o_sort o_trayMany o_trays_j28)) (n1 := 4) (ct_X12_is l E a_o a_o_at a_o_names a_o_sort a_o_trayMany a_o_trays a_o_tape a_o_text a_o_opened a_o_farBy a_o_attendsBy a_o_coveredBy a_o_cameBy a_o_cameThen a_o_fallsBy a_o_loops a_o_ran a_o_told1 o_status_j28 o_top o_bottom o_taped o_size o_token o_from o_end o_value o_faultKind o_faultPlace o_faults o_seen o_toldParts o_depth o_counted o_becameThen o_firstCorner o_drawn o_ranSteps o_isTold o_marks (1 : Int32) u30 hu30) [0] cal_X12_is cav_X12_is lk_X12_92 cx hP hD hS hl dX12_pour_30 rfl rfl rfl rfl (Nat.le_of_ble_eq_true rfl) ⟨Nat.le_of_ble_eq_true rfl, Nat.le_of_ble_eq_true rfl⟩ rfl (by decide +kernel) rfl [some 0, none, none, none] rfl (by decide +kernel) rfl (fun H locs hP hD hS => ?_)
    obtain ⟨hz, hf⟩ := ck hf
    obtain rfl := Option.some.inj hf
    subst hq
    exact retZ cx hz hP hD hS dX12_pour_33
  unfold X12_pour at hf
  refine lv_iload_n hx hb dX12_pour_0 rfl (lv_at hl 1 rfl) ?_
  obtain ⟨u1, hu1, hf⟩ := bd hf
  refine keepSI (ct_X12_isTray l E v1 u1 hu1) [] cal_X12_isTray sta_X12_isTray lk_X12_96 cx hP hD hS hl dX12_pour_1 rfl rfl (Nat.le_of_ble_eq_true rfl) ⟨Nat.le_of_ble_eq_true rfl, Nat.le_of_ble_eq_true rfl⟩ rfl (by decide) (fun H locs hP hS => ?_)
  refine lv_if_eq (tgt := 28) hx hb dX12_pour_4 (by decide) (fun hc => ?_) (fun hc => ?_)
  · have hf := it_t hc hf
    exact hj28 _ _ _ _ _ hf hP hD hS (lv_sub hl [0] rfl)
  · have hf := it_f hc hf
    refine lv_iload_n hx hb dX12_pour_7 rfl (lv_at hl 3 rfl) ?_
    obtain ⟨u8, hu8, hf⟩ := bd hf
    refine keepSI (ct_X12_isTray l E v3 u8 hu8) [] cal_X12_isTray sta_X12_isTray lk_X12_96 cx hP hD hS hl dX12_pour_8 rfl rfl (Nat.le_of_ble_eq_true rfl) ⟨Nat.le_of_ble_eq_true rfl, Nat.le_of_ble_eq_true rfl⟩ rfl (by decide) (fun H locs hP hS => ?_)
    refine lv_if_eq (tgt := 28) hx hb dX12_pour_11 (by decide) (fun hc => ?_) (fun hc => ?_)
    · have hf := it_t hc hf
      exact hj28 _ _ _ _ _ hf hP hD hS (lv_sub hl [0] rfl)
    · have hf := it_f hc hf
      refine lv_iload_n hx hb dX12_pour_14 rfl (lv_at hl 2 rfl) ?_
      refine lv_if_lt (tgt := 28) hx hb dX12_pour_15 (by decide) (fun hc => ?_) (fun hc => ?_)
      · have hf := it_t hc hf
        exact hj28 _ _ _ _ _ hf hP hD hS (lv_sub hl [0] rfl)
      · have hf := it_f hc hf
        refine lv_iload hx hb dX12_pour_18 (lv_at hl 4 rfl) ?_
        refine lv_if_lt (tgt := 28) hx hb dX12_pour_20 (by decide) (fun hc => ?_) (fun hc => ?_)
        · have hf := it_t hc hf
          exact hj28 _ _ _ _ _ hf hP hD hS (lv_sub hl [0] rfl)
        · have hf := it_f hc hf
          refine lv_iload hx hb dX12_pour_23 (lv_at hl 5 rfl) ?_
          refine lv_if_ge (tgt := 34) hx hb dX12_pour_25 (by decide) (fun hc => ?_) (fun hc => ?_)
          · have hf := it_t hc hf
            refine lv_aload_n hx hb dX12_pour_34 rfl (lv_at hl 0 rfl) ?_
            refine va_get (D := E.1) (ci := 12) (v := .ref a_o_trayMany) (C := RX12) (T := TX12) (N := 39) hx hb hts inX12 hown hK hP 0 rfl rfl 6 (by decide) (hts _ fl_X12_24) (fun _ h9 => h9) rfl dX12_pour_35 ?_
            refine lv_iload_n hx hb dX12_pour_38 rfl (lv_at hl 1 rfl) ?_
            obtain ⟨hi, hf⟩ := ck hf
            refine r_iald 2 cx hP rfl hi dX12_pour_39 ?_
            refine lv_iconst (v := (-1)) hx hb dX12_pour_40 (by decide) ?_
            refine lv_icmp_eq (tgt := 54) hx hb dX12_pour_41 (by decide) (fun hc => ?_) (fun hc => ?_)
            · have hf := it_t hc hf
              exact hj54 _ _ _ _ _ hf hP hD hS (lv_sub hl [0] rfl)
            · have hf := it_f hc hf
              refine lv_aload_n hx hb dX12_pour_44 rfl (lv_at hl 0 rfl) ?_
              refine va_get (D := E.1) (ci := 12) (v := .ref a_o_trayMany) (C := RX12) (T := TX12) (N := 39) hx hb hts inX12 hown hK hP 0 rfl rfl 6 (by decide) (hts _ fl_X12_24) (fun _ h9 => h9) rfl dX12_pour_45 ?_
              refine lv_iload_n hx hb dX12_pour_48 rfl (lv_at hl 3 rfl) ?_
              obtain ⟨hi, hf⟩ := ck hf
              refine r_iald 2 cx hP rfl hi dX12_pour_49 ?_
              refine lv_iconst (v := (-1)) hx hb dX12_pour_50 (by decide) ?_
              refine lv_icmp_ne (tgt := 60) hx hb dX12_pour_51 (by decide) (fun hc => ?_) (fun hc => ?_)
              · have hf := it_f hc hf
                refine lv_aload_n hx hb dX12_pour_60 rfl (lv_at hl 0 rfl) ?_
                refine va_get (D := E.1) (ci := 12) (v := .ref a_o_sort) (C := RX12) (T := TX12) (N := 39) hx hb hts inX12 hown hK hP 0 rfl rfl 5 (by decide) (hts _ fl_X12_21) (fun _ h9 => h9) rfl dX12_pour_61 ?_
                refine lv_iload_n hx hb dX12_pour_64 rfl (lv_at hl 1 rfl) ?_
                obtain ⟨hi, hf⟩ := ck hf
                refine r_iald 1 cx hP rfl hi dX12_pour_65 ?_
                refine lv_aload_n hx hb dX12_pour_66 rfl (lv_at hl 0 rfl) ?_
                refine va_get (D := E.1) (ci := 12) (v := .ref a_o_sort) (C := RX12) (T := TX12) (N := 39) hx hb hts inX12 hown hK hP 0 rfl rfl 5 (by decide) (hts _ fl_X12_21) (fun _ h9 => h9) rfl dX12_pour_67 ?_
                refine lv_iload_n hx hb dX12_pour_70 rfl (lv_at hl 3 rfl) ?_
                obtain ⟨hi, hf⟩ := ck hf
                refine r_iald 1 cx hP rfl hi dX12_pour_71 ?_
                refine lv_icmp_eq (tgt := 82) hx hb dX12_pour_72 (by decide) (fun hc => ?_) (fun hc => ?_)
                · have hf := it_t hc hf
                  refine lv_iload hx hb dX12_pour_82 (lv_at hl 5 rfl) ?_
                  refine lv_aload_n hx hb dX12_pour_84 rfl (lv_at hl 0 rfl) ?_
                  refine va_get (D := E.1) (ci := 12) (v := .ref a_o_trayMany) (C := RX12) (T := TX12) (N := 39) hx hb hts inX12 hown hK hP 0 rfl rfl 6 (by decide) (hts _ fl_X12_24) (fun _ h9 => h9) rfl dX12_pour_85 ?_
                  refine lv_iload_n hx hb dX12_pour_88 rfl (lv_at hl 1 rfl) ?_
                  obtain ⟨hi, hf⟩ := ck hf
                  refine r_iald 2 cx hP rfl hi dX12_pour_89 ?_
                  refine lv_iload_n hx hb dX12_pour_90 rfl (lv_at hl 2 rfl) ?_
                  refine lv_isub hx hb dX12_pour_91 ?_
                  refine lv_icmp_gt (tgt := 109) hx hb dX12_pour_92 (by decide) (fun hc => ?_) (fun hc => ?_)
                  · have hf := it_t hc hf
                    exact hj109 _ _ _ _ _ hf hP hD hS (lv_sub hl [0] rfl)
                  · have hf := it_f hc hf
                    refine lv_iload hx hb dX12_pour_95 (lv_at hl 5 rfl) ?_
                    refine lv_aload_n hx hb dX12_pour_97 rfl (lv_at hl 0 rfl) ?_
                    refine va_get (D := E.1) (ci := 12) (v := .ref a_o_trayMany) (C := RX12) (T := TX12) (N := 39) hx hb hts inX12 hown hK hP 0 rfl rfl 6 (by decide) (hts _ fl_X12_24) (fun _ h9 => h9) rfl dX12_pour_98 ?_
                    refine lv_iload_n hx hb dX12_pour_101 rfl (lv_at hl 3 rfl) ?_
                    obtain ⟨hi, hf⟩ := ck hf
                    refine r_iald 2 cx hP rfl hi dX12_pour_102 ?_
                    refine lv_iload hx hb dX12_pour_103 (lv_at hl 4 rfl) ?_
                    refine lv_isub hx hb dX12_pour_105 ?_
                    refine lv_icmp_le (tgt := 115) hx hb dX12_pour_106 (by decide) (fun hc => ?_) (fun hc => ?_)
                    · have hf := it_t hc hf
                      refine lv_iconst (v := 0) hx hb dX12_pour_115 (by decide) ?_
                      refine lv_istore (lv' := [(6, .int 0), (0, .ref a_o), (1, .int v1), (2, .int v2), (3, .int v3), (4, .int v4), (5, .int v5)]) hx hb dX12_pour_116 hl (by decide) rfl (fun ls hl => ?_)
                      obtain ⟨e118, hit118, hf⟩ := bd hf
                      refine iter_W (b := X12_pour_b118 F o_status o_sort o_trayMany v1 v2 v3 v4 v5) (P := fun st118 => ∀ (H : Heap) (locs : List Loc) (ls : Array Slot), va_P E.1 vwCl (wd_X12_pour E a_o a_o_at a_o_names a_o_sort a_o_trayMany a_o_trays a_o_tape a_o_text a_o_opened a_o_farBy a_o_attendsBy a_o_coveredBy a_o_cameBy a_o_cameThen a_o_fallsBy a_o_loops a_o_ran a_o_told1 o_status o_top o_bottom o_taped o_size o_token o_from o_end o_value o_faultKind o_faultPlace o_faults o_seen o_toldParts o_depth o_counted o_becameThen o_firstCorner o_drawn o_ranSteps o_isTold o_marks o_sort o_trayMany st118.2) H → va_D A (wd_X12_pour E a_o a_o_at a_o_names a_o_sort a_o_trayMany a_o_trays a_o_tape a_o_text a_o_opened a_o_farBy a_o_attendsBy a_o_coveredBy a_o_cameBy a_o_cameThen a_o_fallsBy a_o_loops a_o_ran a_o_told1 o_status o_top o_bottom o_taped o_size o_token o_from o_end o_value o_faultKind o_faultPlace o_faults o_seen o_toldParts o_depth o_counted o_becameThen o_firstCorner o_drawn o_ranSteps o_isTold o_marks o_sort o_trayMany st118.2) → va_S A s.heap H locs → lv_has ls 8 [(0, .ref a_o), (1, .int v1), (2, .int v2), (3, .int v3), (4, .int v4), (5, .int v5), (6, .int st118.1)] → W p l e (rmd 1) s m aa below meth cd H locs 0 0 QQ (F0 m 118 ls [])) (G := (fun (e118 : (Nat → Int64)) => ∀ (H : Heap) (locs : List Loc) (ls : Array Slot), va_P E.1 vwCl (wd_X12_pour E a_o a_o_at a_o_names a_o_sort a_o_trayMany a_o_trays a_o_tape a_o_text a_o_opened a_o_farBy a_o_attendsBy a_o_coveredBy a_o_cameBy a_o_cameThen a_o_fallsBy a_o_loops a_o_ran a_o_told1 o_status o_top o_bottom o_taped o_size o_token o_from o_end o_value o_faultKind o_faultPlace o_faults o_seen o_toldParts o_depth o_counted o_becameThen o_firstCorner o_drawn o_ranSteps o_isTold o_marks o_sort o_trayMany e118) H → va_D A (wd_X12_pour E a_o a_o_at a_o_names a_o_sort a_o_trayMany a_o_trays a_o_tape a_o_text a_o_opened a_o_farBy a_o_attendsBy a_o_coveredBy a_o_cameBy a_o_cameThen a_o_fallsBy a_o_loops a_o_ran a_o_told1 o_status o_top o_bottom o_taped o_size o_token o_from o_end o_value o_faultKind o_faultPlace o_faults o_seen o_toldParts o_depth o_counted o_becameThen o_firstCorner o_drawn o_ranSteps o_isTold o_marks o_sort o_trayMany e118) → va_S A s.heap H locs → lv_has ls 8 [(0, .ref a_o)] → W p l e (rmd 1) s m aa below meth cd H locs 0 0 QQ (F0 m 180 ls []))) ?_ F (0, o_trays) e118 hit118 ?_ _ _ _ hP hD hS (lv_sub hl [1, 2, 3, 4, 5, 6, 0] rfl)
                      · intro st118 r118 hf hk118 he118 H locs ls hP hD hS hl
                        have hj143 : ∀ (v6_j143 : Int32) (o_trays_j143 : Nat → Int64) (k0_j143 : Int32) (H : Heap) (locs : List Loc) (ls : Array Slot), X12_pour_j143 F o_status o_sort o_trayMany o_trays_j143 v1 v2 v3 v4 v5 v6_j143 k0_j143 = some r118 → va_P E.1 vwCl (wd_X12_pour E a_o a_o_at a_o_names a_o_sort a_o_trayMany a_o_trays a_o_tape a_o_text a_o_opened a_o_farBy a_o_attendsBy a_o_coveredBy a_o_cameBy a_o_cameThen a_o_fallsBy a_o_loops a_o_ran a_o_told1 o_status o_top o_bottom o_taped o_size o_token o_from o_end o_value o_faultKind o_faultPlace o_faults o_seen o_toldParts o_depth o_counted o_becameThen o_firstCorner o_drawn o_ranSteps o_isTold o_marks o_sort o_trayMany o_trays_j143) H → va_D A (wd_X12_pour E a_o a_o_at a_o_names a_o_sort a_o_trayMany a_o_trays a_o_tape a_o_text a_o_opened a_o_farBy a_o_attendsBy a_o_coveredBy a_o_cameBy a_o_cameThen a_o_fallsBy a_o_loops a_o_ran a_o_told1 o_status o_top o_bottom o_taped o_size o_token o_from o_end o_value o_faultKind o_faultPlace o_faults o_seen o_toldParts o_depth o_counted o_becameThen o_firstCorner o_drawn o_ranSteps o_isTold o_marks o_sort o_trayMany o_trays_j143) → va_S A s.heap H locs → lv_has ls 8 [(0, .ref a_o), (1, .int v1), (2, .int v2), (3, .int v3), (4, .int v4), (5, .int v5), (6, .int v6_j143)] → W p l e (rmd 1) s m aa below meth cd H locs 0 0 QQ (F0 m 143 ls [.int k0_j143]) := by
                          intro v6_j143 o_trays_j143 k0_j143 H locs ls hf hP hD hS hl
                          unfold X12_pour_j143 at hf
                          refine lv_istore (lv' := [(7, .int k0_j143), (0, .ref a_o), (1, .int v1), (2, .int v2), (3, .int v3), (4, .int v4), (5, .int v5), (6, .int v6_j143)]) hx hb dX12_pour_143 hl (by decide) rfl (fun ls hl => ?_)
                          refine lv_aload_n hx hb dX12_pour_145 rfl (lv_at hl 1 rfl) ?_
                          refine va_get (D := E.1) (ci := 12) (v := .ref a_o_trays) (C := RX12) (T := TX12) (N := 39) hx hb hts inX12 hown hK hP 0 rfl rfl 7 (by decide) (hts _ fl_X12_27) (fun _ h9 => h9) rfl dX12_pour_146 ?_
                          refine lv_bipush (v := 60) hx hb dX12_pour_149 (by decide) ?_
                          refine lv_iload_n hx hb dX12_pour_151 rfl (lv_at hl 4 rfl) ?_
                          refine lv_imul hx hb dX12_pour_152 ?_
                          refine lv_iload hx hb dX12_pour_153 (lv_at hl 5 rfl) ?_
                          refine lv_iadd hx hb dX12_pour_155 ?_
                          refine lv_iload hx hb dX12_pour_156 (lv_at hl 0 rfl) ?_
                          refine lv_iadd hx hb dX12_pour_158 ?_
                          refine lv_aload_n hx hb dX12_pour_159 rfl (lv_at hl 1 rfl) ?_
                          refine va_get (D := E.1) (ci := 12) (v := .ref a_o_trays) (C := RX12) (T := TX12) (N := 39) hx hb hts inX12 hown hK hP 0 rfl rfl 7 (by decide) (hts _ fl_X12_27) (fun _ h9 => h9) rfl dX12_pour_160 ?_
                          refine lv_bipush (v := 60) hx hb dX12_pour_163 (by decide) ?_
                          refine lv_iload_n hx hb dX12_pour_165 rfl (lv_at hl 2 rfl) ?_
                          refine lv_imul hx hb dX12_pour_166 ?_
                          refine lv_iload_n hx hb dX12_pour_167 rfl (lv_at hl 3 rfl) ?_
                          refine lv_iadd hx hb dX12_pour_168 ?_
                          refine lv_iload hx hb dX12_pour_169 (lv_at hl 0 rfl) ?_
                          refine lv_iadd hx hb dX12_pour_171 ?_
                          obtain ⟨hi, hf⟩ := ck hf
                          refine r_lald 3 cx hP rfl hi dX12_pour_172 ?_
                          obtain ⟨hi, hf⟩ := ck hf
                          refine r_last 3 cx hP hD hS rfl hi dX12_pour_173 (fun H locs hP hD hS => ?_)
                          have hP : va_P E.1 vwCl (wd_X12_pour E a_o a_o_at a_o_names a_o_sort a_o_trayMany a_o_trays a_o_tape a_o_text a_o_opened a_o_farBy a_o_attendsBy a_o_coveredBy a_o_cameBy a_o_cameThen a_o_fallsBy a_o_loops a_o_ran a_o_told1 o_status o_top o_bottom o_taped o_size o_token o_from o_end o_value o_faultKind o_faultPlace o_faults o_seen o_toldParts o_depth o_counted o_becameThen o_firstCorner o_drawn o_ranSteps o_isTold o_marks o_sort o_trayMany (jputL o_trays_j143 (((60 * v3) + v4) + k0_j143) (jat o_trays_j143 (((60 * v1) + v2) + k0_j143)))) H := hP
                          have hD : va_D A (wd_X12_pour E a_o a_o_at a_o_names a_o_sort a_o_trayMany a_o_trays a_o_tape a_o_text a_o_opened a_o_farBy a_o_attendsBy a_o_coveredBy a_o_cameBy a_o_cameThen a_o_fallsBy a_o_loops a_o_ran a_o_told1 o_status o_top o_bottom o_taped o_size o_token o_from o_end o_value o_faultKind o_faultPlace o_faults o_seen o_toldParts o_depth o_counted o_becameThen o_firstCorner o_drawn o_ranSteps o_isTold o_marks o_sort o_trayMany (jputL o_trays_j143 (((60 * v3) + v4) + k0_j143) (jat o_trays_j143 (((60 * v1) + v2) + k0_j143)))) := hD
                          refine lv_iinc (v := (v6_j143 + 1)) (lv' := [(6, .int (v6_j143 + 1)), (7, .int k0_j143), (0, .ref a_o), (1, .int v1), (2, .int v2), (3, .int v3), (4, .int v4), (5, .int v5)]) hx hb dX12_pour_174 hl (k := 7) rfl rfl (by decide) rfl (fun ls hl => ?_)
                          refine lv_goto (tgt := 118) hx hb dX12_pour_177 (by decide) ?_
                          exact hk118 _ (Option.some.inj hf).symm _ _ _ hP hD hS (lv_sub hl [2, 3, 4, 5, 6, 7, 0] rfl)
                        unfold X12_pour_b118 at hf
                        refine lv_iload hx hb dX12_pour_118 (lv_at hl 6 rfl) ?_
                        refine lv_iload hx hb dX12_pour_120 (lv_at hl 5 rfl) ?_
                        refine lv_icmp_ge (tgt := 180) hx hb dX12_pour_122 (by decide) (fun hc => ?_) (fun hc => ?_)
                        · have hf := it_t hc hf
                          exact he118 _ (Option.some.inj hf).symm _ _ _ hP hD hS (lv_sub hl [0] rfl)
                        · have hf := it_f hc hf
                          refine lv_iload_n hx hb dX12_pour_125 rfl (lv_at hl 2 rfl) ?_
                          refine lv_iload hx hb dX12_pour_126 (lv_at hl 4 rfl) ?_
                          refine lv_icmp_ge (tgt := 141) hx hb dX12_pour_128 (by decide) (fun hc => ?_) (fun hc => ?_)
                          · have hf := it_t hc hf
                            refine lv_iload hx hb dX12_pour_141 (lv_at hl 6 rfl) ?_
                            exact hj143 _ _ _ _ _ _ hf hP hD hS (lv_sub hl [0, 1, 2, 3, 4, 5, 6] rfl)
                          · have hf := it_f hc hf
                            refine lv_iload hx hb dX12_pour_131 (lv_at hl 5 rfl) ?_
                            refine lv_iconst (v := 1) hx hb dX12_pour_133 (by decide) ?_
                            refine lv_isub hx hb dX12_pour_134 ?_
                            refine lv_iload hx hb dX12_pour_135 (lv_at hl 6 rfl) ?_
                            refine lv_isub hx hb dX12_pour_137 ?_
                            refine lv_goto (tgt := 143) hx hb dX12_pour_138 (by decide) ?_
                            exact hj143 _ _ _ _ _ _ hf hP hD hS (lv_sub hl [0, 1, 2, 3, 4, 5, 6] rfl)
                      · refine fun H locs ls hP hD hS hl => ?_
                        refine lv_aload_n hx hb dX12_pour_180 rfl (lv_at hl 0 rfl) ?_
                        refine lv_iconst (v := 0) hx hb dX12_pour_181 (by decide) ?_
                        obtain ⟨u182, hu182, hf⟩ := bd hf
                        refine callVI (wn := (wd_X12_pour E a_o a_o_at a_o_names a_o_sort a_o_trayMany a_o_trays a_o_tape a_o_text a_o_opened a_o_farBy a_o_attendsBy a_o_coveredBy a_o_cameBy a_o_cameThen a_o_fallsBy a_o_loops a_o_ran a_o_told1 u182.2 o_top o_bottom o_taped o_size o_token o_from o_end o_value o_faultKind o_faultPlace o_faults o_seen o_toldParts o_depth o_counted o_becameThen o_firstCorner o_drawn o_ranSteps o_isTold o_marks o_sort o_trayMany e118)) (n1 := 4) (ct_X12_is l E a_o a_o_at a_o_names a_o_sort a_o_trayMany a_o_trays a_o_tape a_o_text a_o_opened a_o_farBy a_o_attendsBy a_o_coveredBy a_o_cameBy a_o_cameThen a_o_fallsBy a_o_loops a_o_ran a_o_told1 o_status o_top o_bottom o_taped o_size o_token o_from o_end o_value o_faultKind o_faultPlace o_faults o_seen o_toldParts o_depth o_counted o_becameThen o_firstCorner o_drawn o_ranSteps o_isTold o_marks (0 : Int32) u182 hu182) [0] cal_X12_is cav_X12_is lk_X12_92 cx hP hD hS hl dX12_pour_182 rfl rfl rfl rfl (Nat.le_of_ble_eq_true rfl) ⟨Nat.le_of_ble_eq_true rfl, Nat.le_of_ble_eq_true rfl⟩ rfl (by decide +kernel) rfl [some 0, none, none, none] rfl (by decide +kernel) rfl (fun H locs hP hD hS => ?_)
                        obtain ⟨hz, hf⟩ := ck hf
                        obtain rfl := Option.some.inj hf
                        subst hq
                        exact retZ cx hz hP hD hS dX12_pour_185
                    · have hf := it_f hc hf
                      exact hj109 _ _ _ _ _ hf hP hD hS (lv_sub hl [0] rfl)
                · have hf := it_f hc hf
                  refine lv_aload_n hx hb dX12_pour_75 rfl (lv_at hl 0 rfl) ?_
                  refine lv_bipush (v := 8) hx hb dX12_pour_76 (by decide) ?_
                  obtain ⟨u78, hu78, hf⟩ := bd hf
                  refine callVI (wn := (wd_X12_pour E a_o a_o_at a_o_names a_o_sort a_o_trayMany a_o_trays a_o_tape a_o_text a_o_opened a_o_farBy a_o_attendsBy a_o_coveredBy a_o_cameBy a_o_cameThen a_o_fallsBy a_o_loops a_o_ran a_o_told1 u78.2 o_top o_bottom o_taped o_size o_token o_from o_end o_value o_faultKind o_faultPlace o_faults o_seen o_toldParts o_depth o_counted o_becameThen o_firstCorner o_drawn o_ranSteps o_isTold o_marks o_sort o_trayMany o_trays)) (n1 := 4) (ct_X12_is l E a_o a_o_at a_o_names a_o_sort a_o_trayMany a_o_trays a_o_tape a_o_text a_o_opened a_o_farBy a_o_attendsBy a_o_coveredBy a_o_cameBy a_o_cameThen a_o_fallsBy a_o_loops a_o_ran a_o_told1 o_status o_top o_bottom o_taped o_size o_token o_from o_end o_value o_faultKind o_faultPlace o_faults o_seen o_toldParts o_depth o_counted o_becameThen o_firstCorner o_drawn o_ranSteps o_isTold o_marks (8 : Int32) u78 hu78) [0] cal_X12_is cav_X12_is lk_X12_92 cx hP hD hS hl dX12_pour_78 rfl rfl rfl rfl (Nat.le_of_ble_eq_true rfl) ⟨Nat.le_of_ble_eq_true rfl, Nat.le_of_ble_eq_true rfl⟩ rfl (by decide +kernel) rfl [some 0, none, none, none] rfl (by decide +kernel) rfl (fun H locs hP hD hS => ?_)
                  obtain ⟨hz, hf⟩ := ck hf
                  obtain rfl := Option.some.inj hf
                  subst hq
                  exact retZ cx hz hP hD hS dX12_pour_81
              · have hf := it_t hc hf
                exact hj54 _ _ _ _ _ hf hP hD hS (lv_sub hl [0] rfl)
          · have hf := it_f hc hf
            exact hj28 _ _ _ _ _ hf hP hD hS (lv_sub hl [0] rfl)
