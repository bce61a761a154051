def X12_lives_b12 (F : Nat) (o_drawn : Int32) (o_ranSteps : Int32) (o_at : Nat → Int32) (o_farBy : Nat → Int32) (o_loops : Nat → Int32) (st12 : Int32 × (Nat → Int32)) : Option ((Int32 × (Nat → Int32)) ⊕ (((Nat → Int32)))) :=
  if (5 : Int32) ≤ st12.1 then
  some (.inr st12.2)
  else
  if ix st12.1 5 then
  some (.inl ((st12.1 + 1), (jput st12.2 st12.1 0)))
  else none
def X12_lives_j177 (F : Nat) (o_drawn : Int32) (o_ranSteps : Int32) (o_at : Nat → Int32) (o_farBy : Nat → Int32) (o_loops : Nat → Int32) (o_ran : Nat → Int32) (k0 : Int32) : Option ((Int32 × Int32 × Int32 × (Nat → Int32) × (Nat → Int32) × (Nat → Int32) × (Nat → Int32)) ⊕ ((Int32 × Int32 × (Nat → Int32) × (Nat → Int32) × (Nat → Int32) × (Nat → Int32)) ⊕ (Int32 × Int32 × (Nat → Int32) × (Nat → Int32) × (Nat → Int32) × (Nat → Int32)) ⊕ (Int32 × Int32 × (Nat → Int32) × (Nat → Int32) × (Nat → Int32) × (Nat → Int32)))) :=
  (X12_behindEnds F o_at o_loops k0).bind fun u177 =>
  some (.inl (u177.1, o_drawn, o_ranSteps, o_at, o_farBy, u177.2, o_ran))
def X12_lives_j174 (F : Nat) (o_drawn : Int32) (o_ranSteps : Int32) (o_at : Nat → Int32) (o_farBy : Nat → Int32) (o_loops : Nat → Int32) (o_ran : Nat → Int32) (v2 : Int32) : Option ((Int32 × Int32 × Int32 × (Nat → Int32) × (Nat → Int32) × (Nat → Int32) × (Nat → Int32)) ⊕ ((Int32 × Int32 × (Nat → Int32) × (Nat → Int32) × (Nat → Int32) × (Nat → Int32)) ⊕ (Int32 × Int32 × (Nat → Int32) × (Nat → Int32) × (Nat → Int32) × (Nat → Int32)) ⊕ (Int32 × Int32 × (Nat → Int32) × (Nat → Int32) × (Nat → Int32) × (Nat → Int32)))) :=
  X12_lives_j177 F o_drawn o_ranSteps o_at o_farBy o_loops o_ran (v2 + 1)
def X12_lives_j140 (F : Nat) (o_drawn : Int32) (o_ranSteps : Int32) (o_at : Nat → Int32) (o_farBy : Nat → Int32) (o_loops : Nat → Int32) (o_ran : Nat → Int32) (v2 : Int32) (v3 : Int32) : Option ((Int32 × Int32 × Int32 × (Nat → Int32) × (Nat → Int32) × (Nat → Int32) × (Nat → Int32)) ⊕ ((Int32 × Int32 × (Nat → Int32) × (Nat → Int32) × (Nat → Int32) × (Nat → Int32)) ⊕ (Int32 × Int32 × (Nat → Int32) × (Nat → Int32) × (Nat → Int32) × (Nat → Int32)) ⊕ (Int32 × Int32 × (Nat → Int32) × (Nat → Int32) × (Nat → Int32) × (Nat → Int32)))) :=
  if ix v3 3097 then
  if (jat o_at v3) < 1700 then
  X12_lives_j174 F o_drawn o_ranSteps o_at o_farBy o_loops o_ran v2
  else
  (X12_holds o_at v3).bind fun u155 =>
  if u155 = 0 then
  if ix (v3 + 4) 3097 then
  X12_lives_j177 F o_drawn o_ranSteps o_at o_farBy o_loops o_ran ((jat o_at (v3 + 4)) + 1)
  else none
  else
  X12_lives_j174 F o_drawn o_ranSteps o_at o_farBy o_loops o_ran v2
  else none
def X12_lives_j111 (F : Nat) (o_drawn : Int32) (o_ranSteps : Int32) (o_at : Nat → Int32) (o_farBy : Nat → Int32) (o_loops : Nat → Int32) (o_ran : Nat → Int32) (v2 : Int32) (v3 : Int32) (k0 : Int32) (k1 : Int32) (k2 : Int32) : Option ((Int32 × Int32 × Int32 × (Nat → Int32) × (Nat → Int32) × (Nat → Int32) × (Nat → Int32)) ⊕ ((Int32 × Int32 × (Nat → Int32) × (Nat → Int32) × (Nat → Int32) × (Nat → Int32)) ⊕ (Int32 × Int32 × (Nat → Int32) × (Nat → Int32) × (Nat → Int32) × (Nat → Int32)) ⊕ (Int32 × Int32 × (Nat → Int32) × (Nat → Int32) × (Nat → Int32) × (Nat → Int32)))) :=
  if ix k2 5 then
  if ix v3 3097 then
  if (jat o_at v3) = 18 then
  if ix (v3 + 1) 3097 then
  if ix v2 80 then
  X12_lives_j140 F o_drawn o_ranSteps o_at o_farBy (jput o_loops v2 ((jat o_at (v3 + 1)) - 1)) (jput o_ran k2 (k1 + k0)) v2 v3
  else none
  else none
  else
  X12_lives_j140 F o_drawn o_ranSteps o_at o_farBy o_loops (jput o_ran k2 (k1 + k0)) v2 v3
  else none
  else none
def X12_lives_b32 (F : Nat) (st32 : Int32 × Int32 × Int32 × (Nat → Int32) × (Nat → Int32) × (Nat → Int32) × (Nat → Int32)) : Option ((Int32 × Int32 × Int32 × (Nat → Int32) × (Nat → Int32) × (Nat → Int32) × (Nat → Int32)) ⊕ ((Int32 × Int32 × (Nat → Int32) × (Nat → Int32) × (Nat → Int32) × (Nat → Int32)) ⊕ (Int32 × Int32 × (Nat → Int32) × (Nat → Int32) × (Nat → Int32) × (Nat → Int32)) ⊕ (Int32 × Int32 × (Nat → Int32) × (Nat → Int32) × (Nat → Int32) × (Nat → Int32)))) :=
  if ix 9 3097 then
  if (jat st32.2.2.2.1 9) ≤ st32.1 then
  some (.inr (.inr (.inr ((st32.2.1, st32.2.2.1, st32.2.2.2.1, st32.2.2.2.2.1, st32.2.2.2.2.2.1, st32.2.2.2.2.2.2)))))
  else
  if st32.2.2.1 = 300 then
  some (.inr (.inl ((st32.2.1, st32.2.2.1, st32.2.2.2.1, st32.2.2.2.2.1, st32.2.2.2.2.2.1, st32.2.2.2.2.2.2))))
  else
  if ix (127 + (6 * st32.1)) 3097 then
  if (jat st32.2.2.2.1 (127 + (6 * st32.1))) = 20 then
  some (.inr (.inr (.inl ((st32.2.1, (st32.2.2.1 + 1), st32.2.2.2.1, st32.2.2.2.2.1, st32.2.2.2.2.2.1, st32.2.2.2.2.2.2)))))
  else
  if ix 0 5 then
  (X12_does F st32.2.1 st32.2.2.2.1 st32.2.2.2.2.1 st32.2.2.2.2.2.2 (127 + (6 * st32.1))).bind fun u100 =>
  if u100.1 = 0 then
  X12_lives_j111 F u100.2.1 (st32.2.2.1 + 1) u100.2.2.1 u100.2.2.2.1 st32.2.2.2.2.2.1 u100.2.2.2.2 st32.1 (127 + (6 * st32.1)) 1 (jat st32.2.2.2.2.2.2 0) 0
  else
  X12_lives_j111 F u100.2.1 (st32.2.2.1 + 1) u100.2.2.1 u100.2.2.2.1 st32.2.2.2.2.2.1 u100.2.2.2.2 st32.1 (127 + (6 * st32.1)) 0 (jat st32.2.2.2.2.2.2 0) 0
  else none
  else none
  else none
def X12_lives (F : Nat) (o_drawn : Int32) (o_ranSteps : Int32) (o_at : Nat → Int32) (o_farBy : Nat → Int32) (o_loops : Nat → Int32) (o_ran : Nat → Int32) (v1 : Int32) : Option (Int32 × Int32 × (Nat → Int32) × (Nat → Int32) × (Nat → Int32) × (Nat → Int32)) :=
  (iter (X12_lives_b12 F v1 0 o_at o_farBy o_loops) F (0, o_ran)).bind (fun (e12 : (Nat → Int32)) =>
    (iter (X12_lives_b32 F) F (0, v1, 0, o_at, o_farBy, o_loops, e12)).bind (Sum.elim (fun (e32 : Int32 × Int32 × (Nat → Int32) × (Nat → Int32) × (Nat → Int32) × (Nat → Int32)) =>
    if ix 4 5 then
  some (e32.1, e32.2.1, e32.2.2.1, e32.2.2.2.1, e32.2.2.2.2.1, (jput e32.2.2.2.2.2 4 1))
  else none) (Sum.elim (fun (e32 : Int32 × Int32 × (Nat → Int32) × (Nat → Int32) × (Nat → Int32) × (Nat → Int32)) =>
    some (e32.1, e32.2.1, e32.2.2.1, e32.2.2.2.1, e32.2.2.2.2.1, e32.2.2.2.2.2)) (fun (e32 : Int32 × Int32 × (Nat → Int32) × (Nat → Int32) × (Nat → Int32) × (Nat → Int32)) =>
    some (e32.1, e32.2.1, e32.2.2.1, e32.2.2.2.1, e32.2.2.2.2.1, e32.2.2.2.2.2)))))
abbrev wd_X12_lives (E : vE) (a_o a_o_at a_o_names a_o_sort a_o_trayMany a_o_trays a_o_tape a_o_text a_o_opened a_o_farBy a_o_attendsBy a_o_coveredBy a_o_cameBy a_o_cameThen a_o_fallsBy a_o_loops a_o_ran a_o_told1 : Nat) (o_status : Int32) (o_top : Int64) (o_bottom : Int64) (o_taped : Int32) (o_size : Int32) (o_token : Int32) (o_from : Int32) (o_end : Int32) (o_value : Int32) (o_faultKind : Int32) (o_faultPlace : Int32) (o_faults : Int32) (o_seen : Int32) (o_toldParts : Int32) (o_depth : Int32) (o_counted : Int32) (o_becameThen : Int32) (o_firstCorner : Int32) (o_drawn : Int32) (o_ranSteps : Int32) (o_isTold : Int32) (o_marks : Int32) (o_at : Nat → Int32) (o_farBy : Nat → Int32) (o_loops : Nat → Int32) (o_ran : Nat → Int32) : va_W := [(a_o, .inr (12, [.ref a_o_at, .ref a_o_names, .int o_status, .long o_top, .long o_bottom, .ref a_o_sort, .ref a_o_trayMany, .ref a_o_trays, .ref a_o_tape, .ref a_o_text, .int o_taped, .int o_size, .int o_token, .int o_from, .int o_end, .int o_value, .int o_faultKind, .int o_faultPlace, .int o_faults, .int o_seen, .int o_toldParts, .ref a_o_opened, .int o_depth, .int o_counted, .ref a_o_farBy, .int o_becameThen, .ref a_o_attendsBy, .ref a_o_coveredBy, .ref a_o_cameBy, .ref a_o_cameThen, .int o_firstCorner, .ref a_o_fallsBy, .int o_drawn, .int o_ranSteps, .ref a_o_loops, .ref a_o_ran, .ref a_o_told1, .int o_isTold, .int o_marks])), (a_o_at, .inl (E.2.1, 3097, .inl o_at)), (a_o_farBy, .inl (E.2.1, 64, .inl o_farBy)), (a_o_loops, .inl (E.2.1, 80, .inl o_loops)), (a_o_ran, .inl (E.2.1, 5, .inl o_ran))]
set_option maxHeartbeats 4000000 in
set_option maxRecDepth 100000 in
theorem ct_X12_lives (l : Launch) (E : vE) (F : Nat) (a_o a_o_at a_o_names a_o_sort a_o_trayMany a_o_trays a_o_tape a_o_text a_o_opened a_o_farBy a_o_attendsBy a_o_coveredBy a_o_cameBy a_o_cameThen a_o_fallsBy a_o_loops a_o_ran a_o_told1 : Nat) (o_status : Int32) (o_top : Int64) (o_bottom : Int64) (o_taped : Int32) (o_size : Int32) (o_token : Int32) (o_from : Int32) (o_end : Int32) (o_value : Int32) (o_faultKind : Int32) (o_faultPlace : Int32) (o_faults : Int32) (o_seen : Int32) (o_toldParts : Int32) (o_depth : Int32) (o_counted : Int32) (o_becameThen : Int32) (o_firstCorner : Int32) (o_drawn : Int32) (o_ranSteps : Int32) (o_isTold : Int32) (o_marks : Int32) (o_at : Nat → Int32) (o_farBy : Nat → Int32) (o_loops : Nat → Int32) (o_ran : Nat → Int32) (v1 : Int32) (u : Int32 × Int32 × (Nat → Int32) × (Nat → Int32) × (Nat → Int32) × (Nat → Int32)) (hf : X12_lives F o_drawn o_ranSteps o_at o_farBy o_loops o_ran v1 = some u) :
    CtV l yX12_lives cX12_lives 4 none 10 E [.ref a_o, .int v1] (wd_X12_lives E a_o a_o_at a_o_names a_o_sort a_o_trayMany a_o_trays a_o_tape a_o_text a_o_opened a_o_farBy a_o_attendsBy a_o_coveredBy a_o_cameBy a_o_cameThen a_o_fallsBy a_o_loops a_o_ran a_o_told1 o_status o_top o_bottom o_taped o_size o_token o_from o_end o_value o_faultKind o_faultPlace o_faults o_seen o_toldParts o_depth o_counted o_becameThen o_firstCorner o_drawn o_ranSteps o_isTold o_marks o_at o_farBy o_loops o_ran) (wd_X12_lives E a_o a_o_at a_o_names a_o_sort a_o_trayMany a_o_trays a_o_tape a_o_text a_o_opened a_o_farBy a_o_attendsBy a_o_coveredBy a_o_cameBy a_o_cameThen a_o_fallsBy a_o_loops a_o_ran a_o_told1 o_status o_top o_bottom o_taped o_size o_token o_from o_end o_value o_faultKind o_faultPlace o_faults o_seen o_toldParts o_depth o_counted o_becameThen o_firstCorner u.1 u.2.1 o_isTold o_marks u.2.2.1 u.2.2.2.1 u.2.2.2.2.1 u.2.2.2.2.2) := by
  refine ctV (by decide) (Nat.le_of_ble_eq_true rfl) ?_
  intro p e s m below meth cd A ls aa QQ hq cx hP hD hS hl
  obtain ⟨⟨hx, hb, hml, hown, hts⟩, hr, hlocks, hK, hA, hX⟩ := id cx
  have hl : lv_has ls 4 [(0, .ref a_o), (1, .int v1)] := hl
  unfold X12_lives at hf
  refine lv_aload_n hx hb dX12_lives_0 rfl (lv_at hl 0 rfl) ?_
  refine lv_iload_n hx hb dX12_lives_1 rfl (lv_at hl 1 rfl) ?_
  refine va_put (D := E.1) (ci := 12) (v := .int v1) (ty := .int) (C := RX12) (T := TX12) (N := 39) hx hb hts inX12 tyX12 tyX12_ok nmX12 hown hK hP hD hS 0 rfl rfl 32 (by decide) (hts _ fl_X12_468) (fun _ h9 => h9) rfl (by decide +kernel) rfl rfl (Nat.le_of_ble_eq_true rfl) dX12_lives_2 (fun H locs hP hD hS => ?_)
  have hP : va_P E.1 vwCl (wd_X12_lives E a_o a_o_at a_o_names a_o_sort a_o_trayMany a_o_trays a_o_tape a_o_text a_o_opened a_o_farBy a_o_attendsBy a_o_coveredBy a_o_cameBy a_o_cameThen a_o_fallsBy a_o_loops a_o_ran a_o_told1 o_status o_top o_bottom o_taped o_size o_token o_from o_end o_value o_faultKind o_faultPlace o_faults o_seen o_toldParts o_depth o_counted o_becameThen o_firstCorner v1 o_ranSteps o_isTold o_marks o_at o_farBy o_loops o_ran) H := hP
  have hD : va_D A (wd_X12_lives E a_o a_o_at a_o_names a_o_sort a_o_trayMany a_o_trays a_o_tape a_o_text a_o_opened a_o_farBy a_o_attendsBy a_o_coveredBy a_o_cameBy a_o_cameThen a_o_fallsBy a_o_loops a_o_ran a_o_told1 o_status o_top o_bottom o_taped o_size o_token o_from o_end o_value o_faultKind o_faultPlace o_faults o_seen o_toldParts o_depth o_counted o_becameThen o_firstCorner v1 o_ranSteps o_isTold o_marks o_at o_farBy o_loops o_ran) := hD
  refine lv_aload_n hx hb dX12_lives_5 rfl (lv_at hl 0 rfl) ?_
  refine lv_iconst (v := 0) hx hb dX12_lives_6 (by decide) ?_
  refine va_put (D := E.1) (ci := 12) (v := .int 0) (ty := .int) (C := RX12) (T := TX12) (N := 39) hx hb hts inX12 tyX12 tyX12_ok nmX12 hown hK hP hD hS 0 rfl rfl 33 (by decide) (hts _ fl_X12_487) (fun _ h9 => h9) rfl (by decide +kernel) rfl rfl (Nat.le_of_ble_eq_true rfl) dX12_lives_7 (fun H locs hP hD hS => ?_)
  have hP : va_P E.1 vwCl (wd_X12_lives E a_o a_o_at a_o_names a_o_sort a_o_trayMany a_o_trays a_o_tape a_o_text a_o_opened a_o_farBy a_o_attendsBy a_o_coveredBy a_o_cameBy a_o_cameThen a_o_fallsBy a_o_loops a_o_ran a_o_told1 o_status o_top o_bottom o_taped o_size o_token o_from o_end o_value o_faultKind o_faultPlace o_faults o_seen o_toldParts o_depth o_counted o_becameThen o_firstCorner v1 0 o_isTold o_marks o_at o_farBy o_loops o_ran) H := hP
  have hD : va_D A (wd_X12_lives E a_o a_o_at a_o_names a_o_sort a_o_trayMany a_o_trays a_o_tape a_o_text a_o_opened a_o_farBy a_o_attendsBy a_o_coveredBy a_o_cameBy a_o_cameThen a_o_fallsBy a_o_loops a_o_ran a_o_told1 o_status o_top o_bottom o_taped o_size o_token o_from o_end o_value o_faultKind o_faultPlace o_faults o_seen o_toldParts o_depth o_counted o_becameThen o_firstCorner v1 0 o_isTold o_marks o_at o_farBy o_loops o_ran) := hD
  refine lv_iconst (v := 0) hx hb dX12_lives_10 (by decide) ?_
  refine lv_istore_n (lv' := [(2, .int 0), (0, .ref a_o), (1, .int v1)]) hx hb dX12_lives_11 rfl hl (by decide) rfl (fun ls hl => ?_)
  obtain ⟨e12, hit12, hf⟩ := bd hf
  refine iter_W (b := X12_lives_b12 F v1 0 o_at o_farBy o_loops) (P := fun st12 => ∀ (H : Heap) (locs : List Loc) (ls : Array Slot), va_P E.1 vwCl (wd_X12_lives E a_o a_o_at a_o_names a_o_sort a_o_trayMany a_o_trays a_o_tape a_o_text a_o_opened a_o_farBy a_o_attendsBy a_o_coveredBy a_o_cameBy a_o_cameThen a_o_fallsBy a_o_loops a_o_ran a_o_told1 o_status o_top o_bottom o_taped o_size o_token o_from o_end o_value o_faultKind o_faultPlace o_faults o_seen o_toldParts o_depth o_counted o_becameThen o_firstCorner v1 0 o_isTold o_marks o_at o_farBy o_loops st12.2) H → va_D A (wd_X12_lives E a_o a_o_at a_o_names a_o_sort a_o_trayMany a_o_trays a_o_tape a_o_text a_o_opened a_o_farBy a_o_attendsBy a_o_coveredBy a_o_cameBy a_o_cameThen a_o_fallsBy a_o_loops a_o_ran a_o_told1 o_status o_top o_bottom o_taped o_size o_token o_from o_end o_value o_faultKind o_faultPlace o_faults o_seen o_toldParts o_depth o_counted o_becameThen o_firstCorner v1 0 o_isTold o_marks o_at o_farBy o_loops st12.2) → va_S A s.heap H locs → lv_has ls 4 [(0, .ref a_o), (2, .int st12.1)] → W p l e (rmd 10) s m aa below meth cd H locs 0 0 QQ (F0 m 12 ls [])) (G := (fun (e12 : (Nat → Int32)) => ∀ (H : Heap) (locs : List Loc) (ls : Array Slot), va_P E.1 vwCl (wd_X12_lives E a_o a_o_at a_o_names a_o_sort a_o_trayMany a_o_trays a_o_tape a_o_text a_o_opened a_o_farBy a_o_attendsBy a_o_coveredBy a_o_cameBy a_o_cameThen a_o_fallsBy a_o_loops a_o_ran a_o_told1 o_status o_top o_bottom o_taped o_size o_token o_from o_end o_value o_faultKind o_faultPlace o_faults o_seen o_toldParts o_depth o_counted o_becameThen o_firstCorner v1 0 o_isTold o_marks o_at o_farBy o_loops e12) H → va_D A (wd_X12_lives E a_o a_o_at a_o_names a_o_sort a_o_trayMany a_o_trays a_o_tape a_o_text a_o_opened a_o_farBy a_o_attendsBy a_o_coveredBy a_o_cameBy a_o_cameThen a_o_fallsBy a_o_loops a_o_ran a_o_told1 o_status o_top o_bottom o_taped o_size o_token o_from o_end o_value o_faultKind o_faultPlace o_faults o_seen o_toldParts o_depth o_counted o_becameThen o_firstCorner v1 0 o_isTold o_marks o_at o_farBy o_loops e12) → va_S A s.heap H locs → lv_has ls 4 [(0, .ref a_o)] → W p l e (rmd 10) s m aa below meth cd H locs 0 0 QQ (F0 m 30 ls []))) ?_ F (0, o_ran) e12 hit12 ?_ _ _ _ hP hD hS (lv_sub hl [1, 0] rfl)
  · intro st12 r12 hf hk12 he12 H locs ls hP hD hS hl
    unfold X12_lives_b12 at hf
    refine lv_iload_n hx hb dX12_lives_12 rfl (lv_at hl 1 rfl) ?_
    refine lv_iconst (v := 5) hx hb dX12_lives_13 (by decide) ?_
    refine lv_icmp_ge (tgt := 30) hx hb dX12_lives_14 (by decide) (fun hc => ?_) (fun hc => ?_)
    · have hf := it_t hc hf
      exact he12 _ (Option.some.inj hf).symm _ _ _ hP hD hS (lv_sub hl [0] rfl)
    · have hf := it_f hc hf
      refine lv_aload_n hx hb dX12_lives_17 rfl (lv_at hl 0 rfl) ?_
      refine va_get (D := E.1) (ci := 12) (v := .ref a_o_ran) (C := RX12) (T := TX12) (N := 39) hx hb hts inX12 hown hK hP 0 rfl rfl 35 (by decide) (hts _ fl_X12_69) (fun _ h9 => h9) rfl dX12_lives_18 ?_
      refine lv_iload_n hx hb dX12_lives_21 rfl (lv_at hl 1 rfl) ?_
      refine lv_iconst (v := 0) hx hb dX12_lives_22 (by decide) ?_
      obtain ⟨hi, hf⟩ := ck hf
      refine r_iast 4 cx hP hD hS rfl hi dX12_lives_23 (fun H locs hP hD hS => ?_)
      have hP : va_P E.1 vwCl (wd_X12_lives E a_o a_o_at a_o_names a_o_sort a_o_trayMany a_o_trays a_o_tape a_o_text a_o_opened a_o_farBy a_o_attendsBy a_o_coveredBy a_o_cameBy a_o_cameThen a_o_fallsBy a_o_loops a_o_ran a_o_told1 o_status o_top o_bottom o_taped o_size o_token o_from o_end o_value o_faultKind o_faultPlace o_faults o_seen o_toldParts o_depth o_counted o_becameThen o_firstCorner v1 0 o_isTold o_marks o_at o_farBy o_loops (jput st12.2 st12.1 0)) H := hP
      have hD : va_D A (wd_X12_lives E a_o a_o_at a_o_names a_o_sort a_o_trayMany a_o_trays a_o_tape a_o_text a_o_opened a_o_farBy a_o_attendsBy a_o_coveredBy a_o_cameBy a_o_cameThen a_o_fallsBy a_o_loops a_o_ran a_o_told1 o_status o_top o_bottom o_taped o_size o_token o_from o_end o_value o_faultKind o_faultPlace o_faults o_seen o_toldParts o_depth o_counted o_becameThen o_firstCorner v1 0 o_isTold o_marks o_at o_farBy o_loops (jput st12.2 st12.1 0)) := hD
      refine lv_iinc (v := (st12.1 + 1)) (lv' := [(2, .int (st12.1 + 1)), (0, .ref a_o)]) hx hb dX12_lives_24 hl (k := 1) rfl rfl (by decide) rfl (fun ls hl => ?_)
      refine lv_goto (tgt := 12) hx hb dX12_lives_27 (by decide) ?_
      exact hk12 _ (Option.some.inj hf).symm _ _ _ hP hD hS (lv_sub hl [1, 0] rfl)
  · refine fun H locs ls hP hD hS hl => ?_
    refine lv_iconst (v := 0) hx hb dX12_lives_30 (by decide) ?_
    refine lv_istore_n (lv' := [(2, .int 0), (0, .ref a_o)]) hx hb dX12_lives_31 rfl hl (by decide) rfl (fun ls hl => ?_)
    obtain ⟨e32, hit32, hf⟩ := bd hf
    refine iter_W (b := X12_lives_b32 F) (P := fun st32 => ∀ (H : Heap) (locs : List Loc) (ls : Array Slot), va_P E.1 vwCl (wd_X12_lives E a_o a_o_at a_o_names a_o_sort a_o_trayMany a_o_trays a_o_tape a_o_text a_o_opened a_o_farBy a_o_attendsBy a_o_coveredBy a_o_cameBy a_o_cameThen a_o_fallsBy a_o_loops a_o_ran a_o_told1 o_status o_top o_bottom o_taped o_size o_token o_from o_end o_value o_faultKind o_faultPlace o_faults o_seen o_toldParts o_depth o_counted o_becameThen o_firstCorner st32.2.1 st32.2.2.1 o_isTold o_marks st32.2.2.2.1 st32.2.2.2.2.1 st32.2.2.2.2.2.1 st32.2.2.2.2.2.2) H → va_D A (wd_X12_lives E a_o a_o_at a_o_names a_o_sort a_o_trayMany a_o_trays a_o_tape a_o_text a_o_opened a_o_farBy a_o_attendsBy a_o_coveredBy a_o_cameBy a_o_cameThen a_o_fallsBy a_o_loops a_o_ran a_o_told1 o_status o_top o_bottom o_taped o_size o_token o_from o_end o_value o_faultKind o_faultPlace o_faults o_seen o_toldParts o_depth o_counted o_becameThen o_firstCorner st32.2.1 st32.2.2.1 o_isTold o_marks st32.2.2.2.1 st32.2.2.2.2.1 st32.2.2.2.2.2.1 st32.2.2.2.2.2.2) → va_S A s.heap H locs → lv_has ls 4 [(0, .ref a_o), (2, .int st32.1)] → W p l e (rmd 10) s m aa below meth cd H locs 0 0 QQ (F0 m 32 ls [])) (G := (Sum.elim (fun (e32 : Int32 × Int32 × (Nat → Int32) × (Nat → Int32) × (Nat → Int32) × (Nat → Int32)) => ∀ (H : Heap) (locs : List Loc) (ls : Array Slot), va_P E.1 vwCl (wd_X12_lives E a_o a_o_at a_o_names a_o_sort a_o_trayMany a_o_trays a_o_tape a_o_text a_o_opened a_o_farBy a_o_attendsBy a_o_coveredBy a_o_cameBy a_o_cameThen a_o_fallsBy a_o_loops a_o_ran a_o_told1 o_status o_top o_bottom o_taped o_size o_token o_from o_end o_value o_faultKind o_faultPlace o_faults o_seen o_toldParts o_depth o_counted o_becameThen o_firstCorner e32.1 e32.2.1 o_isTold o_marks e32.2.2.1 e32.2.2.2.1 e32.2.2.2.2.1 e32.2.2.2.2.2) H → va_D A (wd_X12_lives E a_o a_o_at a_o_names a_o_sort a_o_trayMany a_o_trays a_o_tape a_o_text a_o_opened a_o_farBy a_o_attendsBy a_o_coveredBy a_o_cameBy a_o_cameThen a_o_fallsBy a_o_loops a_o_ran a_o_told1 o_status o_top o_bottom o_taped o_size o_token o_from o_end o_value o_faultKind o_faultPlace o_faults o_seen o_toldParts o_depth o_counted o_becameThen o_firstCorner e32.1 e32.2.1 o_isTold o_marks e32.2.2.1 e32.2.2.2.1 e32.2.2.2.2.1 e32.2.2.2.2.2) → va_S A s.heap H locs → lv_has ls 4 [(0, .ref a_o)] → W p l e (rmd 10) s m aa below meth cd H locs 0 0 QQ (F0 m 53 ls [])) (Sum.elim (fun (e32 : Int32 × Int32 × (Nat → Int32) × (Nat → Int32) × (Nat → Int32) × (Nat → Int32)) => ∀ (H : Heap) (locs : List Loc) (ls : Array Slot), va_P E.1 vwCl (wd_X12_lives E a_o a_o_at a_o_names a_o_sort a_o_trayMany a_o_trays a_o_tape a_o_text a_o_opened a_o_farBy a_o_attendsBy a_o_coveredBy a_o_cameBy a_o_cameThen a_o_fallsBy a_o_loops a_o_ran a_o_told1 o_status o_top o_bottom o_taped o_size o_token o_from o_end o_value o_faultKind o_faultPlace o_faults o_seen o_toldParts o_depth o_counted o_becameThen o_firstCorner e32.1 e32.2.1 o_isTold o_marks e32.2.2.1 e32.2.2.2.1 e32.2.2.2.2.1 e32.2.2.2.2.2) H → va_D A (wd_X12_lives E a_o a_o_at a_o_names a_o_sort a_o_trayMany a_o_trays a_o_tape a_o_text a_o_opened a_o_farBy a_o_attendsBy a_o_coveredBy a_o_cameBy a_o_cameThen a_o_fallsBy a_o_loops a_o_ran a_o_told1 o_status o_top o_bottom o_taped o_size o_token o_from o_end o_value o_faultKind o_faultPlace o_faults o_seen o_toldParts o_depth o_counted o_becameThen o_firstCorner e32.1 e32.2.1 o_isTold o_marks e32.2.2.1 e32.2.2.2.1 e32.2.2.2.2.1 e32.2.2.2.2.2) → va_S A s.heap H locs → lv_has ls 4 [] → W p l e (rmd 10) s m aa below meth cd H locs 0 0 QQ (F0 m 90 ls [])) (fun (e32 : Int32 × Int32 × (Nat → Int32) × (Nat → Int32) × (Nat → Int32) × (Nat → Int32)) => ∀ (H : Heap) (locs : List Loc) (ls : Array Slot), va_P E.1 vwCl (wd_X12_lives E a_o a_o_at a_o_names a_o_sort a_o_trayMany a_o_trays a_o_tape a_o_text a_o_opened a_o_farBy a_o_attendsBy a_o_coveredBy a_o_cameBy a_o_cameThen a_o_fallsBy a_o_loops a_o_ran a_o_told1 o_status o_top o_bottom o_taped o_size o_token o_from o_end o_value o_faultKind o_faultPlace o_faults o_seen o_toldParts o_depth o_counted o_becameThen o_firstCorner e32.1 e32.2.1 o_isTold o_marks e32.2.2.1 e32.2.2.2.1 e32.2.2.2.2.1 e32.2.2.2.2.2) H → va_D A (wd_X12_lives E a_o a_o_at a_o_names a_o_sort a_o_trayMany a_o_trays a_o_tape a_o_text a_o_opened a_o_farBy a_o_attendsBy a_o_coveredBy a_o_cameBy a_o_cameThen a_o_fallsBy a_o_loops a_o_ran a_o_told1 o_status o_top o_bottom o_taped o_size o_token o_from o_end o_value o_faultKind o_faultPlace o_faults o_seen o_toldParts o_depth o_counted o_becameThen o_firstCorner e32.1 e32.2.1 o_isTold o_marks e32.2.2.1 e32.2.2.2.1 e32.2.2.2.2.1 e32.2.2.2.2.2) → va_S A s.heap H locs → lv_has ls 4 [] → W p l e (rmd 10) s m aa below meth cd H locs 0 0 QQ (F0 m 184 ls []))))) ?_ F (0, v1, 0, o_at, o_farBy, o_loops, e12) e32 hit32 ?_ _ _ _ hP hD hS (lv_sub hl [1, 0] rfl)
    · intro st32 r32 hf hk32 he32 H locs ls hP hD hS hl
      have hj177 : ∀ (o_drawn_j177 : Int32) (o_ranSteps_j177 : Int32) (o_at_j177 : Nat → Int32) (o_farBy_j177 : Nat → Int32) (o_loops_j177 : Nat → Int32) (o_ran_j177 : Nat → Int32) (k0_j177 : Int32) (H : Heap) (locs : List Loc) (ls : Array Slot), X12_lives_j177 F o_drawn_j177 o_ranSteps_j177 o_at_j177 o_farBy_j177 o_loops_j177 o_ran_j177 k0_j177 = some r32 → va_P E.1 vwCl (wd_X12_lives E a_o a_o_at a_o_names a_o_sort a_o_trayMany a_o_trays a_o_tape a_o_text a_o_opened a_o_farBy a_o_attendsBy a_o_coveredBy a_o_cameBy a_o_cameThen a_o_fallsBy a_o_loops a_o_ran a_o_told1 o_status o_top o_bottom o_taped o_size o_token o_from o_end o_value o_faultKind o_faultPlace o_faults o_seen o_toldParts o_depth o_counted o_becameThen o_firstCorner o_drawn_j177 o_ranSteps_j177 o_isTold o_marks o_at_j177 o_farBy_j177 o_loops_j177 o_ran_j177) H → va_D A (wd_X12_lives E a_o a_o_at a_o_names a_o_sort a_o_trayMany a_o_trays a_o_tape a_o_text a_o_opened a_o_farBy a_o_attendsBy a_o_coveredBy a_o_cameBy a_o_cameThen a_o_fallsBy a_o_loops a_o_ran a_o_told1 o_status o_top o_bottom o_taped o_size o_token o_from o_end o_value o_faultKind o_faultPlace o_faults o_seen o_toldParts o_depth o_counted o_becameThen o_firstCorner o_drawn_j177 o_ranSteps_j177 o_isTold o_marks o_at_j177 o_farBy_j177 o_loops_j177 o_ran_j177) → va_S A s.heap H locs → lv_has ls 4 [(0, .ref a_o)] → W p l e (rmd 10) s m aa below meth cd H locs 0 0 QQ (F0 m 177 ls [.int k0_j177, .ref a_o]) := by
        intro o_drawn_j177 o_ranSteps_j177 o_at_j177 o_farBy_j177 o_loops_j177 o_ran_j177 k0_j177 H locs ls hf hP hD hS hl
        unfold X12_lives_j177 at hf
        obtain ⟨u177, hu177, hf⟩ := bd hf
        refine callVI (wn := (wd_X12_lives E a_o a_o_at a_o_names a_o_sort a_o_trayMany a_o_trays a_o_tape a_o_text a_o_opened a_o_farBy a_o_attendsBy a_o_coveredBy a_o_cameBy a_o_cameThen a_o_fallsBy a_o_loops a_o_ran a_o_told1 o_status o_top o_bottom o_taped o_size o_token o_from o_end o_value o_faultKind o_faultPlace o_faults o_seen o_toldParts o_depth o_counted o_becameThen o_firstCorner o_drawn_j177 o_ranSteps_j177 o_isTold o_marks o_at_j177 o_farBy_j177 u177.2 o_ran_j177)) (n1 := 5) (ct_X12_behindEnds l E F a_o a_o_at a_o_names a_o_sort a_o_trayMany a_o_trays a_o_tape a_o_text a_o_opened a_o_farBy a_o_attendsBy a_o_coveredBy a_o_cameBy a_o_cameThen a_o_fallsBy a_o_loops a_o_ran a_o_told1 o_status o_top o_bottom o_taped o_size o_token o_from o_end o_value o_faultKind o_faultPlace o_faults o_seen o_toldParts o_depth o_counted o_becameThen o_firstCorner o_drawn_j177 o_ranSteps_j177 o_isTold o_marks o_at_j177 o_loops_j177 k0_j177 u177 hu177) [0, 1, 3] cal_X12_behindEnds cav_X12_behindEnds lk_X12_496 cx hP hD hS hl dX12_lives_177 rfl rfl rfl rfl (Nat.le_of_ble_eq_true rfl) ⟨Nat.le_of_ble_eq_true rfl, Nat.le_of_ble_eq_true rfl⟩ rfl (by decide +kernel) rfl [some 0, some 1, none, some 2, none] rfl (by decide +kernel) rfl (fun H locs hP hD hS => ?_)
        refine lv_istore_n (lv' := [(2, .int u177.1), (0, .ref a_o)]) hx hb dX12_lives_180 rfl hl (by decide) rfl (fun ls hl => ?_)
        refine lv_goto (tgt := 32) hx hb dX12_lives_181 (by decide) ?_
        exact hk32 _ (Option.some.inj hf).symm _ _ _ hP hD hS (lv_sub hl [1, 0] rfl)
      have hj174 : ∀ (v2_j174 : Int32) (o_drawn_j174 : Int32) (o_ranSteps_j174 : Int32) (o_at_j174 : Nat → Int32) (o_farBy_j174 : Nat → Int32) (o_loops_j174 : Nat → Int32) (o_ran_j174 : Nat → Int32) (H : Heap) (locs : List Loc) (ls : Array Slot), X12_lives_j174 F o_drawn_j174 o_ranSteps_j174 o_at_j174 o_farBy_j174 o_loops_j174 o_ran_j174 v2_j174 = some r32 → va_P E.1 vwCl (wd_X12_lives E a_o a_o_at a_o_names a_o_sort a_o_trayMany a_o_trays a_o_tape a_o_text a_o_opened a_o_farBy a_o_attendsBy a_o_coveredBy a_o_cameBy a_o_cameThen a_o_fallsBy a_o_loops a_o_ran a_o_told1 o_status o_top o_bottom o_taped o_size o_token o_from o_end o_value o_faultKind o_faultPlace o_faults o_seen o_toldParts o_depth o_counted o_becameThen o_firstCorner o_drawn_j174 o_ranSteps_j174 o_isTold o_marks o_at_j174 o_farBy_j174 o_loops_j174 o_ran_j174) H → va_D A (wd_X12_lives E a_o a_o_at a_o_names a_o_sort a_o_trayMany a_o_trays a_o_tape a_o_text a_o_opened a_o_farBy a_o_attendsBy a_o_coveredBy a_o_cameBy a_o_cameThen a_o_fallsBy a_o_loops a_o_ran a_o_told1 o_status o_top o_bottom o_taped o_size o_token o_from o_end o_value o_faultKind o_faultPlace o_faults o_seen o_toldParts o_depth o_counted o_becameThen o_firstCorner o_drawn_j174 o_ranSteps_j174 o_isTold o_marks o_at_j174 o_farBy_j174 o_loops_j174 o_ran_j174) → va_S A s.heap H locs → lv_has ls 4 [(0, .ref a_o), (2, .int v2_j174)] → W p l e (rmd 10) s m aa below meth cd H locs 0 0 QQ (F0 m 174 ls [.ref a_o]) := by
        intro v2_j174 o_drawn_j174 o_ranSteps_j174 o_at_j174 o_farBy_j174 o_loops_j174 o_ran_j174 H locs ls hf hP hD hS hl
        unfold X12_lives_j174 at hf
        refine lv_iload_n hx hb dX12_lives_174 rfl (lv_at hl 1 rfl) ?_
        refine lv_iconst (v := 1) hx hb dX12_lives_175 (by decide) ?_
        refine lv_iadd hx hb dX12_lives_176 ?_
        exact hj177 _ _ _ _ _ _ _ _ _ _ hf hP hD hS (lv_sub hl [0] rfl)
      have hj140 : ∀ (v2_j140 : Int32) (v3_j140 : Int32) (o_drawn_j140 : Int32) (o_ranSteps_j140 : Int32) (o_at_j140 : Nat → Int32) (o_farBy_j140 : Nat → Int32) (o_loops_j140 : Nat → Int32) (o_ran_j140 : Nat → Int32) (H : Heap) (locs : List Loc) (ls : Array Slot), X12_lives_j140 F o_drawn_j140 o_ranSteps_j140 o_at_j140 o_farBy_j140 o_loops_j140 o_ran_j140 v2_j140 v3_j140 = some r32 → va_P E.1 vwCl (wd_X12_lives E a_o a_o_at a_o_names a_o_sort a_o_trayMany a_o_trays a_o_tape a_o_text a_o_opened a_o_farBy a_o_attendsBy a_o_coveredBy a_o_cameBy a_o_cameThen a_o_fallsBy a_o_loops a_o_ran a_o_told1 o_status o_top o_bottom o_taped o_size o_token o_from o_end o_value o_faultKind o_faultPlace o_faults o_seen o_toldParts o_depth o_counted o_becameThen o_firstCorner o_drawn_j140 o_ranSteps_j140 o_isTold o_marks o_at_j140 o_farBy_j140 o_loops_j140 o_ran_j140) H → va_D A (wd_X12_lives E a_o a_o_at a_o_names a_o_sort a_o_trayMany a_o_trays a_o_tape a_o_text a_o_opened a_o_farBy a_o_attendsBy a_o_coveredBy a_o_cameBy a_o_cameThen a_o_fallsBy a_o_loops a_o_ran a_o_told1 o_status o_top o_bottom o_taped o_size o_token o_from o_end o_value o_faultKind o_faultPlace o_faults o_seen o_toldParts o_depth o_counted o_becameThen o_firstCorner o_drawn_j140 o_ranSteps_j140 o_isTold o_marks o_at_j140 o_farBy_j140 o_loops_j140 o_ran_j140) → va_S A s.heap H locs → lv_has ls 4 [(0, .ref a_o), (2, .int v2_j140), (3, .int v3_j140)] → W p l e (rmd 10) s m aa below meth cd H locs 0 0 QQ (F0 m 140 ls []) := by
        intro v2_j140 v3_j140 o_drawn_j140 o_ranSteps_j140 o_at_j140 o_farBy_j140 o_loops_j140 o_ran_j140 H locs ls hf hP hD hS hl
        unfold X12_lives_j140 at hf
        refine lv_aload_n hx hb dX12_lives_140 rfl (lv_at hl 0 rfl) ?_
        refine lv_aload_n hx hb dX12_lives_141 rfl (lv_at hl 0 rfl) ?_
        refine va_get (D := E.1) (ci := 12) (v := .ref a_o_at) (C := RX12) (T := TX12) (N := 39) hx hb hts inX12 hown hK hP 0 rfl rfl 0 (by decide) (hts _ fl_X12_7) (fun _ h9 => h9) rfl dX12_lives_142 ?_
        refine lv_iload_n hx hb dX12_lives_145 rfl (lv_at hl 2 rfl) ?_
        obtain ⟨hi, hf⟩ := ck hf
        refine r_iald 1 cx hP rfl hi dX12_lives_146 ?_
        refine lv_sipush (v := 1700) hx hb dX12_lives_147 (by decide) ?_
        refine lv_icmp_lt (tgt := 174) hx hb dX12_lives_150 (by decide) (fun hc => ?_) (fun hc => ?_)
        · have hf := it_t hc hf
          exact hj174 _ _ _ _ _ _ _ _ _ _ hf hP hD hS (lv_sub hl [0, 1] rfl)
        · have hf := it_f hc hf
          refine lv_aload_n hx hb dX12_lives_153 rfl (lv_at hl 0 rfl) ?_
          refine lv_iload_n hx hb dX12_lives_154 rfl (lv_at hl 2 rfl) ?_
          obtain ⟨u155, hu155, hf⟩ := bd hf
          refine keepVI (ct_X12_holds l E a_o a_o_at a_o_names a_o_sort a_o_trayMany a_o_trays a_o_tape a_o_text a_o_opened a_o_farBy a_o_attendsBy a_o_coveredBy a_o_cameBy a_o_cameThen a_o_fallsBy a_o_loops a_o_ran a_o_told1 o_status o_top o_bottom o_taped o_size o_token o_from o_end o_value o_faultKind o_faultPlace o_faults o_seen o_toldParts o_depth o_counted o_becameThen o_firstCorner o_drawn_j140 o_ranSteps_j140 o_isTold o_marks o_at_j140 v3_j140 u155 hu155) [0, 1] cal_X12_holds cav_X12_holds lk_X12_493 cx hP hD hS hl dX12_lives_155 rfl rfl rfl rfl (Nat.le_of_ble_eq_true rfl) ⟨Nat.le_of_ble_eq_true rfl, Nat.le_of_ble_eq_true rfl⟩ rfl (by decide) (fun H locs hP hS => ?_)
          refine lv_if_ne (tgt := 174) hx hb dX12_lives_158 (by decide) (fun hc => ?_) (fun hc => ?_)
          · have hf := it_f hc hf
            exact hj174 _ _ _ _ _ _ _ _ _ _ hf hP hD hS (lv_sub hl [0, 1] rfl)
          · have hf := it_t hc hf
            refine lv_aload_n hx hb dX12_lives_161 rfl (lv_at hl 0 rfl) ?_
            refine va_get (D := E.1) (ci := 12) (v := .ref a_o_at) (C := RX12) (T := TX12) (N := 39) hx hb hts inX12 hown hK hP 0 rfl rfl 0 (by decide) (hts _ fl_X12_7) (fun _ h9 => h9) rfl dX12_lives_162 ?_
            refine lv_iload_n hx hb dX12_lives_165 rfl (lv_at hl 2 rfl) ?_
            refine lv_iconst (v := 4) hx hb dX12_lives_166 (by decide) ?_
            refine lv_iadd hx hb dX12_lives_167 ?_
            obtain ⟨hi, hf⟩ := ck hf
            refine r_iald 1 cx hP rfl hi dX12_lives_168 ?_
            refine lv_iconst (v := 1) hx hb dX12_lives_169 (by decide) ?_
            refine lv_iadd hx hb dX12_lives_170 ?_
            refine lv_goto (tgt := 177) hx hb dX12_lives_171 (by decide) ?_
            exact hj177 _ _ _ _ _ _ _ _ _ _ hf hP hD hS (lv_sub hl [0] rfl)
      have hj111 : ∀ (v2_j111 : Int32) (v3_j111 : Int32) (o_drawn_j111 : Int32) (o_ranSteps_j111 : Int32) (o_at_j111 : Nat → Int32) (o_farBy_j111 : Nat → Int32) (o_loops_j111 : Nat → Int32) (o_ran_j111 : Nat → Int32) (k0_j111 : Int32) (k1_j111 : Int32) (k2_j111 : Int32) (H : Heap) (locs : List Loc) (ls : Array Slot), X12_lives_j111 F o_drawn_j111 o_ranSteps_j111 o_at_j111 o_farBy_j111 o_loops_j111 o_ran_j111 v2_j111 v3_j111 k0_j111 k1_j111 k2_j111 = some r32 → va_P E.1 vwCl (wd_X12_lives E a_o a_o_at a_o_names a_o_sort a_o_trayMany a_o_trays a_o_tape a_o_text a_o_opened a_o_farBy a_o_attendsBy a_o_coveredBy a_o_cameBy a_o_cameThen a_o_fallsBy a_o_loops a_o_ran a_o_told1 o_status o_top o_bottom o_taped o_size o_token o_from o_end o_value o_faultKind o_faultPlace o_faults o_seen o_toldParts o_depth o_counted o_becameThen o_firstCorner o_drawn_j111 o_ranSteps_j111 o_isTold o_marks o_at_j111 o_farBy_j111 o_loops_j111 o_ran_j111) H → va_D A (wd_X12_lives E a_o a_o_at a_o_names a_o_sort a_o_trayMany a_o_trays a_o_tape a_o_text a_o_opened a_o_farBy a_o_attendsBy a_o_coveredBy a_o_cameBy a_o_cameThen a_o_fallsBy a_o_loops a_o_ran a_o_told1 o_status o_top o_bottom o_taped o_size o_token o_from o_end o_value o_faultKind o_faultPlace o_faults o_seen o_toldParts o_depth o_counted o_becameThen o_firstCorner o_drawn_j111 o_ranSteps_j111 o_isTold o_marks o_at_j111 o_farBy_j111 o_loops_j111 o_ran_j111) → va_S A s.heap H locs → lv_has ls 4 [(0, .ref a_o), (2, .int v2_j111), (3, .int v3_j111)] → W p l e (rmd 10) s m aa below meth cd H locs 0 0 QQ (F0 m 111 ls [.int k0_j111, .int k1_j111, .int k2_j111, .ref a_o_ran]) := by
        intro v2_j111 v3_j111 o_drawn_j111 o_ranSteps_j111 o_at_j111 o_farBy_j111 o_loops_j111 o_ran_j111 k0_j111 k1_j111 k2_j111 H locs ls hf hP hD hS hl
        unfold X12_lives_j111 at hf
        refine lv_iadd hx hb dX12_lives_111 ?_
        obtain ⟨hi, hf⟩ := ck hf
        refine r_iast 4 cx hP hD hS rfl hi dX12_lives_112 (fun H locs hP hD hS => ?_)
        have hP : va_P E.1 vwCl (wd_X12_lives E a_o a_o_at a_o_names a_o_sort a_o_trayMany a_o_trays a_o_tape a_o_text a_o_opened a_o_farBy a_o_attendsBy a_o_coveredBy a_o_cameBy a_o_cameThen a_o_fallsBy a_o_loops a_o_ran a_o_told1 o_status o_top o_bottom o_taped o_size o_token o_from o_end o_value o_faultKind o_faultPlace o_faults o_seen o_toldParts o_depth o_counted o_becameThen o_firstCorner o_drawn_j111 o_ranSteps_j111 o_isTold o_marks o_at_j111 o_farBy_j111 o_loops_j111 (jput o_ran_j111 k2_j111 (k1_j111 + k0_j111))) H := hP
        have hD : va_D A (wd_X12_lives E a_o a_o_at a_o_names a_o_sort a_o_trayMany a_o_trays a_o_tape a_o_text a_o_opened a_o_farBy a_o_attendsBy a_o_coveredBy a_o_cameBy a_o_cameThen a_o_fallsBy a_o_loops a_o_ran a_o_told1 o_status o_top o_bottom o_taped o_size o_token o_from o_end o_value o_faultKind o_faultPlace o_faults o_seen o_toldParts o_depth o_counted o_becameThen o_firstCorner o_drawn_j111 o_ranSteps_j111 o_isTold o_marks o_at_j111 o_farBy_j111 o_loops_j111 (jput o_ran_j111 k2_j111 (k1_j111 + k0_j111))) := hD
        refine lv_aload_n hx hb dX12_lives_113 rfl (lv_at hl 0 rfl) ?_
        refine va_get (D := E.1) (ci := 12) (v := .ref a_o_at) (C := RX12) (T := TX12) (N := 39) hx hb hts inX12 hown hK hP 0 rfl rfl 0 (by decide) (hts _ fl_X12_7) (fun _ h9 => h9) rfl dX12_lives_114 ?_
        refine lv_iload_n hx hb dX12_lives_117 rfl (lv_at hl 2 rfl) ?_
        obtain ⟨hi, hf⟩ := ck hf
        refine r_iald 1 cx hP rfl hi dX12_lives_118 ?_
        refine lv_bipush (v := 18) hx hb dX12_lives_119 (by decide) ?_
        refine lv_icmp_ne (tgt := 140) hx hb dX12_lives_121 (by decide) (fun hc => ?_) (fun hc => ?_)
        · have hf := it_f hc hf
          exact hj140 _ _ _ _ _ _ _ _ _ _ _ hf hP hD hS (lv_sub hl [0, 1, 2] rfl)
        · have hf := it_t hc hf
          refine lv_aload_n hx hb dX12_lives_124 rfl (lv_at hl 0 rfl) ?_
          refine va_get (D := E.1) (ci := 12) (v := .ref a_o_loops) (C := RX12) (T := TX12) (N := 39) hx hb hts inX12 hown hK hP 0 rfl rfl 34 (by decide) (hts _ fl_X12_66) (fun _ h9 => h9) rfl dX12_lives_125 ?_
          refine lv_iload_n hx hb dX12_lives_128 rfl (lv_at hl 1 rfl) ?_
          refine lv_aload_n hx hb dX12_lives_129 rfl (lv_at hl 0 rfl) ?_
          refine va_get (D := E.1) (ci := 12) (v := .ref a_o_at) (C := RX12) (T := TX12) (N := 39) hx hb hts inX12 hown hK hP 0 rfl rfl 0 (by decide) (hts _ fl_X12_7) (fun _ h9 => h9) rfl dX12_lives_130 ?_
          refine lv_iload_n hx hb dX12_lives_133 rfl (lv_at hl 2 rfl) ?_
          refine lv_iconst (v := 1) hx hb dX12_lives_134 (by decide) ?_
          refine lv_iadd hx hb dX12_lives_135 ?_
          obtain ⟨hi, hf⟩ := ck hf
          refine r_iald 1 cx hP rfl hi dX12_lives_136 ?_
          refine lv_iconst (v := 1) hx hb dX12_lives_137 (by decide) ?_
          refine lv_isub hx hb dX12_lives_138 ?_
          obtain ⟨hi, hf⟩ := ck hf
          refine r_iast 3 cx hP hD hS rfl hi dX12_lives_139 (fun H locs hP hD hS => ?_)
          have hP : va_P E.1 vwCl (wd_X12_lives E a_o a_o_at a_o_names a_o_sort a_o_trayMany a_o_trays a_o_tape a_o_text a_o_opened a_o_farBy a_o_attendsBy a_o_coveredBy a_o_cameBy a_o_cameThen a_o_fallsBy a_o_loops a_o_ran a_o_told1 o_status o_top o_bottom o_taped o_size o_token o_from o_end o_value o_faultKind o_faultPlace o_faults o_seen o_toldParts o_depth o_counted o_becameThen o_firstCorner o_drawn_j111 o_ranSteps_j111 o_isTold o_marks o_at_j111 o_farBy_j111 (jput o_loops_j111 v2_j111 ((jat o_at_j111 (v3_j111 + 1)) - 1)) (jput o_ran_j111 k2_j111 (k1_j111 + k0_j111))) H := hP
          have hD : va_D A (wd_X12_lives E a_o a_o_at a_o_names a_o_sort a_o_trayMany a_o_trays a_o_tape a_o_text a_o_opened a_o_farBy a_o_attendsBy a_o_coveredBy a_o_cameBy a_o_cameThen a_o_fallsBy a_o_loops a_o_ran a_o_told1 o_status o_top o_bottom o_taped o_size o_token o_from o_end o_value o_faultKind o_faultPlace o_faults o_seen o_toldParts o_depth o_counted o_becameThen o_firstCorner o_drawn_j111 o_ranSteps_j111 o_isTold o_marks o_at_j111 o_farBy_j111 (jput o_loops_j111 v2_j111 ((jat o_at_j111 (v3_j111 + 1)) - 1)) (jput o_ran_j111 k2_j111 (k1_j111 + k0_j111))) := hD
          exact hj140 _ _ _ _ _ _ _ _ _ _ _ hf hP hD hS (lv_sub hl [0, 1, 2] rfl)
      unfold X12_lives_b32 at hf
      refine lv_iload_n hx hb dX12_lives_32 rfl (lv_at hl 1 rfl) ?_
      refine lv_aload_n hx hb dX12_lives_33 rfl (lv_at hl 0 rfl) ?_
      refine va_get (D := E.1) (ci := 12) (v := .ref a_o_at) (C := RX12) (T := TX12) (N := 39) hx hb hts inX12 hown hK hP 0 rfl rfl 0 (by decide) (hts _ fl_X12_7) (fun _ h9 => h9) rfl dX12_lives_34 ?_
      refine lv_bipush (v := 9) hx hb dX12_lives_37 (by decide) ?_
      obtain ⟨hi, hf⟩ := ck hf
      refine r_iald 1 cx hP rfl hi dX12_lives_39 ?_
      refine lv_icmp_ge (tgt := 184) hx hb dX12_lives_40 (by decide) (fun hc => ?_) (fun hc => ?_)
      · have hf := it_t hc hf
        exact he32 _ (Option.some.inj hf).symm _ _ _ hP hD hS (lv_sub hl [] rfl)
      · have hf := it_f hc hf
        refine lv_aload_n hx hb dX12_lives_43 rfl (lv_at hl 0 rfl) ?_
        refine va_get (D := E.1) (ci := 12) (v := .int st32.2.2.1) (C := RX12) (T := TX12) (N := 39) hx hb hts inX12 hown hK hP 0 rfl rfl 33 (by decide) (hts _ fl_X12_487) (fun _ h9 => h9) rfl dX12_lives_44 ?_
        refine lv_sipush (v := 300) hx hb dX12_lives_47 (by decide) ?_
        refine lv_icmp_ne (tgt := 61) hx hb dX12_lives_50 (by decide) (fun hc => ?_) (fun hc => ?_)
        · have hf := it_f hc hf
          refine lv_bipush (v := 127) hx hb dX12_lives_61 (by decide) ?_
          refine lv_bipush (v := 6) hx hb dX12_lives_63 (by decide) ?_
          refine lv_iload_n hx hb dX12_lives_65 rfl (lv_at hl 1 rfl) ?_
          refine lv_imul hx hb dX12_lives_66 ?_
          refine lv_iadd hx hb dX12_lives_67 ?_
          refine lv_istore_n (lv' := [(3, .int (127 + (6 * st32.1))), (0, .ref a_o), (2, .int st32.1)]) hx hb dX12_lives_68 rfl hl (by decide) rfl (fun ls hl => ?_)
          refine lv_aload_n hx hb dX12_lives_69 rfl (lv_at hl 1 rfl) ?_
          refine lv_dup hx hb dX12_lives_70 rfl ?_
          refine va_get (D := E.1) (ci := 12) (v := .int st32.2.2.1) (C := RX12) (T := TX12) (N := 39) hx hb hts inX12 hown hK hP 0 rfl rfl 33 (by decide) (hts _ fl_X12_487) (fun _ h9 => h9) rfl dX12_lives_71 ?_
          refine lv_iconst (v := 1) hx hb dX12_lives_74 (by decide) ?_
          refine lv_iadd hx hb dX12_lives_75 ?_
          refine va_put (D := E.1) (ci := 12) (v := .int (st32.2.2.1 + 1)) (ty := .int) (C := RX12) (T := TX12) (N := 39) hx hb hts inX12 tyX12 tyX12_ok nmX12 hown hK hP hD hS 0 rfl rfl 33 (by decide) (hts _ fl_X12_487) (fun _ h9 => h9) rfl (by decide +kernel) rfl rfl (Nat.le_of_ble_eq_true rfl) dX12_lives_76 (fun H locs hP hD hS => ?_)
          have hP : va_P E.1 vwCl (wd_X12_lives E a_o a_o_at a_o_names a_o_sort a_o_trayMany a_o_trays a_o_tape a_o_text a_o_opened a_o_farBy a_o_attendsBy a_o_coveredBy a_o_cameBy a_o_cameThen a_o_fallsBy a_o_loops a_o_ran a_o_told1 o_status o_top o_bottom o_taped o_size o_token o_from o_end o_value o_faultKind o_faultPlace o_faults o_seen o_toldParts o_depth o_counted o_becameThen o_firstCorner st32.2.1 (st32.2.2.1 + 1) o_isTold o_marks st32.2.2.2.1 st32.2.2.2.2.1 st32.2.2.2.2.2.1 st32.2.2.2.2.2.2) H := hP
          have hD : va_D A (wd_X12_lives E a_o a_o_at a_o_names a_o_sort a_o_trayMany a_o_trays a_o_tape a_o_text a_o_opened a_o_farBy a_o_attendsBy a_o_coveredBy a_o_cameBy a_o_cameThen a_o_fallsBy a_o_loops a_o_ran a_o_told1 o_status o_top o_bottom o_taped o_size o_token o_from o_end o_value o_faultKind o_faultPlace o_faults o_seen o_toldParts o_depth o_counted o_becameThen o_firstCorner st32.2.1 (st32.2.2.1 + 1) o_isTold o_marks st32.2.2.2.1 st32.2.2.2.2.1 st32.2.2.2.2.2.1 st32.2.2.2.2.2.2) := hD
          refine lv_aload_n hx hb dX12_lives_79 rfl (lv_at hl 1 rfl) ?_
          refine va_get (D := E.1) (ci := 12) (v := .ref a_o_at) (C := RX12) (T := TX12) (N := 39) hx hb hts inX12 hown hK hP 0 rfl rfl 0 (by decide) (hts _ fl_X12_7) (fun _ h9 => h9) rfl dX12_lives_80 ?_
          refine lv_iload_n hx hb dX12_lives_83 rfl (lv_at hl 0 rfl) ?_
          obtain ⟨hi, hf⟩ := ck hf
          refine r_iald 1 cx hP rfl hi dX12_lives_84 ?_
          refine lv_bipush (v := 20) hx hb dX12_lives_85 (by decide) ?_
          refine lv_icmp_ne (tgt := 91) hx hb dX12_lives_87 (by decide) (fun hc => ?_) (fun hc => ?_)
          · have hf := it_f hc hf
            refine lv_aload_n hx hb dX12_lives_91 rfl (lv_at hl 1 rfl) ?_
            refine va_get (D := E.1) (ci := 12) (v := .ref a_o_ran) (C := RX12) (T := TX12) (N := 39) hx hb hts inX12 hown hK hP 0 rfl rfl 35 (by decide) (hts _ fl_X12_69) (fun _ h9 => h9) rfl dX12_lives_92 ?_
            refine lv_iconst (v := 0) hx hb dX12_lives_95 (by decide) ?_
            refine lv_dup2_11 hx hb dX12_lives_96 rfl rfl ?_
            obtain ⟨hi, hf⟩ := ck hf
            refine r_iald 4 cx hP rfl hi dX12_lives_97 ?_
            refine lv_aload_n hx hb dX12_lives_98 rfl (lv_at hl 1 rfl) ?_
            refine lv_iload_n hx hb dX12_lives_99 rfl (lv_at hl 0 rfl) ?_
            obtain ⟨u100, hu100, hf⟩ := bd hf
            refine callVI (wn := (wd_X12_lives E a_o a_o_at a_o_names a_o_sort a_o_trayMany a_o_trays a_o_tape a_o_text a_o_opened a_o_farBy a_o_attendsBy a_o_coveredBy a_o_cameBy a_o_cameThen a_o_fallsBy a_o_loops a_o_ran a_o_told1 o_status o_top o_bottom o_taped o_size o_token o_from o_end o_value o_faultKind o_faultPlace o_faults o_seen o_toldParts o_depth o_counted o_becameThen o_firstCorner u100.2.1 (st32.2.2.1 + 1) o_isTold o_marks u100.2.2.1 u100.2.2.2.1 st32.2.2.2.2.2.1 u100.2.2.2.2)) (n1 := 5) (ct_X12_does l E F a_o a_o_at a_o_names a_o_sort a_o_trayMany a_o_trays a_o_tape a_o_text a_o_opened a_o_farBy a_o_attendsBy a_o_coveredBy a_o_cameBy a_o_cameThen a_o_fallsBy a_o_loops a_o_ran a_o_told1 o_status o_top o_bottom o_taped o_size o_token o_from o_end o_value o_faultKind o_faultPlace o_faults o_seen o_toldParts o_depth o_counted o_becameThen o_firstCorner st32.2.1 (st32.2.2.1 + 1) o_isTold o_marks st32.2.2.2.1 st32.2.2.2.2.1 st32.2.2.2.2.2.2 (127 + (6 * st32.1)) u100 hu100) [0, 1, 2, 4] cal_X12_does cav_X12_does lk_X12_490 cx hP hD hS hl dX12_lives_100 rfl rfl rfl rfl (Nat.le_of_ble_eq_true rfl) ⟨Nat.le_of_ble_eq_true rfl, Nat.le_of_ble_eq_true rfl⟩ rfl (by decide +kernel) rfl [some 0, some 1, some 2, none, some 3] rfl (by decide +kernel) rfl (fun H locs hP hD hS => ?_)
            refine lv_if_eq (tgt := 110) hx hb dX12_lives_103 (by decide) (fun hc => ?_) (fun hc => ?_)
            · have hf := it_t hc hf
              refine lv_iconst (v := 1) hx hb dX12_lives_110 (by decide) ?_
              exact hj111 _ _ _ _ _ _ _ _ _ _ _ _ _ _ hf hP hD hS (lv_sub hl [1, 2, 0] rfl)
            · have hf := it_f hc hf
              refine lv_iconst (v := 0) hx hb dX12_lives_106 (by decide) ?_
              refine lv_goto (tgt := 111) hx hb dX12_lives_107 (by decide) ?_
              exact hj111 _ _ _ _ _ _ _ _ _ _ _ _ _ _ hf hP hD hS (lv_sub hl [1, 2, 0] rfl)
          · have hf := it_t hc hf
            exact he32 _ (Option.some.inj hf).symm _ _ _ hP hD hS (lv_sub hl [] rfl)
        · have hf := it_t hc hf
          exact he32 _ (Option.some.inj hf).symm _ _ _ hP hD hS (lv_sub hl [0] rfl)
    · rcases e32 with e32 | e32
      · have hf := se_l hf
        refine fun H locs ls hP hD hS hl => ?_
        refine lv_aload_n hx hb dX12_lives_53 rfl (lv_at hl 0 rfl) ?_
        refine va_get (D := E.1) (ci := 12) (v := .ref a_o_ran) (C := RX12) (T := TX12) (N := 39) hx hb hts inX12 hown hK hP 0 rfl rfl 35 (by decide) (hts _ fl_X12_69) (fun _ h9 => h9) rfl dX12_lives_54 ?_
        refine lv_iconst (v := 4) hx hb dX12_lives_57 (by decide) ?_
        refine lv_iconst (v := 1) hx hb dX12_lives_58 (by decide) ?_
        obtain ⟨hi, hf⟩ := ck hf
        refine r_iast 4 cx hP hD hS rfl hi dX12_lives_59 (fun H locs hP hD hS => ?_)
        have hP : va_P E.1 vwCl (wd_X12_lives E a_o a_o_at a_o_names a_o_sort a_o_trayMany a_o_trays a_o_tape a_o_text a_o_opened a_o_farBy a_o_attendsBy a_o_coveredBy a_o_cameBy a_o_cameThen a_o_fallsBy a_o_loops a_o_ran a_o_told1 o_status o_top o_bottom o_taped o_size o_token o_from o_end o_value o_faultKind o_faultPlace o_faults o_seen o_toldParts o_depth o_counted o_becameThen o_firstCorner e32.1 e32.2.1 o_isTold o_marks e32.2.2.1 e32.2.2.2.1 e32.2.2.2.2.1 (jput e32.2.2.2.2.2 4 1)) H := hP
        have hD : va_D A (wd_X12_lives E a_o a_o_at a_o_names a_o_sort a_o_trayMany a_o_trays a_o_tape a_o_text a_o_opened a_o_farBy a_o_attendsBy a_o_coveredBy a_o_cameBy a_o_cameThen a_o_fallsBy a_o_loops a_o_ran a_o_told1 o_status o_top o_bottom o_taped o_size o_token o_from o_end o_value o_faultKind o_faultPlace o_faults o_seen o_toldParts o_depth o_counted o_becameThen o_firstCorner e32.1 e32.2.1 o_isTold o_marks e32.2.2.1 e32.2.2.2.1 e32.2.2.2.2.1 (jput e32.2.2.2.2.2 4 1)) := hD
        obtain rfl := Option.some.inj hf
        subst hq
        exact retV cx hP hD hS dX12_lives_60
      · have hf := se_r hf
        rcases e32 with e32 | e32
        · have hf := se_l hf
          refine fun H locs ls hP hD hS hl => ?_
          obtain rfl := Option.some.inj hf
          subst hq
          exact retV cx hP hD hS dX12_lives_90
        · have hf := se_r hf
          refine fun H locs ls hP hD hS hl => ?_
          obtain rfl := Option.some.inj hf
          subst hq
          exact retV cx hP hD hS dX12_lives_184
def X12_live_b43 (F : Nat) (o_status : Int32) (o_drawn : Int32) (o_ranSteps : Int32) (o_isTold : Int32) (o_at : Nat → Int32) (o_farBy : Nat → Int32) (o_loops : Nat → Int32) (o_ran : Nat → Int32) (st43 : Int32 × (Nat → Int32)) : Option ((Int32 × (Nat → Int32)) ⊕ (((Nat → Int32)))) :=
  if (5 : Int32) ≤ st43.1 then
  some (.inr st43.2)
  else
  if ix st43.1 5 then
  if ix st43.1 5 then
  some (.inl ((st43.1 + 1), (jput st43.2 st43.1 (jat o_ran st43.1))))
  else none
  else none
def X12_live (F : Nat) (o_status : Int32) (o_drawn : Int32) (o_ranSteps : Int32) (o_isTold : Int32) (o_at : Nat → Int32) (o_farBy : Nat → Int32) (o_loops : Nat → Int32) (o_ran : Nat → Int32) (o_told1 : Nat → Int32) (v1 : Int32) : Option (Int32 × Int32 × Int32 × Int32 × Int32 × (Nat → Int32) × (Nat → Int32) × (Nat → Int32) × (Nat → Int32) × (Nat → Int32)) :=
  (X12_isFrom (v1.toInt64) (0 : Int64) (9999 : Int64)).bind fun u6 =>
  if u6 = 0 then
  (X12_refuse o_status (1 : Int32)).bind fun u14 =>
  some (u14.1, u14.2, o_drawn, o_ranSteps, o_isTold, o_at, o_farBy, o_loops, o_ran, o_told1)
  else
  if ix 9 3097 then
  if (jat o_at 9) = (-1) then
  (X12_refuse o_status (6 : Int32)).bind fun u32 =>
  some (u32.1, u32.2, o_drawn, o_ranSteps, o_isTold, o_at, o_farBy, o_loops, o_ran, o_told1)
  else
  (X12_lives F o_drawn o_ranSteps o_at o_farBy o_loops o_ran v1).bind fun u38 =>
  (iter (X12_live_b43 F o_status u38.1 u38.2.1 o_isTold u38.2.2.1 u38.2.2.2.1 u38.2.2.2.2.1 u38.2.2.2.2.2) F (0, o_told1)).bind (fun (e43 : (Nat → Int32)) =>
    (X12_gives o_status u38.2.1).bind fun u76 =>
  some (u76.1, u76.2, u38.1, u38.2.1, 1, u38.2.2.1, u38.2.2.2.1, u38.2.2.2.2.1, u38.2.2.2.2.2, e43))
  else none
abbrev wd_X12_live (E : vE) (a_o a_o_at a_o_names a_o_sort a_o_trayMany a_o_trays a_o_tape a_o_text a_o_opened a_o_farBy a_o_attendsBy a_o_coveredBy a_o_cameBy a_o_cameThen a_o_fallsBy a_o_loops a_o_ran a_o_told1 : Nat) (o_status : Int32) (o_top : Int64) (o_bottom : Int64) (o_taped : Int32) (o_size : Int32) (o_token : Int32) (o_from : Int32) (o_end : Int32) (o_value : Int32) (o_faultKind : Int32) (o_faultPlace : Int32) (o_faults : Int32) (o_seen : Int32) (o_toldParts : Int32) (o_depth : Int32) (o_counted : Int32) (o_becameThen : Int32) (o_firstCorner : Int32) (o_drawn : Int32) (o_ranSteps : Int32) (o_isTold : Int32) (o_marks : Int32) (o_at : Nat → Int32) (o_farBy : Nat → Int32) (o_loops : Nat → Int32) (o_ran : Nat → Int32) (o_told1 : Nat → Int32) : va_W := [(a_o, .inr (12, [.ref a_o_at, .ref a_o_names, .int o_status, .long o_top, .long o_bottom, .ref a_o_sort, .ref a_o_trayMany, .ref a_o_trays, .ref a_o_tape, .ref a_o_text, .int o_taped, .int o_size, .int o_token, .int o_from, .int o_end, .int o_value, .int o_faultKind, .int o_faultPlace, .int o_faults, .int o_seen, .int o_toldParts, .ref a_o_opened, .int o_depth, .int o_counted, .ref a_o_farBy, .int o_becameThen, .ref a_o_attendsBy, .ref a_o_coveredBy, .ref a_o_cameBy, .ref a_o_cameThen, .int o_firstCorner, .ref a_o_fallsBy, .int o_drawn, .int o_ranSteps, .ref a_o_loops, .ref a_o_ran, .ref a_o_told1, .int o_isTold, .int o_marks])), (a_o_at, .inl (E.2.1, 3097, .inl o_at)), (a_o_farBy, .inl (E.2.1, 64, .inl o_farBy)), (a_o_loops, .inl (E.2.1, 80, .inl o_loops)), (a_o_ran, .inl (E.2.1, 5, .inl o_ran)), (a_o_told1, .inl (E.2.1, 5, .inl o_told1))]
set_option maxHeartbeats 4000000 in
set_option maxRecDepth 100000 in
theorem ct_X12_live (l : Launch) (E : vE) (F : Nat) (a_o a_o_at a_o_names a_o_sort a_o_trayMany a_o_trays a_o_tape a_o_text a_o_opened a_o_farBy a_o_attendsBy a_o_coveredBy a_o_cameBy a_o_cameThen a_o_fallsBy a_o_loops a_o_ran a_o_told1 : Nat) (o_status : Int32) (o_top : Int64) (o_bottom : Int64) (o_taped : Int32) (o_size : Int32) (o_token : Int32) (o_from : Int32) (o_end : Int32) (o_value : Int32) (o_faultKind : Int32) (o_faultPlace : Int32) (o_faults : Int32) (o_seen : Int32) (o_toldParts : Int32) (o_depth : Int32) (o_counted : Int32) (o_becameThen : Int32) (o_firstCorner : Int32) (o_drawn : Int32) (o_ranSteps : Int32) (o_isTold : Int32) (o_marks : Int32) (o_at : Nat → Int32) (o_farBy : Nat → Int32) (o_loops : Nat → Int32) (o_ran : Nat → Int32) (o_told1 : Nat → Int32) (v1 : Int32) (u : Int32 × Int32 × Int32 × Int32 × Int32 × (Nat → Int32) × (Nat → Int32) × (Nat → Int32) × (Nat → Int32) × (Nat → Int32)) (hf : X12_live F o_status o_drawn o_ranSteps o_isTold o_at o_farBy o_loops o_ran o_told1 v1 = some u) :
    CtI l yX12_live cX12_live 3 (some .int) 11 E [.ref a_o, .int v1] (wd_X12_live E a_o a_o_at a_o_names a_o_sort a_o_trayMany a_o_trays a_o_tape a_o_text a_o_opened a_o_farBy a_o_attendsBy a_o_coveredBy a_o_cameBy a_o_cameThen a_o_fallsBy a_o_loops a_o_ran a_o_told1 o_status o_top o_bottom o_taped o_size o_token o_from o_end o_value o_faultKind o_faultPlace o_faults o_seen o_toldParts o_depth o_counted o_becameThen o_firstCorner o_drawn o_ranSteps o_isTold o_marks o_at o_farBy o_loops o_ran o_told1) (wd_X12_live E a_o a_o_at a_o_names a_o_sort a_o_trayMany a_o_trays a_o_tape a_o_text a_o_opened a_o_farBy a_o_attendsBy a_o_coveredBy a_o_cameBy a_o_cameThen a_o_fallsBy a_o_loops a_o_ran a_o_told1 u.2.1 o_top o_bottom o_taped o_size o_token o_from o_end o_value o_faultKind o_faultPlace o_faults o_seen o_toldParts o_depth o_counted o_becameThen o_firstCorner u.2.2.1 u.2.2.2.1 u.2.2.2.2.1 o_marks u.2.2.2.2.2.1 u.2.2.2.2.2.2.1 u.2.2.2.2.2.2.2.1 u.2.2.2.2.2.2.2.2.1 u.2.2.2.2.2.2.2.2.2) u.1 := by
  refine ctI (by decide) (Nat.le_of_ble_eq_true rfl) ?_
  intro p e s m below meth cd A ls aa QQ hq cx hP hD hS hl
  obtain ⟨⟨hx, hb, hml, hown, hts⟩, hr, hlocks, hK, hA, hX⟩ := id cx
  have hl : lv_has ls 3 [(0, .ref a_o), (1, .int v1)] := hl
  unfold X12_live at hf
  refine lv_iload_n hx hb dX12_live_0 rfl (lv_at hl 1 rfl) ?_
  refine lv_i2l (v := (v1.toInt64)) hx hb dX12_live_1 rfl ?_
  refine lv_lconst (v := 0) hx hb dX12_live_2 (by decide) ?_
  refine lv_ldc2 (v := 9999) hx hb hown (hts _ kl_X12_499) dX12_live_3 ?_
  obtain ⟨u6, hu6, hf⟩ := bd hf
  refine keepSI (ct_X12_isFrom l E (v1.toInt64) (0 : Int64) (9999 : Int64) u6 hu6) [] cal_X12_isFrom sta_X12_isFrom lk_X12_359 cx hP hD hS hl dX12_live_6 rfl rfl (Nat.le_of_ble_eq_true rfl) ⟨Nat.le_of_ble_eq_true rfl, Nat.le_of_ble_eq_true rfl⟩ rfl (by decide) (fun H locs hP hS => ?_)
  refine lv_if_ne (tgt := 18) hx hb dX12_live_9 (by decide) (fun hc => ?_) (fun hc => ?_)
  · have hf := it_f hc hf
    refine lv_aload_n hx hb dX12_live_18 rfl (lv_at hl 0 rfl) ?_
    refine va_get (D := E.1) (ci := 12) (v := .ref a_o_at) (C := RX12) (T := TX12) (N := 39) hx hb hts inX12 hown hK hP 0 rfl rfl 0 (by decide) (hts _ fl_X12_7) (fun _ h9 => h9) rfl dX12_live_19 ?_
    refine lv_bipush (v := 9) hx hb dX12_live_22 (by decide) ?_
    obtain ⟨hi, hf⟩ := ck hf
    refine r_iald 1 cx hP rfl hi dX12_live_24 ?_
    refine lv_iconst (v := (-1)) hx hb dX12_live_25 (by decide) ?_
    refine lv_icmp_ne (tgt := 36) hx hb dX12_live_26 (by decide) (fun hc => ?_) (fun hc => ?_)
    · have hf := it_f hc hf
      refine lv_aload_n hx hb dX12_live_36 rfl (lv_at hl 0 rfl) ?_
      refine lv_iload_n hx hb dX12_live_37 rfl (lv_at hl 1 rfl) ?_
      obtain ⟨u38, hu38, hf⟩ := bd hf
      refine callVV (wn := (wd_X12_live E a_o a_o_at a_o_names a_o_sort a_o_trayMany a_o_trays a_o_tape a_o_text a_o_opened a_o_farBy a_o_attendsBy a_o_coveredBy a_o_cameBy a_o_cameThen a_o_fallsBy a_o_loops a_o_ran a_o_told1 o_status o_top o_bottom o_taped o_size o_token o_from o_end o_value o_faultKind o_faultPlace o_faults o_seen o_toldParts o_depth o_counted o_becameThen o_firstCorner u38.1 u38.2.1 o_isTold o_marks u38.2.2.1 u38.2.2.2.1 u38.2.2.2.2.1 u38.2.2.2.2.2 o_told1)) (n1 := 6) (ct_X12_lives l E F a_o a_o_at a_o_names a_o_sort a_o_trayMany a_o_trays a_o_tape a_o_text a_o_opened a_o_farBy a_o_attendsBy a_o_coveredBy a_o_cameBy a_o_cameThen a_o_fallsBy a_o_loops a_o_ran a_o_told1 o_status o_top o_bottom o_taped o_size o_token o_from o_end o_value o_faultKind o_faultPlace o_faults o_seen o_toldParts o_depth o_counted o_becameThen o_firstCorner o_drawn o_ranSteps o_isTold o_marks o_at o_farBy o_loops o_ran v1 u38 hu38) [0, 1, 2, 3, 4] cal_X12_lives cav_X12_lives lk_X12_501 cx hP hD hS hl dX12_live_38 rfl rfl rfl rfl (Nat.le_of_ble_eq_true rfl) ⟨Nat.le_of_ble_eq_true rfl, Nat.le_of_ble_eq_true rfl⟩ rfl (by decide +kernel) rfl [some 0, some 1, some 2, some 3, some 4, none] rfl (by decide +kernel) rfl (fun H locs hP hD hS => ?_)
      refine lv_iconst (v := 0) hx hb dX12_live_41 (by decide) ?_
      refine lv_istore_n (lv' := [(2, .int 0), (0, .ref a_o), (1, .int v1)]) hx hb dX12_live_42 rfl hl (by decide) rfl (fun ls hl => ?_)
      obtain ⟨e43, hit43, hf⟩ := bd hf
      refine iter_W (b := X12_live_b43 F o_status u38.1 u38.2.1 o_isTold u38.2.2.1 u38.2.2.2.1 u38.2.2.2.2.1 u38.2.2.2.2.2) (P := fun st43 => ∀ (H : Heap) (locs : List Loc) (ls : Array Slot), va_P E.1 vwCl (wd_X12_live E a_o a_o_at a_o_names a_o_sort a_o_trayMany a_o_trays a_o_tape a_o_text a_o_opened a_o_farBy a_o_attendsBy a_o_coveredBy a_o_cameBy a_o_cameThen a_o_fallsBy a_o_loops a_o_ran a_o_told1 o_status o_top o_bottom o_taped o_size o_token o_from o_end o_value o_faultKind o_faultPlace o_faults o_seen o_toldParts o_depth o_counted o_becameThen o_firstCorner u38.1 u38.2.1 o_isTold o_marks u38.2.2.1 u38.2.2.2.1 u38.2.2.2.2.1 u38.2.2.2.2.2 st43.2) H → va_D A (wd_X12_live E a_o a_o_at a_o_names a_o_sort a_o_trayMany a_o_trays a_o_tape a_o_text a_o_opened a_o_farBy a_o_attendsBy a_o_coveredBy a_o_cameBy a_o_cameThen a_o_fallsBy a_o_loops a_o_ran a_o_told1 o_status o_top o_bottom o_taped o_size o_token o_from o_end o_value o_faultKind o_faultPlace o_faults o_seen o_toldParts o_depth o_counted o_becameThen o_firstCorner u38.1 u38.2.1 o_isTold o_marks u38.2.2.1 u38.2.2.2.1 u38.2.2.2.2.1 u38.2.2.2.2.2 st43.2) → va_S A s.heap H locs → lv_has ls 3 [(0, .ref a_o), (2, .int st43.1)] → W p l e (rmd 11) s m aa below meth cd H locs 0 0 QQ (F0 m 43 ls [])) (G := (fun (e43 : (Nat → Int32)) => ∀ (H : Heap) (locs : List Loc) (ls : Array Slot), va_P E.1 vwCl (wd_X12_live E a_o a_o_at a_o_names a_o_sort a_o_trayMany a_o_trays a_o_tape a_o_text a_o_opened a_o_farBy a_o_attendsBy a_o_coveredBy a_o_cameBy a_o_cameThen a_o_fallsBy a_o_loops a_o_ran a_o_told1 o_status o_top o_bottom o_taped o_size o_token o_from o_end o_value o_faultKind o_faultPlace o_faults o_seen o_toldParts o_depth o_counted o_becameThen o_firstCorner u38.1 u38.2.1 o_isTold o_marks u38.2.2.1 u38.2.2.2.1 u38.2.2.2.2.1 u38.2.2.2.2.2 e43) H → va_D A (wd_X12_live E a_o a_o_at a_o_names a_o_sort a_o_trayMany a_o_trays a_o_tape a_o_text a_o_opened a_o_farBy a_o_attendsBy a_o_coveredBy a_o_cameBy a_o_cameThen a_o_fallsBy a_o_loops a_o_ran a_o_told1 o_status o_top o_bottom o_taped o_size o_token o_from o_end o_value o_faultKind o_faultPlace o_faults o_seen o_toldParts o_depth o_counted o_becameThen o_firstCorner u38.1 u38.2.1 o_isTold o_marks u38.2.2.1 u38.2.2.2.1 u38.2.2.2.2.1 u38.2.2.2.2.2 e43) → va_S A s.heap H locs → lv_has ls 3 [(0, .ref a_o)] → W p l e (rmd 11) s m aa below meth cd H locs 0 0 QQ (F0 m 66 ls []))) ?_ F (0, o_told1) e43 hit43 ?_ _ _ _ hP hD hS (lv_sub hl [1, 0] rfl)
      · intro st43 r43 hf hk43 he43 H locs ls hP hD hS hl
        unfold X12_live_b43 at hf
        refine lv_iload_n hx hb dX12_live_43 rfl (lv_at hl 1 rfl) ?_
        refine lv_iconst (v := 5) hx hb dX12_live_44 (by decide) ?_
        refine lv_icmp_ge (tgt := 66) hx hb dX12_live_45 (by decide) (fun hc => ?_) (fun hc => ?_)
        · have hf := it_t hc hf
          exact he43 _ (Option.some.inj hf).symm _ _ _ hP hD hS (lv_sub hl [0] rfl)
        · have hf := it_f hc hf
          refine lv_aload_n hx hb dX12_live_48 rfl (lv_at hl 0 rfl) ?_
          refine va_get (D := E.1) (ci := 12) (v := .ref a_o_told1) (C := RX12) (T := TX12) (N := 39) hx hb hts inX12 hown hK hP 0 rfl rfl 36 (by decide) (hts _ fl_X12_72) (fun _ h9 => h9) rfl dX12_live_49 ?_
          refine lv_iload_n hx hb dX12_live_52 rfl (lv_at hl 1 rfl) ?_
          refine lv_aload_n hx hb dX12_live_53 rfl (lv_at hl 0 rfl) ?_
          refine va_get (D := E.1) (ci := 12) (v := .ref a_o_ran) (C := RX12) (T := TX12) (N := 39) hx hb hts inX12 hown hK hP 0 rfl rfl 35 (by decide) (hts _ fl_X12_69) (fun _ h9 => h9) rfl dX12_live_54 ?_
          refine lv_iload_n hx hb dX12_live_57 rfl (lv_at hl 1 rfl) ?_
          obtain ⟨hi, hf⟩ := ck hf
          refine r_iald 4 cx hP rfl hi dX12_live_58 ?_
          obtain ⟨hi, hf⟩ := ck hf
          refine r_iast 5 cx hP hD hS rfl hi dX12_live_59 (fun H locs hP hD hS => ?_)
          have hP : va_P E.1 vwCl (wd_X12_live E a_o a_o_at a_o_names a_o_sort a_o_trayMany a_o_trays a_o_tape a_o_text a_o_opened a_o_farBy a_o_attendsBy a_o_coveredBy a_o_cameBy a_o_cameThen a_o_fallsBy a_o_loops a_o_ran a_o_told1 o_status o_top o_bottom o_taped o_size o_token o_from o_end o_value o_faultKind o_faultPlace o_faults o_seen o_toldParts o_depth o_counted o_becameThen o_firstCorner u38.1 u38.2.1 o_isTold o_marks u38.2.2.1 u38.2.2.2.1 u38.2.2.2.2.1 u38.2.2.2.2.2 (jput st43.2 st43.1 (jat u38.2.2.2.2.2 st43.1))) H := hP
          have hD : va_D A (wd_X12_live E a_o a_o_at a_o_names a_o_sort a_o_trayMany a_o_trays a_o_tape a_o_text a_o_opened a_o_farBy a_o_attendsBy a_o_coveredBy a_o_cameBy a_o_cameThen a_o_fallsBy a_o_loops a_o_ran a_o_told1 o_status o_top o_bottom o_taped o_size o_token o_from o_end o_value o_faultKind o_faultPlace o_faults o_seen o_toldParts o_depth o_counted o_becameThen o_firstCorner u38.1 u38.2.1 o_isTold o_marks u38.2.2.1 u38.2.2.2.1 u38.2.2.2.2.1 u38.2.2.2.2.2 (jput st43.2 st43.1 (jat u38.2.2.2.2.2 st43.1))) := hD
          refine lv_iinc (v := (st43.1 + 1)) (lv' := [(2, .int (st43.1 + 1)), (0, .ref a_o)]) hx hb dX12_live_60 hl (k := 1) rfl rfl (by decide) rfl (fun ls hl => ?_)
          refine lv_goto (tgt := 43) hx hb dX12_live_63 (by decide) ?_
          exact hk43 _ (Option.some.inj hf).symm _ _ _ hP hD hS (lv_sub hl [1, 0] rfl)
      · refine fun H locs ls hP hD hS hl => ?_
        refine lv_aload_n hx hb dX12_live_66 rfl (lv_at hl 0 rfl) ?_
        refine lv_iconst (v := 1) hx hb dX12_live_67 (by decide) ?_
        refine va_put (D := E.1) (ci := 12) (v := .int 1) (ty := .boolean) (C := RX12) (T := TX12) (N := 39) hx hb hts inX12 tyX12 tyX12_ok nmX12 hown hK hP hD hS 0 rfl rfl 37 (by decide) (hts _ fl_X12_504) (fun _ h9 => h9) rfl (by decide +kernel) rfl rfl (Nat.le_of_ble_eq_true rfl) dX12_live_68 (fun H locs hP hD hS => ?_)
        have hP : va_P E.1 vwCl (wd_X12_live E a_o a_o_at a_o_names a_o_sort a_o_trayMany a_o_trays a_o_tape a_o_text a_o_opened a_o_farBy a_o_attendsBy a_o_coveredBy a_o_cameBy a_o_cameThen a_o_fallsBy a_o_loops a_o_ran a_o_told1 o_status o_top o_bottom o_taped o_size o_token o_from o_end o_value o_faultKind o_faultPlace o_faults o_seen o_toldParts o_depth o_counted o_becameThen o_firstCorner u38.1 u38.2.1 1 o_marks u38.2.2.1 u38.2.2.2.1 u38.2.2.2.2.1 u38.2.2.2.2.2 e43) H := hP
        have hD : va_D A (wd_X12_live E a_o a_o_at a_o_names a_o_sort a_o_trayMany a_o_trays a_o_tape a_o_text a_o_opened a_o_farBy a_o_attendsBy a_o_coveredBy a_o_cameBy a_o_cameThen a_o_fallsBy a_o_loops a_o_ran a_o_told1 o_status o_top o_bottom o_taped o_size o_token o_from o_end o_value o_faultKind o_faultPlace o_faults o_seen o_toldParts o_depth o_counted o_becameThen o_firstCorner u38.1 u38.2.1 1 o_marks u38.2.2.1 u38.2.2.2.1 u38.2.2.2.2.1 u38.2.2.2.2.2 e43) := hD
        refine lv_aload_n hx hb dX12_live_71 rfl (lv_at hl 0 rfl) ?_
        refine lv_aload_n hx hb dX12_live_72 rfl (lv_at hl 0 rfl) ?_
        refine va_get (D := E.1) (ci := 12) (v := .int u38.2.1) (C := RX12) (T := TX12) (N := 39) hx hb hts inX12 hown hK hP 0 rfl rfl 33 (by decide) (hts _ fl_X12_487) (fun _ h9 => h9) rfl dX12_live_73 ?_
        obtain ⟨u76, hu76, hf⟩ := bd hf
        refine callVI (wn := (wd_X12_live E a_o a_o_at a_o_names a_o_sort a_o_trayMany a_o_trays a_o_tape a_o_text a_o_opened a_o_farBy a_o_attendsBy a_o_coveredBy a_o_cameBy a_o_cameThen a_o_fallsBy a_o_loops a_o_ran a_o_told1 u76.2 o_top o_bottom o_taped o_size o_token o_from o_end o_value o_faultKind o_faultPlace o_faults o_seen o_toldParts o_depth o_counted o_becameThen o_firstCorner u38.1 u38.2.1 1 o_marks u38.2.2.1 u38.2.2.2.1 u38.2.2.2.2.1 u38.2.2.2.2.2 e43)) (n1 := 6) (ct_X12_gives l E a_o a_o_at a_o_names a_o_sort a_o_trayMany a_o_trays a_o_tape a_o_text a_o_opened a_o_farBy a_o_attendsBy a_o_coveredBy a_o_cameBy a_o_cameThen a_o_fallsBy a_o_loops a_o_ran a_o_told1 o_status o_top o_bottom o_taped o_size o_token o_from o_end o_value o_faultKind o_faultPlace o_faults o_seen o_toldParts o_depth o_counted o_becameThen o_firstCorner u38.1 u38.2.1 1 o_marks u38.2.1 u76 hu76) [0] cal_X12_gives cav_X12_gives lk_X12_89 cx hP hD hS hl dX12_live_76 rfl rfl rfl rfl (Nat.le_of_ble_eq_true rfl) ⟨Nat.le_of_ble_eq_true rfl, Nat.le_of_ble_eq_true rfl⟩ rfl (by decide +kernel) rfl [some 0, none, none, none, none, none] rfl (by decide +kernel) rfl (fun H locs hP hD hS => ?_)
        obtain rfl := Option.some.inj hf
        subst hq
        exact retI cx hP hD hS dX12_live_79
    · have hf := it_t hc hf
      refine lv_aload_n hx hb dX12_live_29 rfl (lv_at hl 0 rfl) ?_
      refine lv_bipush (v := 6) hx hb dX12_live_30 (by decide) ?_
      obtain ⟨u32, hu32, hf⟩ := bd hf
      refine callVI (wn := (wd_X12_live E a_o a_o_at a_o_names a_o_sort a_o_trayMany a_o_trays a_o_tape a_o_text a_o_opened a_o_farBy a_o_attendsBy a_o_coveredBy a_o_cameBy a_o_cameThen a_o_fallsBy a_o_loops a_o_ran a_o_told1 u32.2 o_top o_bottom o_taped o_size o_token o_from o_end o_value o_faultKind o_faultPlace o_faults o_seen o_toldParts o_depth o_counted o_becameThen o_firstCorner o_drawn o_ranSteps o_isTold o_marks o_at o_farBy o_loops o_ran o_told1)) (n1 := 6) (ct_X12_refuse l E a_o a_o_at a_o_names a_o_sort a_o_trayMany a_o_trays a_o_tape a_o_text a_o_opened a_o_farBy a_o_attendsBy a_o_coveredBy a_o_cameBy a_o_cameThen a_o_fallsBy a_o_loops a_o_ran a_o_told1 o_status o_top o_bottom o_taped o_size o_token o_from o_end o_value o_faultKind o_faultPlace o_faults o_seen o_toldParts o_depth o_counted o_becameThen o_firstCorner o_drawn o_ranSteps o_isTold o_marks (6 : Int32) u32 hu32) [0] cal_X12_refuse cav_X12_refuse lk_X12_85 cx hP hD hS hl dX12_live_32 rfl rfl rfl rfl (Nat.le_of_ble_eq_true rfl) ⟨Nat.le_of_ble_eq_true rfl, Nat.le_of_ble_eq_true rfl⟩ rfl (by decide +kernel) rfl [some 0, none, none, none, none, none] rfl (by decide +kernel) rfl (fun H locs hP hD hS => ?_)
      obtain rfl := Option.some.inj hf
      subst hq
      exact retI cx hP hD hS dX12_live_35
  · have hf := it_t hc hf
    refine lv_aload_n hx hb dX12_live_12 rfl (lv_at hl 0 rfl) ?_
    refine lv_iconst (v := 1) hx hb dX12_live_13 (by decide) ?_
    obtain ⟨u14, hu14, hf⟩ := bd hf
    refine callVI (wn := (wd_X12_live E a_o a_o_at a_o_names a_o_sort a_o_trayMany a_o_trays a_o_tape a_o_text a_o_opened a_o_farBy a_o_attendsBy a_o_coveredBy a_o_cameBy a_o_cameThen a_o_fallsBy a_o_loops a_o_ran a_o_told1 u14.2 o_top o_bottom o_taped o_size o_token o_from o_end o_value o_faultKind o_faultPlace o_faults o_seen o_toldParts o_depth o_counted o_becameThen o_firstCorner o_drawn o_ranSteps o_isTold o_marks o_at o_farBy o_loops o_ran o_told1)) (n1 := 6) (ct_X12_refuse l E a_o a_o_at a_o_names a_o_sort a_o_trayMany a_o_trays a_o_tape a_o_text a_o_opened a_o_farBy a_o_attendsBy a_o_coveredBy a_o_cameBy a_o_cameThen a_o_fallsBy a_o_loops a_o_ran a_o_told1 o_status o_top o_bottom o_taped o_size o_token o_from o_end o_value o_faultKind o_faultPlace o_faults o_seen o_toldParts o_depth o_counted o_becameThen o_firstCorner o_drawn o_ranSteps o_isTold o_marks (1 : Int32) u14 hu14) [0] cal_X12_refuse cav_X12_refuse lk_X12_85 cx hP hD hS hl dX12_live_14 rfl rfl rfl rfl (Nat.le_of_ble_eq_true rfl) ⟨Nat.le_of_ble_eq_true rfl, Nat.le_of_ble_eq_true rfl⟩ rfl (by decide +kernel) rfl [some 0, none, none, none, none, none] rfl (by decide +kernel) rfl (fun H locs hP hD hS => ?_)
    obtain rfl := Option.some.inj hf
    subst hq
    exact retI cx hP hD hS dX12_live_17
def X12_lived_j9 (o_status : Int32) (o_isTold : Int32) (o_told1 : Nat → Int32) : Option (Int32 × Int32) :=
  (X12_refuse o_status (1 : Int32)).bind fun u11 =>
  some (u11.1, u11.2)
def X12_lived (o_status : Int32) (o_isTold : Int32) (o_told1 : Nat → Int32) (v1 : Int32) : Option (Int32 × Int32) :=
  if v1 < 0 then
  X12_lived_j9 o_status o_isTold o_told1
  else
  if v1 ≤ 4 then
  if o_isTold = 0 then
  (X12_refuse o_status (6 : Int32)).bind fun u40 =>
  some (u40.1, u40.2)
  else
  if ix v1 5 then
  (X12_gives o_status (jat o_told1 v1)).bind fun u31 =>
  some (u31.1, u31.2)
  else none
  else
  X12_lived_j9 o_status o_isTold o_told1
abbrev wd_X12_lived (E : vE) (a_o a_o_at a_o_names a_o_sort a_o_trayMany a_o_trays a_o_tape a_o_text a_o_opened a_o_farBy a_o_attendsBy a_o_coveredBy a_o_cameBy a_o_cameThen a_o_fallsBy a_o_loops a_o_ran a_o_told1 : Nat) (o_status : Int32) (o_top : Int64) (o_bottom : Int64) (o_taped : Int32) (o_size : Int32) (o_token : Int32) (o_from : Int32) (o_end : Int32) (o_value : Int32) (o_faultKind : Int32) (o_faultPlace : Int32) (o_faults : Int32) (o_seen : Int32) (o_toldParts : Int32) (o_depth : Int32) (o_counted : Int32) (o_becameThen : Int32) (o_firstCorner : Int32) (o_drawn : Int32) (o_ranSteps : Int32) (o_isTold : Int32) (o_marks : Int32) (o_told1 : Nat → Int32) : va_W := [(a_o, .inr (12, [.ref a_o_at, .ref a_o_names, .int o_status, .long o_top, .long o_bottom, .ref a_o_sort, .ref a_o_trayMany, .ref a_o_trays, .ref a_o_tape, .ref a_o_text, .int o_taped, .int o_size, .int o_token, .int o_from, .int o_end, .int o_value, .int o_faultKind, .int o_faultPlace, .int o_faults, .int o_seen, .int o_toldParts, .ref a_o_opened, .int o_depth, .int o_counted, .ref a_o_farBy, .int o_becameThen, .ref a_o_attendsBy, .ref a_o_coveredBy, .ref a_o_cameBy, .ref a_o_cameThen, .int o_firstCorner, .ref a_o_fallsBy, .int o_drawn, .int o_ranSteps, .ref a_o_loops, .ref a_o_ran, .ref a_o_told1, .int o_isTold, .int o_marks])), (a_o_told1, .inl (E.2.1, 5, .inl o_told1))]
set_option maxHeartbeats 4000000 in
set_option maxRecDepth 100000 in
theorem ct_X12_lived (l : Launch) (E : vE) (a_o a_o_at a_o_names a_o_sort a_o_trayMany a_o_trays a_o_tape a_o_text a_o_opened a_o_farBy a_o_attendsBy a_o_coveredBy a_o_cameBy a_o_cameThen a_o_fallsBy a_o_loops a_o_ran a_o_told1 : Nat) (o_status : Int32) (o_top : Int64) (o_bottom : Int64) (o_taped : Int32) (o_size : Int32) (o_token : Int32) (o_from : Int32) (o_end : Int32) (o_value : Int32) (o_faultKind : Int32) (o_faultPlace : Int32) (o_faults : Int32) (o_seen : Int32) (o_toldParts : Int32) (o_depth : Int32) (o_counted : Int32) (o_becameThen : Int32) (o_firstCorner : Int32) (o_drawn : Int32) (o_ranSteps : Int32) (o_isTold : Int32) (o_marks : Int32) (o_told1 : Nat → Int32) (v1 : Int32) (u : Int32 × Int32) (hf : X12_lived o_status o_isTold o_told1 v1 = some u) :
    CtI l yX12_lived cX12_lived 2 (some .int) 1 E [.ref a_o, .int v1] (wd_X12_lived E a_o a_o_at a_o_names a_o_sort a_o_trayMany a_o_trays a_o_tape a_o_text a_o_opened a_o_farBy a_o_attendsBy a_o_coveredBy a_o_cameBy a_o_cameThen a_o_fallsBy a_o_loops a_o_ran a_o_told1 o_status o_top o_bottom o_taped o_size o_token o_from o_end o_value o_faultKind o_faultPlace o_faults o_seen o_toldParts o_depth o_counted o_becameThen o_firstCorner o_drawn o_ranSteps o_isTold o_marks o_told1) (wd_X12_lived E a_o a_o_at a_o_names a_o_sort a_o_trayMany a_o_trays a_o_tape a_o_text a_o_opened a_o_farBy a_o_attendsBy a_o_coveredBy a_o_cameBy a_o_cameThen a_o_fallsBy a_o_loops a_o_ran a_o_told1 u.2 o_top o_bottom o_taped o_size o_token o_from o_end o_value o_faultKind o_faultPlace o_faults o_seen o_toldParts o_depth o_counted o_becameThen o_firstCorner o_drawn o_ranSteps o_isTold o_marks o_told1) u.1 := by
  refine ctI (by decide) (Nat.le_of_ble_eq_true rfl) ?_
  intro p e s m below meth cd A ls aa QQ hq cx hP hD hS hl
  obtain ⟨⟨hx, hb, hml, hown, hts⟩, hr, hlocks, hK, hA, hX⟩ := id cx
  have hl : lv_has ls 2 [(0, .ref a_o), (1, .int v1)] := hl
  have hj9 : ∀ (o_status_j9 : Int32) (H : Heap) (locs : List Loc) (ls : Array Slot), X12_lived_j9 o_status_j9 o_isTold o_told1 = some u → va_P E.1 vwCl (wd_X12_lived E a_o a_o_at a_o_names a_o_sort a_o_trayMany a_o_trays a_o_tape a_o_text a_o_opened a_o_farBy a_o_attendsBy a_o_coveredBy a_o_cameBy a_o_cameThen a_o_fallsBy a_o_loops a_o_ran a_o_told1 o_status_j9 o_top o_bottom o_taped o_size o_token o_from o_end o_value o_faultKind o_faultPlace o_faults o_seen o_toldParts o_depth o_counted o_becameThen o_firstCorner o_drawn o_ranSteps o_isTold o_marks o_told1) H → va_D A (wd_X12_lived E a_o a_o_at a_o_names a_o_sort a_o_trayMany a_o_trays a_o_tape a_o_text a_o_opened a_o_farBy a_o_attendsBy a_o_coveredBy a_o_cameBy a_o_cameThen a_o_fallsBy a_o_loops a_o_ran a_o_told1 o_status_j9 o_top o_bottom o_taped o_size o_token o_from o_end o_value o_faultKind o_faultPlace o_faults o_seen o_toldParts o_depth o_counted o_becameThen o_firstCorner o_drawn o_ranSteps o_isTold o_marks o_told1) → va_S A s.heap H locs → lv_has ls 2 [(0, .ref a_o)] → W p l e (rmd 1) s m aa below meth cd H locs 0 0 QQ (F0 m 9 ls []) := by
    intro o_status_j9 H locs ls hf hP hD hS hl
    unfold X12_lived_j9 at hf
    refine lv_aload_n hx hb dX12_lived_9 rfl (lv_at hl 0 rfl) ?_
    refine lv_iconst (v := 1) hx hb dX12_lived_10 (by decide) ?_
    obtain ⟨u11, hu11, hf⟩ := bd hf
    refine callVI (wn := (wd_X12_lived E a_o a_o_at a_o_names a_o_sort a_o_trayMany a_o_trays a_o_tape a_o_text a_o_opened a_o_farBy a_o_attendsBy a_o_coveredBy a_o_cameBy a_o_cameThen a_o_fallsBy a_o_loops a_o_ran a_o_told1 u11.2 o_top o_bottom o_taped o_size o_token o_from o_end o_value o_faultKind o_faultPlace o_faults o_seen o_toldParts o_depth o_counted o_becameThen o_firstCorner o_drawn o_ranSteps o_isTold o_marks o_told1)) (n1 := 2) (ct_X12_refuse l E a_o a_o_at a_o_names a_o_sort a_o_trayMany a_o_trays a_o_tape a_o_text a_o_opened a_o_farBy a_o_attendsBy a_o_coveredBy a_o_cameBy a_o_cameThen a_o_fallsBy a_o_loops a_o_ran a_o_told1 o_status_j9 o_top o_bottom o_taped o_size o_token o_from o_end o_value o_faultKind o_faultPlace o_faults o_seen o_toldParts o_depth o_counted o_becameThen o_firstCorner o_drawn o_ranSteps o_isTold o_marks (1 : Int32) u11 hu11) [0] cal_X12_refuse cav_X12_refuse lk_X12_85 cx hP hD hS hl dX12_lived_11 rfl rfl rfl rfl (Nat.le_of_ble_eq_true rfl) ⟨Nat.le_of_ble_eq_true rfl, Nat.le_of_ble_eq_true rfl⟩ rfl (by decide +kernel) rfl [some 0, none] rfl (by decide +kernel) rfl (fun H locs hP hD hS => ?_)
    refine lv_goto (tgt := 43) hx hb dX12_lived_14 (by decide) ?_
    obtain rfl := Option.some.inj hf
    subst hq
    exact retI cx hP hD hS dX12_lived_43
  unfold X12_lived at hf
  refine lv_iload_n hx hb dX12_lived_0 rfl (lv_at hl 1 rfl) ?_
  refine lv_if_lt (tgt := 9) hx hb dX12_lived_1 (by decide) (fun hc => ?_) (fun hc => ?_)
  · have hf := it_t hc hf
    exact hj9 _ _ _ _ hf hP hD hS (lv_sub hl [0] rfl)
  · have hf := it_f hc hf
    refine lv_iload_n hx hb dX12_lived_4 rfl (lv_at hl 1 rfl) ?_
    refine lv_iconst (v := 4) hx hb dX12_lived_5 (by decide) ?_
    refine lv_icmp_le (tgt := 17) hx hb dX12_lived_6 (by decide) (fun hc => ?_) (fun hc => ?_)
    · have hf := it_t hc hf
      refine lv_aload_n hx hb dX12_lived_17 rfl (lv_at hl 0 rfl) ?_
      refine va_get (D := E.1) (ci := 12) (v := .int o_isTold) (C := RX12) (T := TX12) (N := 39) hx hb hts inX12 hown hK hP 0 rfl rfl 37 (by decide) (hts _ fl_X12_504) (fun _ h9 => h9) rfl dX12_lived_18 ?_
      refine lv_if_eq (tgt := 37) hx hb dX12_lived_21 (by decide) (fun hc => ?_) (fun hc => ?_)
      · have hf := it_t hc hf
        refine lv_aload_n hx hb dX12_lived_37 rfl (lv_at hl 0 rfl) ?_
        refine lv_bipush (v := 6) hx hb dX12_lived_38 (by decide) ?_
        obtain ⟨u40, hu40, hf⟩ := bd hf
        refine callVI (wn := (wd_X12_lived E a_o a_o_at a_o_names a_o_sort a_o_trayMany a_o_trays a_o_tape a_o_text a_o_opened a_o_farBy a_o_attendsBy a_o_coveredBy a_o_cameBy a_o_cameThen a_o_fallsBy a_o_loops a_o_ran a_o_told1 u40.2 o_top o_bottom o_taped o_size o_token o_from o_end o_value o_faultKind o_faultPlace o_faults o_seen o_toldParts o_depth o_counted o_becameThen o_firstCorner o_drawn o_ranSteps o_isTold o_marks o_told1)) (n1 := 2) (ct_X12_refuse l E a_o a_o_at a_o_names a_o_sort a_o_trayMany a_o_trays a_o_tape a_o_text a_o_opened a_o_farBy a_o_attendsBy a_o_coveredBy a_o_cameBy a_o_cameThen a_o_fallsBy a_o_loops a_o_ran a_o_told1 o_status o_top o_bottom o_taped o_size o_token o_from o_end o_value o_faultKind o_faultPlace o_faults o_seen o_toldParts o_depth o_counted o_becameThen o_firstCorner o_drawn o_ranSteps o_isTold o_marks (6 : Int32) u40 hu40) [0] cal_X12_refuse cav_X12_refuse lk_X12_85 cx hP hD hS hl dX12_lived_40 rfl rfl rfl rfl (Nat.le_of_ble_eq_true rfl) ⟨Nat.le_of_ble_eq_true rfl, Nat.le_of_ble_eq_true rfl⟩ rfl (by decide +kernel) rfl [some 0, none] rfl (by decide +kernel) rfl (fun H locs hP hD hS => ?_)
        obtain rfl := Option.some.inj hf
        subst hq
        exact retI cx hP hD hS dX12_lived_43
      · have hf := it_f hc hf
        refine lv_aload_n hx hb dX12_lived_24 rfl (lv_at hl 0 rfl) ?_
        refine lv_aload_n hx hb dX12_lived_25 rfl (lv_at hl 0 rfl) ?_
        refine va_get (D := E.1) (ci := 12) (v := .ref a_o_told1) (C := RX12) (T := TX12) (N := 39) hx hb hts inX12 hown hK hP 0 rfl rfl 36 (by decide) (hts _ fl_X12_72) (fun _ h9 => h9) rfl dX12_lived_26 ?_
        refine lv_iload_n hx hb dX12_lived_29 rfl (lv_at hl 1 rfl) ?_
        obtain ⟨hi, hf⟩ := ck hf
        refine r_iald 1 cx hP rfl hi dX12_lived_30 ?_
        obtain ⟨u31, hu31, hf⟩ := bd hf
        refine callVI (wn := (wd_X12_lived E a_o a_o_at a_o_names a_o_sort a_o_trayMany a_o_trays a_o_tape a_o_text a_o_opened a_o_farBy a_o_attendsBy a_o_coveredBy a_o_cameBy a_o_cameThen a_o_fallsBy a_o_loops a_o_ran a_o_told1 u31.2 o_top o_bottom o_taped o_size o_token o_from o_end o_value o_faultKind o_faultPlace o_faults o_seen o_toldParts o_depth o_counted o_becameThen o_firstCorner o_drawn o_ranSteps o_isTold o_marks o_told1)) (n1 := 2) (ct_X12_gives l E a_o a_o_at a_o_names a_o_sort a_o_trayMany a_o_trays a_o_tape a_o_text a_o_opened a_o_farBy a_o_attendsBy a_o_coveredBy a_o_cameBy a_o_cameThen a_o_fallsBy a_o_loops a_o_ran a_o_told1 o_status o_top o_bottom o_taped o_size o_token o_from o_end o_value o_faultKind o_faultPlace o_faults o_seen o_toldParts o_depth o_counted o_becameThen o_firstCorner o_drawn o_ranSteps o_isTold o_marks (jat o_told1 v1) u31 hu31) [0] cal_X12_gives cav_X12_gives lk_X12_89 cx hP hD hS hl dX12_lived_31 rfl rfl rfl rfl (Nat.le_of_ble_eq_true rfl) ⟨Nat.le_of_ble_eq_true rfl, Nat.le_of_ble_eq_true rfl⟩ rfl (by decide +kernel) rfl [some 0, none] rfl (by decide +kernel) rfl (fun H locs hP hD hS => ?_)
        refine lv_goto (tgt := 43) hx hb dX12_lived_34 (by decide) ?_
        obtain rfl := Option.some.inj hf
        subst hq
        exact retI cx hP hD hS dX12_lived_43
    · have hf := it_f hc hf
      exact hj9 _ _ _ _ hf hP hD hS (lv_sub hl [0] rfl)
def X12_mean_j35 (F : Nat) (o_status : Int32) (o_top : Int64) (o_bottom : Int64) (o_drawn : Int32) (o_ranSteps : Int32) (o_at : Nat → Int32) (o_farBy : Nat → Int32) (o_loops : Nat → Int32) (o_ran : Nat → Int32) : Option (Int32 × Int32 × Int64 × Int64 × Int32 × Int32 × (Nat → Int32) × (Nat → Int32) × (Nat → Int32) × (Nat → Int32)) :=
  (X12_is o_status (1 : Int32)).bind fun u37 =>
  if isZ u37.1 then some (u37.1, u37.2, o_top, o_bottom, o_drawn, o_ranSteps, o_at, o_farBy, o_loops, o_ran) else none
def X12_mean_b71 (F : Nat) (o_status : Int32) (o_top : Int64) (o_bottom : Int64) (v1 : Int32) (v2 : Int32) (st71 : Int64 × Int32 × Int32 × Int32 × (Nat → Int32) × (Nat → Int32) × (Nat → Int32) × (Nat → Int32)) : Option ((Int64 × Int32 × Int32 × Int32 × (Nat → Int32) × (Nat → Int32) × (Nat → Int32) × (Nat → Int32)) ⊕ ((Int64 × Int32 × Int32 × (Nat → Int32) × (Nat → Int32) × (Nat → Int32) × (Nat → Int32)))) :=
  if v2 ≤ st71.2.1 then
  some (.inr (st71.1, st71.2.2.1, st71.2.2.2.1, st71.2.2.2.2.1, st71.2.2.2.2.2.1, st71.2.2.2.2.2.2.1, st71.2.2.2.2.2.2.2))
  else
  (X12_lives F st71.2.2.1 st71.2.2.2.1 st71.2.2.2.2.1 st71.2.2.2.2.2.1 st71.2.2.2.2.2.2.1 st71.2.2.2.2.2.2.2 (v1 + st71.2.1)).bind fun u82 =>
  (X12_allWages F u82.2.2.1).bind fun u87 =>
  (X12_restores F u82.2.2.1 (2475 : Int32)).bind fun u97 =>
  some (.inl ((st71.1 + (u87.toInt64)), (st71.2.1 + 1), u82.1, u82.2.1, u97, u82.2.2.2.1, u82.2.2.2.2.1, u82.2.2.2.2.2))
def X12_mean (F : Nat) (o_status : Int32) (o_top : Int64) (o_bottom : Int64) (o_drawn : Int32) (o_ranSteps : Int32) (o_at : Nat → Int32) (o_farBy : Nat → Int32) (o_loops : Nat → Int32) (o_ran : Nat → Int32) (v1 : Int32) (v2 : Int32) : Option (Int32 × Int32 × Int64 × Int64 × Int32 × Int32 × (Nat → Int32) × (Nat → Int32) × (Nat → Int32) × (Nat → Int32)) :=
  (X12_isFrom (v1.toInt64) (0 : Int64) (9999 : Int64)).bind fun u6 =>
  if u6 = 0 then
  X12_mean_j35 F o_status o_top o_bottom o_drawn o_ranSteps o_at o_farBy o_loops o_ran
  else
  (X12_isFrom (v2.toInt64) (1 : Int64) (20 : Int64)).bind fun u18 =>
  if u18 = 0 then
  X12_mean_j35 F o_status o_top o_bottom o_drawn o_ranSteps o_at o_farBy o_loops o_ran
  else
  if ((v1 + v2) - 1) ≤ 9999 then
  if ix 9 3097 then
  if (jat o_at 9) = (-1) then
  (X12_is o_status (6 : Int32)).bind fun u55 =>
  if isZ u55.1 then some (u55.1, u55.2, o_top, o_bottom, o_drawn, o_ranSteps, o_at, o_farBy, o_loops, o_ran) else none
  else
  (X12_keeps F o_at (2475 : Int32)).bind fun u63 =>
  (iter (X12_mean_b71 F o_status o_top o_bottom v1 v2) F (0, 0, o_drawn, o_ranSteps, u63, o_farBy, o_loops, o_ran)).bind (fun (e71 : Int64 × Int32 × Int32 × (Nat → Int32) × (Nat → Int32) × (Nat → Int32) × (Nat → Int32)) =>
    (X12_tellsBy F o_status o_top o_bottom e71.1 (v2.toInt64)).bind fun u110 =>
  if isZ u110.1 then some (u110.1, u110.2.1, u110.2.2.1, u110.2.2.2, e71.2.1, e71.2.2.1, e71.2.2.2.1, e71.2.2.2.2.1, e71.2.2.2.2.2.1, e71.2.2.2.2.2.2) else none)
  else none
  else
  X12_mean_j35 F o_status o_top o_bottom o_drawn o_ranSteps o_at o_farBy o_loops o_ran
abbrev wd_X12_mean (E : vE) (a_o a_o_at a_o_names a_o_sort a_o_trayMany a_o_trays a_o_tape a_o_text a_o_opened a_o_farBy a_o_attendsBy a_o_coveredBy a_o_cameBy a_o_cameThen a_o_fallsBy a_o_loops a_o_ran a_o_told1 : Nat) (o_status : Int32) (o_top : Int64) (o_bottom : Int64) (o_taped : Int32) (o_size : Int32) (o_token : Int32) (o_from : Int32) (o_end : Int32) (o_value : Int32) (o_faultKind : Int32) (o_faultPlace : Int32) (o_faults : Int32) (o_seen : Int32) (o_toldParts : Int32) (o_depth : Int32) (o_counted : Int32) (o_becameThen : Int32) (o_firstCorner : Int32) (o_drawn : Int32) (o_ranSteps : Int32) (o_isTold : Int32) (o_marks : Int32) (o_at : Nat → Int32) (o_farBy : Nat → Int32) (o_loops : Nat → Int32) (o_ran : Nat → Int32) : va_W := [(a_o, .inr (12, [.ref a_o_at, .ref a_o_names, .int o_status, .long o_top, .long o_bottom, .ref a_o_sort, .ref a_o_trayMany, .ref a_o_trays, .ref a_o_tape, .ref a_o_text, .int o_taped, .int o_size, .int o_token, .int o_from, .int o_end, .int o_value, .int o_faultKind, .int o_faultPlace, .int o_faults, .int o_seen, .int o_toldParts, .ref a_o_opened, .int o_depth, .int o_counted, .ref a_o_farBy, .int o_becameThen, .ref a_o_attendsBy, .ref a_o_coveredBy, .ref a_o_cameBy, .ref a_o_cameThen, .int o_firstCorner, .ref a_o_fallsBy, .int o_drawn, .int o_ranSteps, .ref a_o_loops, .ref a_o_ran, .ref a_o_told1, .int o_isTold, .int o_marks])), (a_o_at, .inl (E.2.1, 3097, .inl o_at)), (a_o_farBy, .inl (E.2.1, 64, .inl o_farBy)), (a_o_loops, .inl (E.2.1, 80, .inl o_loops)), (a_o_ran, .inl (E.2.1, 5, .inl o_ran))]
set_option maxHeartbeats 4000000 in
set_option maxRecDepth 100000 in
theorem ct_X12_mean (l : Launch) (E : vE) (F : Nat) (a_o a_o_at a_o_names a_o_sort a_o_trayMany a_o_trays a_o_tape a_o_text a_o_opened a_o_farBy a_o_attendsBy a_o_coveredBy a_o_cameBy a_o_cameThen a_o_fallsBy a_o_loops a_o_ran a_o_told1 : Nat) (o_status : Int32) (o_top : Int64) (o_bottom : Int64) (o_taped : Int32) (o_size : Int32) (o_token : Int32) (o_from : Int32) (o_end : Int32) (o_value : Int32) (o_faultKind : Int32) (o_faultPlace : Int32) (o_faults : Int32) (o_seen : Int32) (o_toldParts : Int32) (o_depth : Int32) (o_counted : Int32) (o_becameThen : Int32) (o_firstCorner : Int32) (o_drawn : Int32) (o_ranSteps : Int32) (o_isTold : Int32) (o_marks : Int32) (o_at : Nat → Int32) (o_farBy : Nat → Int32) (o_loops : Nat → Int32) (o_ran : Nat → Int32) (v1 : Int32) (v2 : Int32) (u : Int32 × Int32 × Int64 × Int64 × Int32 × Int32 × (Nat → Int32) × (Nat → Int32) × (Nat → Int32) × (Nat → Int32)) (hf : X12_mean F o_status o_top o_bottom o_drawn o_ranSteps o_at o_farBy o_loops o_ran v1 v2 = some u) :
    CtI l yX12_mean cX12_mean 6 (some .boolean) 11 E [.ref a_o, .int v1, .int v2] (wd_X12_mean E a_o a_o_at a_o_names a_o_sort a_o_trayMany a_o_trays a_o_tape a_o_text a_o_opened a_o_farBy a_o_attendsBy a_o_coveredBy a_o_cameBy a_o_cameThen a_o_fallsBy a_o_loops a_o_ran a_o_told1 o_status o_top o_bottom o_taped o_size o_token o_from o_end o_value o_faultKind o_faultPlace o_faults o_seen o_toldParts o_depth o_counted o_becameThen o_firstCorner o_drawn o_ranSteps o_isTold o_marks o_at o_farBy o_loops o_ran) (wd_X12_mean E a_o a_o_at a_o_names a_o_sort a_o_trayMany a_o_trays a_o_tape a_o_text a_o_opened a_o_farBy a_o_attendsBy a_o_coveredBy a_o_cameBy a_o_cameThen a_o_fallsBy a_o_loops a_o_ran a_o_told1 u.2.1 u.2.2.1 u.2.2.2.1 o_taped o_size o_token o_from o_end o_value o_faultKind o_faultPlace o_faults o_seen o_toldParts o_depth o_counted o_becameThen o_firstCorner u.2.2.2.2.1 u.2.2.2.2.2.1 o_isTold o_marks u.2.2.2.2.2.2.1 u.2.2.2.2.2.2.2.1 u.2.2.2.2.2.2.2.2.1 u.2.2.2.2.2.2.2.2.2) u.1 := by
  refine ctI (by decide) (Nat.le_of_ble_eq_true rfl) ?_
  intro p e s m below meth cd A ls aa QQ hq cx hP hD hS hl
  obtain ⟨⟨hx, hb, hml, hown, hts⟩, hr, hlocks, hK, hA, hX⟩ := id cx
  have hl : lv_has ls 6 [(0, .ref a_o), (1, .int v1), (2, .int v2)] := hl
  have hj35 : ∀ (o_status_j35 : Int32) (o_top_j35 : Int64) (o_bottom_j35 : Int64) (o_drawn_j35 : Int32) (o_ranSteps_j35 : Int32) (o_at_j35 : Nat → Int32) (o_farBy_j35 : Nat → Int32) (o_loops_j35 : Nat → Int32) (o_ran_j35 : Nat → Int32) (H : Heap) (locs : List Loc) (ls : Array Slot), X12_mean_j35 F o_status_j35 o_top_j35 o_bottom_j35 o_drawn_j35 o_ranSteps_j35 o_at_j35 o_farBy_j35 o_loops_j35 o_ran_j35 = some u → va_P E.1 vwCl (wd_X12_mean E a_o a_o_at a_o_names a_o_sort a_o_trayMany a_o_trays a_o_tape a_o_text a_o_opened a_o_farBy a_o_attendsBy a_o_coveredBy a_o_cameBy a_o_cameThen a_o_fallsBy a_o_loops a_o_ran a_o_told1 o_status_j35 o_top_j35 o_bottom_j35 o_taped o_size o_token o_from o_end o_value o_faultKind o_faultPlace o_faults o_seen o_toldParts o_depth o_counted o_becameThen o_firstCorner o_drawn_j35 o_ranSteps_j35 o_isTold o_marks o_at_j35 o_farBy_j35 o_loops_j35 o_ran_j35) H → va_D A (wd_X12_mean E a_o a_o_at a_o_names a_o_sort a_o_trayMany a_o_trays a_o_tape a_o_text a_o_opened a_o_farBy a_o_attendsBy a_o_coveredBy a_o_cameBy a_o_cameThen a_o_fallsBy a_o_loops a_o_ran a_o_told1 o_status_j35 o_top_j35 o_bottom_j35 o_taped o_size o_token o_from o_end o_value o_faultKind o_faultPlace o_faults o_seen o_toldParts o_depth o_counted o_becameThen o_firstCorner o_drawn_j35 o_ranSteps_j35 o_isTold o_marks o_at_j35 o_farBy_j35 o_loops_j35 o_ran_j35) → va_S A s.heap H locs → lv_has ls 6 [(0, .ref a_o)] → W p l e (rmd 11) s m aa below meth cd H locs 0 0 QQ (F0 m 35 ls []) := by
    intro o_status_j35 o_top_j35 o_bottom_j35 o_drawn_j35 o_ranSteps_j35 o_at_j35 o_farBy_j35 o_loops_j35 o_ran_j35 H locs ls hf hP hD hS hl
    unfold X12_mean_j35 at hf
    refine lv_aload_n hx hb dX12_mean_35 rfl (lv_at hl 0 rfl) ?_
    refine lv_iconst (v := 1) hx hb dX12_mean_36 (by decide) ?_
    obtain ⟨u37, hu37, hf⟩ := bd hf
    refine callVI (wn := (wd_X12_mean E a_o a_o_at a_o_names a_o_sort a_o_trayMany a_o_trays a_o_tape a_o_text a_o_opened a_o_farBy a_o_attendsBy a_o_coveredBy a_o_cameBy a_o_cameThen a_o_fallsBy a_o_loops a_o_ran a_o_told1 u37.2 o_top_j35 o_bottom_j35 o_taped o_size o_token o_from o_end o_value o_faultKind o_faultPlace o_faults o_seen o_toldParts o_depth o_counted o_becameThen o_firstCorner o_drawn_j35 o_ranSteps_j35 o_isTold o_marks o_at_j35 o_farBy_j35 o_loops_j35 o_ran_j35)) (n1 := 5) (ct_X12_is l E a_o a_o_at a_o_names a_o_sort a_o_trayMany a_o_trays a_o_tape a_o_text a_o_opened a_o_farBy a_o_attendsBy a_o_coveredBy a_o_cameBy a_o_cameThen a_o_fallsBy a_o_loops a_o_ran a_o_told1 o_status_j35 o_top_j35 o_bottom_j35 o_taped o_size o_token o_from o_end o_value o_faultKind o_faultPlace o_faults o_seen o_toldParts o_depth o_counted o_becameThen o_firstCorner o_drawn_j35 o_ranSteps_j35 o_isTold o_marks (1 : Int32) u37 hu37) [0] cal_X12_is cav_X12_is lk_X12_92 cx hP hD hS hl dX12_mean_37 rfl rfl rfl rfl (Nat.le_of_ble_eq_true rfl) ⟨Nat.le_of_ble_eq_true rfl, Nat.le_of_ble_eq_true rfl⟩ rfl (by decide +kernel) rfl [some 0, none, none, none, none] rfl (by decide +kernel) rfl (fun H locs hP hD hS => ?_)
    obtain ⟨hz, hf⟩ := ck hf
    obtain rfl := Option.some.inj hf
    subst hq
    exact retZ cx hz hP hD hS dX12_mean_40
  unfold X12_mean at hf
  refine lv_iload_n hx hb dX12_mean_0 rfl (lv_at hl 1 rfl) ?_
  refine lv_i2l (v := (v1.toInt64)) hx hb dX12_mean_1 rfl ?_
  refine lv_lconst (v := 0) hx hb dX12_mean_2 (by decide) ?_
  refine lv_ldc2 (v := 9999) hx hb hown (hts _ kl_X12_499) dX12_mean_3 ?_
  obtain ⟨u6, hu6, hf⟩ := bd hf
  refine keepSI (ct_X12_isFrom l E (v1.toInt64) (0 : Int64) (9999 : Int64) u6 hu6) [] cal_X12_isFrom sta_X12_isFrom lk_X12_359 cx hP hD hS hl dX12_mean_6 rfl rfl (Nat.le_of_ble_eq_true rfl) ⟨Nat.le_of_ble_eq_true rfl, Nat.le_of_ble_eq_true rfl⟩ rfl (by decide) (fun H locs hP hS => ?_)
  refine lv_if_eq (tgt := 35) hx hb dX12_mean_9 (by decide) (fun hc => ?_) (fun hc => ?_)
  · have hf := it_t hc hf
    exact hj35 _ _ _ _ _ _ _ _ _ _ _ _ hf hP hD hS (lv_sub hl [0] rfl)
  · have hf := it_f hc hf
    refine lv_iload_n hx hb dX12_mean_12 rfl (lv_at hl 2 rfl) ?_
    refine lv_i2l (v := (v2.toInt64)) hx hb dX12_mean_13 rfl ?_
    refine lv_lconst (v := 1) hx hb dX12_mean_14 (by decide) ?_
    refine lv_ldc2 (v := 20) hx hb hown (hts _ kl_X12_432) dX12_mean_15 ?_
    obtain ⟨u18, hu18, hf⟩ := bd hf
    refine keepSI (ct_X12_isFrom l E (v2.toInt64) (1 : Int64) (20 : Int64) u18 hu18) [] cal_X12_isFrom sta_X12_isFrom lk_X12_359 cx hP hD hS hl dX12_mean_18 rfl rfl (Nat.le_of_ble_eq_true rfl) ⟨Nat.le_of_ble_eq_true rfl, Nat.le_of_ble_eq_true rfl⟩ rfl (by decide) (fun H locs hP hS => ?_)
    refine lv_if_eq (tgt := 35) hx hb dX12_mean_21 (by decide) (fun hc => ?_) (fun hc => ?_)
    · have hf := it_t hc hf
      exact hj35 _ _ _ _ _ _ _ _ _ _ _ _ hf hP hD hS (lv_sub hl [0] rfl)
    · have hf := it_f hc hf
      refine lv_iload_n hx hb dX12_mean_24 rfl (lv_at hl 1 rfl) ?_
      refine lv_iload_n hx hb dX12_mean_25 rfl (lv_at hl 2 rfl) ?_
      refine lv_iadd hx hb dX12_mean_26 ?_
      refine lv_iconst (v := 1) hx hb dX12_mean_27 (by decide) ?_
      refine lv_isub hx hb dX12_mean_28 ?_
      refine lv_sipush (v := 9999) hx hb dX12_mean_29 (by decide) ?_
      refine lv_icmp_le (tgt := 41) hx hb dX12_mean_32 (by decide) (fun hc => ?_) (fun hc => ?_)
      · have hf := it_t hc hf
        refine lv_aload_n hx hb dX12_mean_41 rfl (lv_at hl 0 rfl) ?_
        refine va_get (D := E.1) (ci := 12) (v := .ref a_o_at) (C := RX12) (T := TX12) (N := 39) hx hb hts inX12 hown hK hP 0 rfl rfl 0 (by decide) (hts _ fl_X12_7) (fun _ h9 => h9) rfl dX12_mean_42 ?_
        refine lv_bipush (v := 9) hx hb dX12_mean_45 (by decide) ?_
        obtain ⟨hi, hf⟩ := ck hf
        refine r_iald 1 cx hP rfl hi dX12_mean_47 ?_
        refine lv_iconst (v := (-1)) hx hb dX12_mean_48 (by decide) ?_
        refine lv_icmp_ne (tgt := 59) hx hb dX12_mean_49 (by decide) (fun hc => ?_) (fun hc => ?_)
        · have hf := it_f hc hf
          refine lv_aload_n hx hb dX12_mean_59 rfl (lv_at hl 0 rfl) ?_
          refine lv_sipush (v := 2475) hx hb dX12_mean_60 (by decide) ?_
          obtain ⟨u63, hu63, hf⟩ := bd hf
          refine callVV (wn := (wd_X12_mean E a_o a_o_at a_o_names a_o_sort a_o_trayMany a_o_trays a_o_tape a_o_text a_o_opened a_o_farBy a_o_attendsBy a_o_coveredBy a_o_cameBy a_o_cameThen a_o_fallsBy a_o_loops a_o_ran a_o_told1 o_status o_top o_bottom o_taped o_size o_token o_from o_end o_value o_faultKind o_faultPlace o_faults o_seen o_toldParts o_depth o_counted o_becameThen o_firstCorner o_drawn o_ranSteps o_isTold o_marks u63 o_farBy o_loops o_ran)) (n1 := 5) (ct_X12_keeps l E F a_o a_o_at a_o_names a_o_sort a_o_trayMany a_o_trays a_o_tape a_o_text a_o_opened a_o_farBy a_o_attendsBy a_o_coveredBy a_o_cameBy a_o_cameThen a_o_fallsBy a_o_loops a_o_ran a_o_told1 o_status o_top o_bottom o_taped o_size o_token o_from o_end o_value o_faultKind o_faultPlace o_faults o_seen o_toldParts o_depth o_counted o_becameThen o_firstCorner o_drawn o_ranSteps o_isTold o_marks o_at (2475 : Int32) u63 hu63) [0, 1] cal_X12_keeps cav_X12_keeps lk_X12_381 cx hP hD hS hl dX12_mean_63 rfl rfl rfl rfl (Nat.le_of_ble_eq_true rfl) ⟨Nat.le_of_ble_eq_true rfl, Nat.le_of_ble_eq_true rfl⟩ rfl (by decide +kernel) rfl [some 0, some 1, none, none, none] rfl (by decide +kernel) rfl (fun H locs hP hD hS => ?_)
          refine lv_lconst (v := 0) hx hb dX12_mean_66 (by decide) ?_
          refine lv_lstore_n (lv' := [(3, .long 0), (0, .ref a_o), (1, .int v1), (2, .int v2)]) hx hb dX12_mean_67 rfl hl (by decide) rfl (fun ls hl => ?_)
          refine lv_iconst (v := 0) hx hb dX12_mean_68 (by decide) ?_
          refine lv_istore (lv' := [(5, .int 0), (3, .long 0), (0, .ref a_o), (1, .int v1), (2, .int v2)]) hx hb dX12_mean_69 hl (by decide) rfl (fun ls hl => ?_)
          obtain ⟨e71, hit71, hf⟩ := bd hf
          refine iter_W (b := X12_mean_b71 F o_status o_top o_bottom v1 v2) (P := fun st71 => ∀ (H : Heap) (locs : List Loc) (ls : Array Slot), va_P E.1 vwCl (wd_X12_mean E a_o a_o_at a_o_names a_o_sort a_o_trayMany a_o_trays a_o_tape a_o_text a_o_opened a_o_farBy a_o_attendsBy a_o_coveredBy a_o_cameBy a_o_cameThen a_o_fallsBy a_o_loops a_o_ran a_o_told1 o_status o_top o_bottom o_taped o_size o_token o_from o_end o_value o_faultKind o_faultPlace o_faults o_seen o_toldParts o_depth o_counted o_becameThen o_firstCorner st71.2.2.1 st71.2.2.2.1 o_isTold o_marks st71.2.2.2.2.1 st71.2.2.2.2.2.1 st71.2.2.2.2.2.2.1 st71.2.2.2.2.2.2.2) H → va_D A (wd_X12_mean E a_o a_o_at a_o_names a_o_sort a_o_trayMany a_o_trays a_o_tape a_o_text a_o_opened a_o_farBy a_o_attendsBy a_o_coveredBy a_o_cameBy a_o_cameThen a_o_fallsBy a_o_loops a_o_ran a_o_told1 o_status o_top o_bottom o_taped o_size o_token o_from o_end o_value o_faultKind o_faultPlace o_faults o_seen o_toldParts o_depth o_counted o_becameThen o_firstCorner st71.2.2.1 st71.2.2.2.1 o_isTold o_marks st71.2.2.2.2.1 st71.2.2.2.2.2.1 st71.2.2.2.2.2.2.1 st71.2.2.2.2.2.2.2) → va_S A s.heap H locs → lv_has ls 6 [(0, .ref a_o), (1, .int v1), (2, .int v2), (3, .long st71.1), (5, .int st71.2.1)] → W p l e (rmd 11) s m aa below meth cd H locs 0 0 QQ (F0 m 71 ls [])) (G := (fun (e71 : Int64 × Int32 × Int32 × (Nat → Int32) × (Nat → Int32) × (Nat → Int32) × (Nat → Int32)) => ∀ (H : Heap) (locs : List Loc) (ls : Array Slot), va_P E.1 vwCl (wd_X12_mean E a_o a_o_at a_o_names a_o_sort a_o_trayMany a_o_trays a_o_tape a_o_text a_o_opened a_o_farBy a_o_attendsBy a_o_coveredBy a_o_cameBy a_o_cameThen a_o_fallsBy a_o_loops a_o_ran a_o_told1 o_status o_top o_bottom o_taped o_size o_token o_from o_end o_value o_faultKind o_faultPlace o_faults o_seen o_toldParts o_depth o_counted o_becameThen o_firstCorner e71.2.1 e71.2.2.1 o_isTold o_marks e71.2.2.2.1 e71.2.2.2.2.1 e71.2.2.2.2.2.1 e71.2.2.2.2.2.2) H → va_D A (wd_X12_mean E a_o a_o_at a_o_names a_o_sort a_o_trayMany a_o_trays a_o_tape a_o_text a_o_opened a_o_farBy a_o_attendsBy a_o_coveredBy a_o_cameBy a_o_cameThen a_o_fallsBy a_o_loops a_o_ran a_o_told1 o_status o_top o_bottom o_taped o_size o_token o_from o_end o_value o_faultKind o_faultPlace o_faults o_seen o_toldParts o_depth o_counted o_becameThen o_firstCorner e71.2.1 e71.2.2.1 o_isTold o_marks e71.2.2.2.1 e71.2.2.2.2.1 e71.2.2.2.2.2.1 e71.2.2.2.2.2.2) → va_S A s.heap H locs → lv_has ls 6 [(0, .ref a_o), (2, .int v2), (3, .long e71.1)] → W p l e (rmd 11) s m aa below meth cd H locs 0 0 QQ (F0 m 106 ls []))) ?_ F (0, 0, o_drawn, o_ranSteps, u63, o_farBy, o_loops, o_ran) e71 hit71 ?_ _ _ _ hP hD hS (lv_sub hl [2, 3, 4, 1, 0] rfl)
          · intro st71 r71 hf hk71 he71 H locs ls hP hD hS hl
            unfold X12_mean_b71 at hf
            refine lv_iload hx hb dX12_mean_71 (lv_at hl 4 rfl) ?_
            refine lv_iload_n hx hb dX12_mean_73 rfl (lv_at hl 2 rfl) ?_
            refine lv_icmp_ge (tgt := 106) hx hb dX12_mean_74 (by decide) (fun hc => ?_) (fun hc => ?_)
            · have hf := it_t hc hf
              exact he71 _ (Option.some.inj hf).symm _ _ _ hP hD hS (lv_sub hl [0, 2, 3] rfl)
            · have hf := it_f hc hf
              refine lv_aload_n hx hb dX12_mean_77 rfl (lv_at hl 0 rfl) ?_
              refine lv_iload_n hx hb dX12_mean_78 rfl (lv_at hl 1 rfl) ?_
              refine lv_iload hx hb dX12_mean_79 (lv_at hl 4 rfl) ?_
              refine lv_iadd hx hb dX12_mean_81 ?_
              obtain ⟨u82, hu82, hf⟩ := bd hf
              refine callVV (wn := (wd_X12_mean E a_o a_o_at a_o_names a_o_sort a_o_trayMany a_o_trays a_o_tape a_o_text a_o_opened a_o_farBy a_o_attendsBy a_o_coveredBy a_o_cameBy a_o_cameThen a_o_fallsBy a_o_loops a_o_ran a_o_told1 o_status o_top o_bottom o_taped o_size o_token o_from o_end o_value o_faultKind o_faultPlace o_faults o_seen o_toldParts o_depth o_counted o_becameThen o_firstCorner u82.1 u82.2.1 o_isTold o_marks u82.2.2.1 u82.2.2.2.1 u82.2.2.2.2.1 u82.2.2.2.2.2)) (n1 := 5) (ct_X12_lives l E F a_o a_o_at a_o_names a_o_sort a_o_trayMany a_o_trays a_o_tape a_o_text a_o_opened a_o_farBy a_o_attendsBy a_o_coveredBy a_o_cameBy a_o_cameThen a_o_fallsBy a_o_loops a_o_ran a_o_told1 o_status o_top o_bottom o_taped o_size o_token o_from o_end o_value o_faultKind o_faultPlace o_faults o_seen o_toldParts o_depth o_counted o_becameThen o_firstCorner st71.2.2.1 st71.2.2.2.1 o_isTold o_marks st71.2.2.2.2.1 st71.2.2.2.2.2.1 st71.2.2.2.2.2.2.1 st71.2.2.2.2.2.2.2 (v1 + st71.2.1) u82 hu82) [0, 1, 2, 3, 4] cal_X12_lives cav_X12_lives lk_X12_501 cx hP hD hS hl dX12_mean_82 rfl rfl rfl rfl (Nat.le_of_ble_eq_true rfl) ⟨Nat.le_of_ble_eq_true rfl, Nat.le_of_ble_eq_true rfl⟩ rfl (by decide +kernel) rfl [some 0, some 1, some 2, some 3, some 4] rfl (by decide +kernel) rfl (fun H locs hP hD hS => ?_)
              refine lv_lload_n hx hb dX12_mean_85 rfl (lv_at hl 3 rfl) ?_
              refine lv_aload_n hx hb dX12_mean_86 rfl (lv_at hl 0 rfl) ?_
              obtain ⟨u87, hu87, hf⟩ := bd hf
              refine keepVI (ct_X12_allWages l E F a_o a_o_at a_o_names a_o_sort a_o_trayMany a_o_trays a_o_tape a_o_text a_o_opened a_o_farBy a_o_attendsBy a_o_coveredBy a_o_cameBy a_o_cameThen a_o_fallsBy a_o_loops a_o_ran a_o_told1 o_status o_top o_bottom o_taped o_size o_token o_from o_end o_value o_faultKind o_faultPlace o_faults o_seen o_toldParts o_depth o_counted o_becameThen o_firstCorner u82.1 u82.2.1 o_isTold o_marks u82.2.2.1 u87 hu87) [0, 1] cal_X12_allWages cav_X12_allWages lk_X12_290 cx hP hD hS hl dX12_mean_87 rfl rfl rfl rfl (Nat.le_of_ble_eq_true rfl) ⟨Nat.le_of_ble_eq_true rfl, Nat.le_of_ble_eq_true rfl⟩ rfl (by decide) (fun H locs hP hS => ?_)
              refine lv_i2l (v := (u87.toInt64)) hx hb dX12_mean_90 rfl ?_
              refine lv_ladd hx hb dX12_mean_91 ?_
              refine lv_lstore_n (lv' := [(3, .long (st71.1 + (u87.toInt64))), (0, .ref a_o), (1, .int v1), (2, .int v2), (5, .int st71.2.1)]) hx hb dX12_mean_92 rfl hl (by decide) rfl (fun ls hl => ?_)
              refine lv_aload_n hx hb dX12_mean_93 rfl (lv_at hl 1 rfl) ?_
              refine lv_sipush (v := 2475) hx hb dX12_mean_94 (by decide) ?_
              obtain ⟨u97, hu97, hf⟩ := bd hf
              refine callVV (wn := (wd_X12_mean E a_o a_o_at a_o_names a_o_sort a_o_trayMany a_o_trays a_o_tape a_o_text a_o_opened a_o_farBy a_o_attendsBy a_o_coveredBy a_o_cameBy a_o_cameThen a_o_fallsBy a_o_loops a_o_ran a_o_told1 o_status o_top o_bottom o_taped o_size o_token o_from o_end o_value o_faultKind o_faultPlace o_faults o_seen o_toldParts o_depth o_counted o_becameThen o_firstCorner u82.1 u82.2.1 o_isTold o_marks u97 u82.2.2.2.1 u82.2.2.2.2.1 u82.2.2.2.2.2)) (n1 := 5) (ct_X12_restores l E F a_o a_o_at a_o_names a_o_sort a_o_trayMany a_o_trays a_o_tape a_o_text a_o_opened a_o_farBy a_o_attendsBy a_o_coveredBy a_o_cameBy a_o_cameThen a_o_fallsBy a_o_loops a_o_ran a_o_told1 o_status o_top o_bottom o_taped o_size o_token o_from o_end o_value o_faultKind o_faultPlace o_faults o_seen o_toldParts o_depth o_counted o_becameThen o_firstCorner u82.1 u82.2.1 o_isTold o_marks u82.2.2.1 (2475 : Int32) u97 hu97) [0, 1] cal_X12_restores cav_X12_restores lk_X12_384 cx hP hD hS hl dX12_mean_97 rfl rfl rfl rfl (Nat.le_of_ble_eq_true rfl) ⟨Nat.le_of_ble_eq_true rfl, Nat.le_of_ble_eq_true rfl⟩ rfl (by decide +kernel) rfl [some 0, some 1, none, none, none] rfl (by decide +kernel) rfl (fun H locs hP hD hS => ?_)
              refine lv_iinc (v := (st71.2.1 + 1)) (lv' := [(5, .int (st71.2.1 + 1)), (3, .long (st71.1 + (u87.toInt64))), (0, .ref a_o), (1, .int v1), (2, .int v2)]) hx hb dX12_mean_100 hl (k := 4) rfl rfl (by decide) rfl (fun ls hl => ?_)
              refine lv_goto (tgt := 71) hx hb dX12_mean_103 (by decide) ?_
              exact hk71 _ (Option.some.inj hf).symm _ _ _ hP hD hS (lv_sub hl [2, 3, 4, 1, 0] rfl)
          · refine fun H locs ls hP hD hS hl => ?_
            refine lv_aload_n hx hb dX12_mean_106 rfl (lv_at hl 0 rfl) ?_
            refine lv_lload_n hx hb dX12_mean_107 rfl (lv_at hl 2 rfl) ?_
            refine lv_iload_n hx hb dX12_mean_108 rfl (lv_at hl 1 rfl) ?_
            refine lv_i2l (v := (v2.toInt64)) hx hb dX12_mean_109 rfl ?_
            obtain ⟨u110, hu110, hf⟩ := bd hf
            refine callVI (wn := (wd_X12_mean E a_o a_o_at a_o_names a_o_sort a_o_trayMany a_o_trays a_o_tape a_o_text a_o_opened a_o_farBy a_o_attendsBy a_o_coveredBy a_o_cameBy a_o_cameThen a_o_fallsBy a_o_loops a_o_ran a_o_told1 u110.2.1 u110.2.2.1 u110.2.2.2 o_taped o_size o_token o_from o_end o_value o_faultKind o_faultPlace o_faults o_seen o_toldParts o_depth o_counted o_becameThen o_firstCorner e71.2.1 e71.2.2.1 o_isTold o_marks e71.2.2.2.1 e71.2.2.2.2.1 e71.2.2.2.2.2.1 e71.2.2.2.2.2.2)) (n1 := 5) (ct_X12_tellsBy l E F a_o a_o_at a_o_names a_o_sort a_o_trayMany a_o_trays a_o_tape a_o_text a_o_opened a_o_farBy a_o_attendsBy a_o_coveredBy a_o_cameBy a_o_cameThen a_o_fallsBy a_o_loops a_o_ran a_o_told1 o_status o_top o_bottom o_taped o_size o_token o_from o_end o_value o_faultKind o_faultPlace o_faults o_seen o_toldParts o_depth o_counted o_becameThen o_firstCorner e71.2.1 e71.2.2.1 o_isTold o_marks e71.1 (v2.toInt64) u110 hu110) [0] cal_X12_tellsBy cav_X12_tellsBy lk_X12_464 cx hP hD hS hl dX12_mean_110 rfl rfl rfl rfl (Nat.le_of_ble_eq_true rfl) ⟨Nat.le_of_ble_eq_true rfl, Nat.le_of_ble_eq_true rfl⟩ rfl (by decide +kernel) rfl [some 0, none, none, none, none] rfl (by decide +kernel) rfl (fun H locs hP hD hS => ?_)
            obtain ⟨hz, hf⟩ := ck hf
            obtain rfl := Option.some.inj hf
            subst hq
            exact retZ cx hz hP hD hS dX12_mean_113
        · have hf := it_t hc hf
          refine lv_aload_n hx hb dX12_mean_52 rfl (lv_at hl 0 rfl) ?_
          refine lv_bipush (v := 6) hx hb dX12_mean_53 (by decide) ?_
          obtain ⟨u55, hu55, hf⟩ := bd hf
          refine callVI (wn := (wd_X12_mean E a_o a_o_at a_o_names a_o_sort a_o_trayMany a_o_trays a_o_tape a_o_text a_o_opened a_o_farBy a_o_attendsBy a_o_coveredBy a_o_cameBy a_o_cameThen a_o_fallsBy a_o_loops a_o_ran a_o_told1 u55.2 o_top o_bottom o_taped o_size o_token o_from o_end o_value o_faultKind o_faultPlace o_faults o_seen o_toldParts o_depth o_counted o_becameThen o_firstCorner o_drawn o_ranSteps o_isTold o_marks o_at o_farBy o_loops o_ran)) (n1 := 5) (ct_X12_is l E a_o a_o_at a_o_names a_o_sort a_o_trayMany a_o_trays a_o_tape a_o_text a_o_opened a_o_farBy a_o_attendsBy a_o_coveredBy a_o_cameBy a_o_cameThen a_o_fallsBy a_o_loops a_o_ran a_o_told1 o_status o_top o_bottom o_taped o_size o_token o_from o_end o_value o_faultKind o_faultPlace o_faults o_seen o_toldParts o_depth o_counted o_becameThen o_firstCorner o_drawn o_ranSteps o_isTold o_marks (6 : Int32) u55 hu55) [0] cal_X12_is cav_X12_is lk_X12_92 cx hP hD hS hl dX12_mean_55 rfl rfl rfl rfl (Nat.le_of_ble_eq_true rfl) ⟨Nat.le_of_ble_eq_true rfl, Nat.le_of_ble_eq_true rfl⟩ rfl (by decide +kernel) rfl [some 0, none, none, none, none] rfl (by decide +kernel) rfl (fun H locs hP hD hS => ?_)
          obtain ⟨hz, hf⟩ := ck hf
          obtain rfl := Option.some.inj hf
          subst hq
          exact retZ cx hz hP hD hS dX12_mean_58
      · have hf := it_f hc hf
        exact hj35 _ _ _ _ _ _ _ _ _ _ _ _ hf hP hD hS (lv_sub hl [0] rfl)
def X12_copies_b2 (F : Nat) (o_names : Nat → Int64) (v1 : Int32) (v2 : Int32) (st2 : Int32 × (Nat → Int32)) : Option ((Int32 × (Nat → Int32)) ⊕ (((Nat → Int32)))) :=
  if (495 : Int32) ≤ st2.1 then
  some (.inr st2.2)
  else
  if ix ((495 * v1) + st2.1) 3097 then
  if ix ((495 * v2) + st2.1) 3097 then
  some (.inl ((st2.1 + 1), (jput st2.2 ((495 * v2) + st2.1) (jat st2.2 ((495 * v1) + st2.1)))))
  else none
  else none
def X12_copies_b41 (F : Nat) (o_at : Nat → Int32) (v1 : Int32) (v2 : Int32) (st41 : Int32 × (Nat → Int64)) : Option ((Int32 × (Nat → Int64)) ⊕ (((Nat → Int64)))) :=
  if (27 : Int32) ≤ st41.1 then
  some (.inr st41.2)
  else
  if ix ((27 * v1) + st41.1) 162 then
  if ix ((27 * v2) + st41.1) 162 then
  some (.inl ((st41.1 + 1), (jputL st41.2 ((27 * v2) + st41.1) (jat st41.2 ((27 * v1) + st41.1)))))
  else none
  else none
def X12_copies (F : Nat) (o_at : Nat → Int32) (o_names : Nat → Int64) (v1 : Int32) (v2 : Int32) : Option ((Nat → Int32) × (Nat → Int64)) :=
  (iter (X12_copies_b2 F o_names v1 v2) F (0, o_at)).bind (fun (e2 : (Nat → Int32)) =>
    (iter (X12_copies_b41 F e2 v1 v2) F (0, o_names)).bind (fun (e41 : (Nat → Int64)) =>
    some (e2, e41)))
abbrev wd_X12_copies (E : vE) (a_o a_o_at a_o_names a_o_sort a_o_trayMany a_o_trays a_o_tape a_o_text a_o_opened a_o_farBy a_o_attendsBy a_o_coveredBy a_o_cameBy a_o_cameThen a_o_fallsBy a_o_loops a_o_ran a_o_told1 : Nat) (o_status : Int32) (o_top : Int64) (o_bottom : Int64) (o_taped : Int32) (o_size : Int32) (o_token : Int32) (o_from : Int32) (o_end : Int32) (o_value : Int32) (o_faultKind : Int32) (o_faultPlace : Int32) (o_faults : Int32) (o_seen : Int32) (o_toldParts : Int32) (o_depth : Int32) (o_counted : Int32) (o_becameThen : Int32) (o_firstCorner : Int32) (o_drawn : Int32) (o_ranSteps : Int32) (o_isTold : Int32) (o_marks : Int32) (o_at : Nat → Int32) (o_names : Nat → Int64) : va_W := [(a_o, .inr (12, [.ref a_o_at, .ref a_o_names, .int o_status, .long o_top, .long o_bottom, .ref a_o_sort, .ref a_o_trayMany, .ref a_o_trays, .ref a_o_tape, .ref a_o_text, .int o_taped, .int o_size, .int o_token, .int o_from, .int o_end, .int o_value, .int o_faultKind, .int o_faultPlace, .int o_faults, .int o_seen, .int o_toldParts, .ref a_o_opened, .int o_depth, .int o_counted, .ref a_o_farBy, .int o_becameThen, .ref a_o_attendsBy, .ref a_o_coveredBy, .ref a_o_cameBy, .ref a_o_cameThen, .int o_firstCorner, .ref a_o_fallsBy, .int o_drawn, .int o_ranSteps, .ref a_o_loops, .ref a_o_ran, .ref a_o_told1, .int o_isTold, .int o_marks])), (a_o_at, .inl (E.2.1, 3097, .inl o_at)), (a_o_names, .inl (E.2.2.1, 162, .inr (.inl o_names)))]
set_option maxHeartbeats 4000000 in
set_option maxRecDepth 100000 in
theorem ct_X12_copies (l : Launch) (E : vE) (F : Nat) (a_o a_o_at a_o_names a_o_sort a_o_trayMany a_o_trays a_o_tape a_o_text a_o_opened a_o_farBy a_o_attendsBy a_o_coveredBy a_o_cameBy a_o_cameThen a_o_fallsBy a_o_loops a_o_ran a_o_told1 : Nat) (o_status : Int32) (o_top : Int64) (o_bottom : Int64) (o_taped : Int32) (o_size : Int32) (o_token : Int32) (o_from : Int32) (o_end : Int32) (o_value : Int32) (o_faultKind : Int32) (o_faultPlace : Int32) (o_faults : Int32) (o_seen : Int32) (o_toldParts : Int32) (o_depth : Int32) (o_counted : Int32) (o_becameThen : Int32) (o_firstCorner : Int32) (o_drawn : Int32) (o_ranSteps : Int32) (o_isTold : Int32) (o_marks : Int32) (o_at : Nat → Int32) (o_names : Nat → Int64) (v1 : Int32) (v2 : Int32) (u : (Nat → Int32) × (Nat → Int64)) (hf : X12_copies F o_at o_names v1 v2 = some u) :
    CtV l yX12_copies cX12_copies 4 none 0 E [.ref a_o, .int v1, .int v2] (wd_X12_copies E a_o a_o_at a_o_names a_o_sort a_o_trayMany a_o_trays a_o_tape a_o_text a_o_opened a_o_farBy a_o_attendsBy a_o_coveredBy a_o_cameBy a_o_cameThen a_o_fallsBy a_o_loops a_o_ran a_o_told1 o_status o_top o_bottom o_taped o_size o_token o_from o_end o_value o_faultKind o_faultPlace o_faults o_seen o_toldParts o_depth o_counted o_becameThen o_firstCorner o_drawn o_ranSteps o_isTold o_marks o_at o_names) (wd_X12_copies E a_o a_o_at a_o_names a_o_sort a_o_trayMany a_o_trays a_o_tape a_o_text a_o_opened a_o_farBy a_o_attendsBy a_o_coveredBy a_o_cameBy a_o_cameThen a_o_fallsBy a_o_loops a_o_ran a_o_told1 o_status o_top o_bottom o_taped o_size o_token o_from o_end o_value o_faultKind o_faultPlace o_faults o_seen o_toldParts o_depth o_counted o_becameThen o_firstCorner o_drawn o_ranSteps o_isTold o_marks u.1 u.2) := by
  refine ctV (by decide) (Nat.le_of_ble_eq_true rfl) ?_
  intro p e s m below meth cd A ls aa QQ hq cx hP hD hS hl
  obtain ⟨⟨hx, hb, hml, hown, hts⟩, hr, hlocks, hK, hA, hX⟩ := id cx
  have hl : lv_has ls 4 [(0, .ref a_o), (1, .int v1), (2, .int v2)] := hl
  unfold X12_copies at hf
  refine lv_iconst (v := 0) hx hb dX12_copies_0 (by decide) ?_
  refine lv_istore_n (lv' := [(3, .int 0), (0, .ref a_o), (1, .int v1), (2, .int v2)]) hx hb dX12_copies_1 rfl hl (by decide) rfl (fun ls hl => ?_)
  obtain ⟨e2, hit2, hf⟩ := bd hf
  refine iter_W (b := X12_copies_b2 F o_names v1 v2) (P := fun st2 => ∀ (H : Heap) (locs : List Loc) (ls : Array Slot), va_P E.1 vwCl (wd_X12_copies E a_o a_o_at a_o_names a_o_sort a_o_trayMany a_o_trays a_o_tape a_o_text a_o_opened a_o_farBy a_o_attendsBy a_o_coveredBy a_o_cameBy a_o_cameThen a_o_fallsBy a_o_loops a_o_ran a_o_told1 o_status o_top o_bottom o_taped o_size o_token o_from o_end o_value o_faultKind o_faultPlace o_faults o_seen o_toldParts o_depth o_counted o_becameThen o_firstCorner o_drawn o_ranSteps o_isTold o_marks st2.2 o_names) H → va_D A (wd_X12_copies E a_o a_o_at a_o_names a_o_sort a_o_trayMany a_o_trays a_o_tape a_o_text a_o_opened a_o_farBy a_o_attendsBy a_o_coveredBy a_o_cameBy a_o_cameThen a_o_fallsBy a_o_loops a_o_ran a_o_told1 o_status o_top o_bottom o_taped o_size o_token o_from o_end o_value o_faultKind o_faultPlace o_faults o_seen o_toldParts o_depth o_counted o_becameThen o_firstCorner o_drawn o_ranSteps o_isTold o_marks st2.2 o_names) → va_S A s.heap H locs → lv_has ls 4 [(0, .ref a_o), (1, .int v1), (2, .int v2), (3, .int st2.1)] → W p l e (rmd 0) s m aa below meth cd H locs 0 0 QQ (F0 m 2 ls [])) (G := (fun (e2 : (Nat → Int32)) => ∀ (H : Heap) (locs : List Loc) (ls : Array Slot), va_P E.1 vwCl (wd_X12_copies E a_o a_o_at a_o_names a_o_sort a_o_trayMany a_o_trays a_o_tape a_o_text a_o_opened a_o_farBy a_o_attendsBy a_o_coveredBy a_o_cameBy a_o_cameThen a_o_fallsBy a_o_loops a_o_ran a_o_told1 o_status o_top o_bottom o_taped o_size o_token o_from o_end o_value o_faultKind o_faultPlace o_faults o_seen o_toldParts o_depth o_counted o_becameThen o_firstCorner o_drawn o_ranSteps o_isTold o_marks e2 o_names) H → va_D A (wd_X12_copies E a_o a_o_at a_o_names a_o_sort a_o_trayMany a_o_trays a_o_tape a_o_text a_o_opened a_o_farBy a_o_attendsBy a_o_coveredBy a_o_cameBy a_o_cameThen a_o_fallsBy a_o_loops a_o_ran a_o_told1 o_status o_top o_bottom o_taped o_size o_token o_from o_end o_value o_faultKind o_faultPlace o_faults o_seen o_toldParts o_depth o_counted o_becameThen o_firstCorner o_drawn o_ranSteps o_isTold o_marks e2 o_names) → va_S A s.heap H locs → lv_has ls 4 [(0, .ref a_o), (1, .int v1), (2, .int v2)] → W p l e (rmd 0) s m aa below meth cd H locs 0 0 QQ (F0 m 39 ls []))) ?_ F (0, o_at) e2 hit2 ?_ _ _ _ hP hD hS (lv_sub hl [1, 2, 3, 0] rfl)
  · intro st2 r2 hf hk2 he2 H locs ls hP hD hS hl
    unfold X12_copies_b2 at hf
    refine lv_iload_n hx hb dX12_copies_2 rfl (lv_at hl 3 rfl) ?_
    refine lv_sipush (v := 495) hx hb dX12_copies_3 (by decide) ?_
    refine lv_icmp_ge (tgt := 39) hx hb dX12_copies_6 (by decide) (fun hc => ?_) (fun hc => ?_)
    · have hf := it_t hc hf
      exact he2 _ (Option.some.inj hf).symm _ _ _ hP hD hS (lv_sub hl [0, 1, 2] rfl)
    · have hf := it_f hc hf
      refine lv_aload_n hx hb dX12_copies_9 rfl (lv_at hl 0 rfl) ?_
      refine va_get (D := E.1) (ci := 12) (v := .ref a_o_at) (C := RX12) (T := TX12) (N := 39) hx hb hts inX12 hown hK hP 0 rfl rfl 0 (by decide) (hts _ fl_X12_7) (fun _ h9 => h9) rfl dX12_copies_10 ?_
      refine lv_sipush (v := 495) hx hb dX12_copies_13 (by decide) ?_
      refine lv_iload_n hx hb dX12_copies_16 rfl (lv_at hl 2 rfl) ?_
      refine lv_imul hx hb dX12_copies_17 ?_
      refine lv_iload_n hx hb dX12_copies_18 rfl (lv_at hl 3 rfl) ?_
      refine lv_iadd hx hb dX12_copies_19 ?_
      refine lv_aload_n hx hb dX12_copies_20 rfl (lv_at hl 0 rfl) ?_
      refine va_get (D := E.1) (ci := 12) (v := .ref a_o_at) (C := RX12) (T := TX12) (N := 39) hx hb hts inX12 hown hK hP 0 rfl rfl 0 (by decide) (hts _ fl_X12_7) (fun _ h9 => h9) rfl dX12_copies_21 ?_
      refine lv_sipush (v := 495) hx hb dX12_copies_24 (by decide) ?_
      refine lv_iload_n hx hb dX12_copies_27 rfl (lv_at hl 1 rfl) ?_
      refine lv_imul hx hb dX12_copies_28 ?_
      refine lv_iload_n hx hb dX12_copies_29 rfl (lv_at hl 3 rfl) ?_
      refine lv_iadd hx hb dX12_copies_30 ?_
      obtain ⟨hi, hf⟩ := ck hf
      refine r_iald 1 cx hP rfl hi dX12_copies_31 ?_
      obtain ⟨hi, hf⟩ := ck hf
      refine r_iast 1 cx hP hD hS rfl hi dX12_copies_32 (fun H locs hP hD hS => ?_)
      have hP : va_P E.1 vwCl (wd_X12_copies E a_o a_o_at a_o_names a_o_sort a_o_trayMany a_o_trays a_o_tape a_o_text a_o_opened a_o_farBy a_o_attendsBy a_o_coveredBy a_o_cameBy a_o_cameThen a_o_fallsBy a_o_loops a_o_ran a_o_told1 o_status o_top o_bottom o_taped o_size o_token o_from o_end o_value o_faultKind o_faultPlace o_faults o_seen o_toldParts o_depth o_counted o_becameThen o_firstCorner o_drawn o_ranSteps o_isTold o_marks (jput st2.2 ((495 * v2) + st2.1) (jat st2.2 ((495 * v1) + st2.1))) o_names) H := hP
      have hD : va_D A (wd_X12_copies E a_o a_o_at a_o_names a_o_sort a_o_trayMany a_o_trays a_o_tape a_o_text a_o_opened a_o_farBy a_o_attendsBy a_o_coveredBy a_o_cameBy a_o_cameThen a_o_fallsBy a_o_loops a_o_ran a_o_told1 o_status o_top o_bottom o_taped o_size o_token o_from o_end o_value o_faultKind o_faultPlace o_faults o_seen o_toldParts o_depth o_counted o_becameThen o_firstCorner o_drawn o_ranSteps o_isTold o_marks (jput st2.2 ((495 * v2) + st2.1) (jat st2.2 ((495 * v1) + st2.1))) o_names) := hD
      refine lv_iinc (v := (st2.1 + 1)) (lv' := [(3, .int (st2.1 + 1)), (0, .ref a_o), (1, .int v1), (2, .int v2)]) hx hb dX12_copies_33 hl (k := 3) rfl rfl (by decide) rfl (fun ls hl => ?_)
      refine lv_goto (tgt := 2) hx hb dX12_copies_36 (by decide) ?_
      exact hk2 _ (Option.some.inj hf).symm _ _ _ hP hD hS (lv_sub hl [1, 2, 3, 0] rfl)
  · refine fun H locs ls hP hD hS hl => ?_
    refine lv_iconst (v := 0) hx hb dX12_copies_39 (by decide) ?_
    refine lv_istore_n (lv' := [(3, .int 0), (0, .ref a_o), (1, .int v1), (2, .int v2)]) hx hb dX12_copies_40 rfl hl (by decide) rfl (fun ls hl => ?_)
    obtain ⟨e41, hit41, hf⟩ := bd hf
    refine iter_W (b := X12_copies_b41 F e2 v1 v2) (P := fun st41 => ∀ (H : Heap) (locs : List Loc) (ls : Array Slot), va_P E.1 vwCl (wd_X12_copies E a_o a_o_at a_o_names a_o_sort a_o_trayMany a_o_trays a_o_tape a_o_text a_o_opened a_o_farBy a_o_attendsBy a_o_coveredBy a_o_cameBy a_o_cameThen a_o_fallsBy a_o_loops a_o_ran a_o_told1 o_status o_top o_bottom o_taped o_size o_token o_from o_end o_value o_faultKind o_faultPlace o_faults o_seen o_toldParts o_depth o_counted o_becameThen o_firstCorner o_drawn o_ranSteps o_isTold o_marks e2 st41.2) H → va_D A (wd_X12_copies E a_o a_o_at a_o_names a_o_sort a_o_trayMany a_o_trays a_o_tape a_o_text a_o_opened a_o_farBy a_o_attendsBy a_o_coveredBy a_o_cameBy a_o_cameThen a_o_fallsBy a_o_loops a_o_ran a_o_told1 o_status o_top o_bottom o_taped o_size o_token o_from o_end o_value o_faultKind o_faultPlace o_faults o_seen o_toldParts o_depth o_counted o_becameThen o_firstCorner o_drawn o_ranSteps o_isTold o_marks e2 st41.2) → va_S A s.heap H locs → lv_has ls 4 [(0, .ref a_o), (1, .int v1), (2, .int v2), (3, .int st41.1)] → W p l e (rmd 0) s m aa below meth cd H locs 0 0 QQ (F0 m 41 ls [])) (G := (fun (e41 : (Nat → Int64)) => ∀ (H : Heap) (locs : List Loc) (ls : Array Slot), va_P E.1 vwCl (wd_X12_copies E a_o a_o_at a_o_names a_o_sort a_o_trayMany a_o_trays a_o_tape a_o_text a_o_opened a_o_farBy a_o_attendsBy a_o_coveredBy a_o_cameBy a_o_cameThen a_o_fallsBy a_o_loops a_o_ran a_o_told1 o_status o_top o_bottom o_taped o_size o_token o_from o_end o_value o_faultKind o_faultPlace o_faults o_seen o_toldParts o_depth o_counted o_becameThen o_firstCorner o_drawn o_ranSteps o_isTold o_marks e2 e41) H → va_D A (wd_X12_copies E a_o a_o_at a_o_names a_o_sort a_o_trayMany a_o_trays a_o_tape a_o_text a_o_opened a_o_farBy a_o_attendsBy a_o_coveredBy a_o_cameBy a_o_cameThen a_o_fallsBy a_o_loops a_o_ran a_o_told1 o_status o_top o_bottom o_taped o_size o_token o_from o_end o_value o_faultKind o_faultPlace o_faults o_seen o_toldParts o_depth o_counted o_becameThen o_firstCorner o_drawn o_ranSteps o_isTold o_marks e2 e41) → va_S A s.heap H locs → lv_has ls 4 [] → W p l e (rmd 0) s m aa below meth cd H locs 0 0 QQ (F0 m 75 ls []))) ?_ F (0, o_names) e41 hit41 ?_ _ _ _ hP hD hS (lv_sub hl [1, 2, 3, 0] rfl)
    · intro st41 r41 hf hk41 he41 H locs ls hP hD hS hl
      unfold X12_copies_b41 at hf
      refine lv_iload_n hx hb dX12_copies_41 rfl (lv_at hl 3 rfl) ?_
      refine lv_bipush (v := 27) hx hb dX12_copies_42 (by decide) ?_
      refine lv_icmp_ge (tgt := 75) hx hb dX12_copies_44 (by decide) (fun hc => ?_) (fun hc => ?_)
      · have hf := it_t hc hf
        exact he41 _ (Option.some.inj hf).symm _ _ _ hP hD hS (lv_sub hl [] rfl)
      · have hf := it_f hc hf
        refine lv_aload_n hx hb dX12_copies_47 rfl (lv_at hl 0 rfl) ?_
        refine va_get (D := E.1) (ci := 12) (v := .ref a_o_names) (C := RX12) (T := TX12) (N := 39) hx hb hts inX12 hown hK hP 0 rfl rfl 1 (by decide) (hts _ fl_X12_13) (fun _ h9 => h9) rfl dX12_copies_48 ?_
        refine lv_bipush (v := 27) hx hb dX12_copies_51 (by decide) ?_
        refine lv_iload_n hx hb dX12_copies_53 rfl (lv_at hl 2 rfl) ?_
        refine lv_imul hx hb dX12_copies_54 ?_
        refine lv_iload_n hx hb dX12_copies_55 rfl (lv_at hl 3 rfl) ?_
        refine lv_iadd hx hb dX12_copies_56 ?_
        refine lv_aload_n hx hb dX12_copies_57 rfl (lv_at hl 0 rfl) ?_
        refine va_get (D := E.1) (ci := 12) (v := .ref a_o_names) (C := RX12) (T := TX12) (N := 39) hx hb hts inX12 hown hK hP 0 rfl rfl 1 (by decide) (hts _ fl_X12_13) (fun _ h9 => h9) rfl dX12_copies_58 ?_
        refine lv_bipush (v := 27) hx hb dX12_copies_61 (by decide) ?_
        refine lv_iload_n hx hb dX12_copies_63 rfl (lv_at hl 1 rfl) ?_
        refine lv_imul hx hb dX12_copies_64 ?_
        refine lv_iload_n hx hb dX12_copies_65 rfl (lv_at hl 3 rfl) ?_
        refine lv_iadd hx hb dX12_copies_66 ?_
        obtain ⟨hi, hf⟩ := ck hf
        refine r_lald 2 cx hP rfl hi dX12_copies_67 ?_
        obtain ⟨hi, hf⟩ := ck hf
        refine r_last 2 cx hP hD hS rfl hi dX12_copies_68 (fun H locs hP hD hS => ?_)
        have hP : va_P E.1 vwCl (wd_X12_copies E a_o a_o_at a_o_names a_o_sort a_o_trayMany a_o_trays a_o_tape a_o_text a_o_opened a_o_farBy a_o_attendsBy a_o_coveredBy a_o_cameBy a_o_cameThen a_o_fallsBy a_o_loops a_o_ran a_o_told1 o_status o_top o_bottom o_taped o_size o_token o_from o_end o_value o_faultKind o_faultPlace o_faults o_seen o_toldParts o_depth o_counted o_becameThen o_firstCorner o_drawn o_ranSteps o_isTold o_marks e2 (jputL st41.2 ((27 * v2) + st41.1) (jat st41.2 ((27 * v1) + st41.1)))) H := hP
        have hD : va_D A (wd_X12_copies E a_o a_o_at a_o_names a_o_sort a_o_trayMany a_o_trays a_o_tape a_o_text a_o_opened a_o_farBy a_o_attendsBy a_o_coveredBy a_o_cameBy a_o_cameThen a_o_fallsBy a_o_loops a_o_ran a_o_told1 o_status o_top o_bottom o_taped o_size o_token o_from o_end o_value o_faultKind o_faultPlace o_faults o_seen o_toldParts o_depth o_counted o_becameThen o_firstCorner o_drawn o_ranSteps o_isTold o_marks e2 (jputL st41.2 ((27 * v2) + st41.1) (jat st41.2 ((27 * v1) + st41.1)))) := hD
        refine lv_iinc (v := (st41.1 + 1)) (lv' := [(3, .int (st41.1 + 1)), (0, .ref a_o), (1, .int v1), (2, .int v2)]) hx hb dX12_copies_69 hl (k := 3) rfl rfl (by decide) rfl (fun ls hl => ?_)
        refine lv_goto (tgt := 41) hx hb dX12_copies_72 (by decide) ?_
        exact hk41 _ (Option.some.inj hf).symm _ _ _ hP hD hS (lv_sub hl [1, 2, 3, 0] rfl)
    · refine fun H locs ls hP hD hS hl => ?_
      obtain rfl := Option.some.inj hf
      subst hq
      exact retV cx hP hD hS dX12_copies_75
def X12_mark (F : Nat) (o_status : Int32) (o_marks : Int32) (o_at : Nat → Int32) (o_names : Nat → Int64) : Option (Int32 × Int32 × Int32 × (Nat → Int32) × (Nat → Int64)) :=
  if o_marks = 3 then
  (X12_refuse o_status (4 : Int32)).bind fun u10 =>
  some (u10.1, u10.2, o_marks, o_at, o_names)
  else
  (X12_copies F o_at o_names (0 : Int32) (o_marks + 1)).bind fun u30 =>
  (X12_gives o_status (o_marks + 1)).bind fun u38 =>
  some (u38.1, u38.2, (o_marks + 1), u30.1, u30.2)
abbrev wd_X12_mark (E : vE) (a_o a_o_at a_o_names a_o_sort a_o_trayMany a_o_trays a_o_tape a_o_text a_o_opened a_o_farBy a_o_attendsBy a_o_coveredBy a_o_cameBy a_o_cameThen a_o_fallsBy a_o_loops a_o_ran a_o_told1 : Nat) (o_status : Int32) (o_top : Int64) (o_bottom : Int64) (o_taped : Int32) (o_size : Int32) (o_token : Int32) (o_from : Int32) (o_end : Int32) (o_value : Int32) (o_faultKind : Int32) (o_faultPlace : Int32) (o_faults : Int32) (o_seen : Int32) (o_toldParts : Int32) (o_depth : Int32) (o_counted : Int32) (o_becameThen : Int32) (o_firstCorner : Int32) (o_drawn : Int32) (o_ranSteps : Int32) (o_isTold : Int32) (o_marks : Int32) (o_at : Nat → Int32) (o_names : Nat → Int64) : va_W := [(a_o, .inr (12, [.ref a_o_at, .ref a_o_names, .int o_status, .long o_top, .long o_bottom, .ref a_o_sort, .ref a_o_trayMany, .ref a_o_trays, .ref a_o_tape, .ref a_o_text, .int o_taped, .int o_size, .int o_token, .int o_from, .int o_end, .int o_value, .int o_faultKind, .int o_faultPlace, .int o_faults, .int o_seen, .int o_toldParts, .ref a_o_opened, .int o_depth, .int o_counted, .ref a_o_farBy, .int o_becameThen, .ref a_o_attendsBy, .ref a_o_coveredBy, .ref a_o_cameBy, .ref a_o_cameThen, .int o_firstCorner, .ref a_o_fallsBy, .int o_drawn, .int o_ranSteps, .ref a_o_loops, .ref a_o_ran, .ref a_o_told1, .int o_isTold, .int o_marks])), (a_o_at, .inl (E.2.1, 3097, .inl o_at)), (a_o_names, .inl (E.2.2.1, 162, .inr (.inl o_names)))]
set_option maxHeartbeats 4000000 in
set_option maxRecDepth 100000 in
theorem ct_X12_mark (l : Launch) (E : vE) (F : Nat) (a_o a_o_at a_o_names a_o_sort a_o_trayMany a_o_trays a_o_tape a_o_text a_o_opened a_o_farBy a_o_attendsBy a_o_coveredBy a_o_cameBy a_o_cameThen a_o_fallsBy a_o_loops a_o_ran a_o_told1 : Nat) (o_status : Int32) (o_top : Int64) (o_bottom : Int64) (o_taped : Int32) (o_size : Int32) (o_token : Int32) (o_from : Int32) (o_end : Int32) (o_value : Int32) (o_faultKind : Int32) (o_faultPlace : Int32) (o_faults : Int32) (o_seen : Int32) (o_toldParts : Int32) (o_depth : Int32) (o_counted : Int32) (o_becameThen : Int32) (o_firstCorner : Int32) (o_drawn : Int32) (o_ranSteps : Int32) (o_isTold : Int32) (o_marks : Int32) (o_at : Nat → Int32) (o_names : Nat → Int64) (u : Int32 × Int32 × Int32 × (Nat → Int32) × (Nat → Int64)) (hf : X12_mark F o_status o_marks o_at o_names = some u) :
    CtI l yX12_mark cX12_mark 1 (some .int) 1 E [.ref a_o] (wd_X12_mark E a_o a_o_at a_o_names a_o_sort a_o_trayMany a_o_trays a_o_tape a_o_text a_o_opened a_o_farBy a_o_attendsBy a_o_coveredBy a_o_cameBy a_o_cameThen a_o_fallsBy a_o_loops a_o_ran a_o_told1 o_status o_top o_bottom o_taped o_size o_token o_from o_end o_value o_faultKind o_faultPlace o_faults o_seen o_toldParts o_depth o_counted o_becameThen o_firstCorner o_drawn o_ranSteps o_isTold o_marks o_at o_names) (wd_X12_mark E a_o a_o_at a_o_names a_o_sort a_o_trayMany a_o_trays a_o_tape a_o_text a_o_opened a_o_farBy a_o_attendsBy a_o_coveredBy a_o_cameBy a_o_cameThen a_o_fallsBy a_o_loops a_o_ran a_o_told1 u.2.1 o_top o_bottom o_taped o_size o_token o_from o_end o_value o_faultKind o_faultPlace o_faults o_seen o_toldParts o_depth o_counted o_becameThen o_firstCorner o_drawn o_ranSteps o_isTold u.2.2.1 u.2.2.2.1 u.2.2.2.2) u.1 := by
  refine ctI (by decide) (Nat.le_of_ble_eq_true rfl) ?_
  intro p e s m below meth cd A ls aa QQ hq cx hP hD hS hl
  obtain ⟨⟨hx, hb, hml, hown, hts⟩, hr, hlocks, hK, hA, hX⟩ := id cx
  have hl : lv_has ls 1 [(0, .ref a_o)] := hl
  unfold X12_mark at hf
  refine lv_aload_n hx hb dX12_mark_0 rfl (lv_at hl 0 rfl) ?_
  refine va_get (D := E.1) (ci := 12) (v := .int o_marks) (C := RX12) (T := TX12) (N := 39) hx hb hts inX12 hown hK hP 0 rfl rfl 38 (by decide) (hts _ fl_X12_508) (fun _ h9 => h9) rfl dX12_mark_1 ?_
  refine lv_iconst (v := 3) hx hb dX12_mark_4 (by decide) ?_
  refine lv_icmp_ne (tgt := 14) hx hb dX12_mark_5 (by decide) (fun hc => ?_) (fun hc => ?_)
  · have hf := it_f hc hf
    refine lv_aload_n hx hb dX12_mark_14 rfl (lv_at hl 0 rfl) ?_
    refine lv_dup hx hb dX12_mark_15 rfl ?_
    refine va_get (D := E.1) (ci := 12) (v := .int o_marks) (C := RX12) (T := TX12) (N := 39) hx hb hts inX12 hown hK hP 0 rfl rfl 38 (by decide) (hts _ fl_X12_508) (fun _ h9 => h9) rfl dX12_mark_16 ?_
    refine lv_iconst (v := 1) hx hb dX12_mark_19 (by decide) ?_
    refine lv_iadd hx hb dX12_mark_20 ?_
    refine va_put (D := E.1) (ci := 12) (v := .int (o_marks + 1)) (ty := .int) (C := RX12) (T := TX12) (N := 39) hx hb hts inX12 tyX12 tyX12_ok nmX12 hown hK hP hD hS 0 rfl rfl 38 (by decide) (hts _ fl_X12_508) (fun _ h9 => h9) rfl (by decide +kernel) rfl rfl (Nat.le_of_ble_eq_true rfl) dX12_mark_21 (fun H locs hP hD hS => ?_)
    have hP : va_P E.1 vwCl (wd_X12_mark E a_o a_o_at a_o_names a_o_sort a_o_trayMany a_o_trays a_o_tape a_o_text a_o_opened a_o_farBy a_o_attendsBy a_o_coveredBy a_o_cameBy a_o_cameThen a_o_fallsBy a_o_loops a_o_ran a_o_told1 o_status o_top o_bottom o_taped o_size o_token o_from o_end o_value o_faultKind o_faultPlace o_faults o_seen o_toldParts o_depth o_counted o_becameThen o_firstCorner o_drawn o_ranSteps o_isTold (o_marks + 1) o_at o_names) H := hP
    have hD : va_D A (wd_X12_mark E a_o a_o_at a_o_names a_o_sort a_o_trayMany a_o_trays a_o_tape a_o_text a_o_opened a_o_farBy a_o_attendsBy a_o_coveredBy a_o_cameBy a_o_cameThen a_o_fallsBy a_o_loops a_o_ran a_o_told1 o_status o_top o_bottom o_taped o_size o_token o_from o_end o_value o_faultKind o_faultPlace o_faults o_seen o_toldParts o_depth o_counted o_becameThen o_firstCorner o_drawn o_ranSteps o_isTold (o_marks + 1) o_at o_names) := hD
    refine lv_aload_n hx hb dX12_mark_24 rfl (lv_at hl 0 rfl) ?_
    refine lv_iconst (v := 0) hx hb dX12_mark_25 (by decide) ?_
    refine lv_aload_n hx hb dX12_mark_26 rfl (lv_at hl 0 rfl) ?_
    refine va_get (D := E.1) (ci := 12) (v := .int (o_marks + 1)) (C := RX12) (T := TX12) (N := 39) hx hb hts inX12 hown hK hP 0 rfl rfl 38 (by decide) (hts _ fl_X12_508) (fun _ h9 => h9) rfl dX12_mark_27 ?_
    obtain ⟨u30, hu30, hf⟩ := bd hf
    refine callVV (wn := (wd_X12_mark E a_o a_o_at a_o_names a_o_sort a_o_trayMany a_o_trays a_o_tape a_o_text a_o_opened a_o_farBy a_o_attendsBy a_o_coveredBy a_o_cameBy a_o_cameThen a_o_fallsBy a_o_loops a_o_ran a_o_told1 o_status o_top o_bottom o_taped o_size o_token o_from o_end o_value o_faultKind o_faultPlace o_faults o_seen o_toldParts o_depth o_counted o_becameThen o_firstCorner o_drawn o_ranSteps o_isTold (o_marks + 1) u30.1 u30.2)) (n1 := 3) (ct_X12_copies l E F a_o a_o_at a_o_names a_o_sort a_o_trayMany a_o_trays a_o_tape a_o_text a_o_opened a_o_farBy a_o_attendsBy a_o_coveredBy a_o_cameBy a_o_cameThen a_o_fallsBy a_o_loops a_o_ran a_o_told1 o_status o_top o_bottom o_taped o_size o_token o_from o_end o_value o_faultKind o_faultPlace o_faults o_seen o_toldParts o_depth o_counted o_becameThen o_firstCorner o_drawn o_ranSteps o_isTold (o_marks + 1) o_at o_names (0 : Int32) (o_marks + 1) u30 hu30) [0, 1, 2] cal_X12_copies cav_X12_copies lk_X12_511 cx hP hD hS hl dX12_mark_30 rfl rfl rfl rfl (Nat.le_of_ble_eq_true rfl) ⟨Nat.le_of_ble_eq_true rfl, Nat.le_of_ble_eq_true rfl⟩ rfl (by decide +kernel) rfl [some 0, some 1, some 2] rfl (by decide +kernel) rfl (fun H locs hP hD hS => ?_)
    refine lv_aload_n hx hb dX12_mark_33 rfl (lv_at hl 0 rfl) ?_
    refine lv_aload_n hx hb dX12_mark_34 rfl (lv_at hl 0 rfl) ?_
    refine va_get (D := E.1) (ci := 12) (v := .int (o_marks + 1)) (C := RX12) (T := TX12) (N := 39) hx hb hts inX12 hown hK hP 0 rfl rfl 38 (by decide) (hts _ fl_X12_508) (fun _ h9 => h9) rfl dX12_mark_35 ?_
    obtain ⟨u38, hu38, hf⟩ := bd hf
    refine callVI (wn := (wd_X12_mark E a_o a_o_at a_o_names a_o_sort a_o_trayMany a_o_trays a_o_tape a_o_text a_o_opened a_o_farBy a_o_attendsBy a_o_coveredBy a_o_cameBy a_o_cameThen a_o_fallsBy a_o_loops a_o_ran a_o_told1 u38.2 o_top o_bottom o_taped o_size o_token o_from o_end o_value o_faultKind o_faultPlace o_faults o_seen o_toldParts o_depth o_counted o_becameThen o_firstCorner o_drawn o_ranSteps o_isTold (o_marks + 1) u30.1 u30.2)) (n1 := 3) (ct_X12_gives l E a_o a_o_at a_o_names a_o_sort a_o_trayMany a_o_trays a_o_tape a_o_text a_o_opened a_o_farBy a_o_attendsBy a_o_coveredBy a_o_cameBy a_o_cameThen a_o_fallsBy a_o_loops a_o_ran a_o_told1 o_status o_top o_bottom o_taped o_size o_token o_from o_end o_value o_faultKind o_faultPlace o_faults o_seen o_toldParts o_depth o_counted o_becameThen o_firstCorner o_drawn o_ranSteps o_isTold (o_marks + 1) (o_marks + 1) u38 hu38) [0] cal_X12_gives cav_X12_gives lk_X12_89 cx hP hD hS hl dX12_mark_38 rfl rfl rfl rfl (Nat.le_of_ble_eq_true rfl) ⟨Nat.le_of_ble_eq_true rfl, Nat.le_of_ble_eq_true rfl⟩ rfl (by decide +kernel) rfl [some 0, none, none] rfl (by decide +kernel) rfl (fun H locs hP hD hS => ?_)
    obtain rfl := Option.some.inj hf
    subst hq
    exact retI cx hP hD hS dX12_mark_41
  · have hf := it_t hc hf
    refine lv_aload_n hx hb dX12_mark_8 rfl (lv_at hl 0 rfl) ?_
    refine lv_iconst (v := 4) hx hb dX12_mark_9 (by decide) ?_
    obtain ⟨u10, hu10, hf⟩ := bd hf
    refine callVI (wn := (wd_X12_mark E a_o a_o_at a_o_names a_o_sort a_o_trayMany a_o_trays a_o_tape a_o_text a_o_opened a_o_farBy a_o_attendsBy a_o_coveredBy a_o_cameBy a_o_cameThen a_o_fallsBy a_o_loops a_o_ran a_o_told1 u10.2 o_top o_bottom o_taped o_size o_token o_from o_end o_value o_faultKind o_faultPlace o_faults o_seen o_toldParts o_depth o_counted o_becameThen o_firstCorner o_drawn o_ranSteps o_isTold o_marks o_at o_names)) (n1 := 3) (ct_X12_refuse l E a_o a_o_at a_o_names a_o_sort a_o_trayMany a_o_trays a_o_tape a_o_text a_o_opened a_o_farBy a_o_attendsBy a_o_coveredBy a_o_cameBy a_o_cameThen a_o_fallsBy a_o_loops a_o_ran a_o_told1 o_status o_top o_bottom o_taped o_size o_token o_from o_end o_value o_faultKind o_faultPlace o_faults o_seen o_toldParts o_depth o_counted o_becameThen o_firstCorner o_drawn o_ranSteps o_isTold o_marks (4 : Int32) u10 hu10) [0] cal_X12_refuse cav_X12_refuse lk_X12_85 cx hP hD hS hl dX12_mark_10 rfl rfl rfl rfl (Nat.le_of_ble_eq_true rfl) ⟨Nat.le_of_ble_eq_true rfl, Nat.le_of_ble_eq_true rfl⟩ rfl (by decide +kernel) rfl [some 0, none, none] rfl (by decide +kernel) rfl (fun H locs hP hD hS => ?_)
    obtain rfl := Option.some.inj hf
    subst hq
    exact retI cx hP hD hS dX12_mark_13
def X12_undo (F : Nat) (o_status : Int32) (o_marks : Int32) (o_at : Nat → Int32) (o_names : Nat → Int64) : Option (Int32 × Int32 × Int32 × (Nat → Int32) × (Nat → Int64)) :=
  if o_marks = 0 then
  (X12_refuse o_status (6 : Int32)).bind fun u10 =>
  some (u10.1, u10.2, o_marks, o_at, o_names)
  else
  (X12_copies F o_at o_names o_marks (0 : Int32)).bind fun u20 =>
  (X12_gives o_status (o_marks - 1)).bind fun u38 =>
  some (u38.1, u38.2, (o_marks - 1), u20.1, u20.2)
abbrev wd_X12_undo (E : vE) (a_o a_o_at a_o_names a_o_sort a_o_trayMany a_o_trays a_o_tape a_o_text a_o_opened a_o_farBy a_o_attendsBy a_o_coveredBy a_o_cameBy a_o_cameThen a_o_fallsBy a_o_loops a_o_ran a_o_told1 : Nat) (o_status : Int32) (o_top : Int64) (o_bottom : Int64) (o_taped : Int32) (o_size : Int32) (o_token : Int32) (o_from : Int32) (o_end : Int32) (o_value : Int32) (o_faultKind : Int32) (o_faultPlace : Int32) (o_faults : Int32) (o_seen : Int32) (o_toldParts : Int32) (o_depth : Int32) (o_counted : Int32) (o_becameThen : Int32) (o_firstCorner : Int32) (o_drawn : Int32) (o_ranSteps : Int32) (o_isTold : Int32) (o_marks : Int32) (o_at : Nat → Int32) (o_names : Nat → Int64) : va_W := [(a_o, .inr (12, [.ref a_o_at, .ref a_o_names, .int o_status, .long o_top, .long o_bottom, .ref a_o_sort, .ref a_o_trayMany, .ref a_o_trays, .ref a_o_tape, .ref a_o_text, .int o_taped, .int o_size, .int o_token, .int o_from, .int o_end, .int o_value, .int o_faultKind, .int o_faultPlace, .int o_faults, .int o_seen, .int o_toldParts, .ref a_o_opened, .int o_depth, .int o_counted, .ref a_o_farBy, .int o_becameThen, .ref a_o_attendsBy, .ref a_o_coveredBy, .ref a_o_cameBy, .ref a_o_cameThen, .int o_firstCorner, .ref a_o_fallsBy, .int o_drawn, .int o_ranSteps, .ref a_o_loops, .ref a_o_ran, .ref a_o_told1, .int o_isTold, .int o_marks])), (a_o_at, .inl (E.2.1, 3097, .inl o_at)), (a_o_names, .inl (E.2.2.1, 162, .inr (.inl o_names)))]
set_option maxHeartbeats 4000000 in
set_option maxRecDepth 100000 in
theorem ct_X12_undo (l : Launch) (E : vE) (F : Nat) (a_o a_o_at a_o_names a_o_sort a_o_trayMany a_o_trays a_o_tape a_o_text a_o_opened a_o_farBy a_o_attendsBy a_o_coveredBy a_o_cameBy a_o_cameThen a_o_fallsBy a_o_loops a_o_ran a_o_told1 : Nat) (o_status : Int32) (o_top : Int64) (o_bottom : Int64) (o_taped : Int32) (o_size : Int32) (o_token : Int32) (o_from : Int32) (o_end : Int32) (o_value : Int32) (o_faultKind : Int32) (o_faultPlace : Int32) (o_faults : Int32) (o_seen : Int32) (o_toldParts : Int32) (o_depth : Int32) (o_counted : Int32) (o_becameThen : Int32) (o_firstCorner : Int32) (o_drawn : Int32) (o_ranSteps : Int32) (o_isTold : Int32) (o_marks : Int32) (o_at : Nat → Int32) (o_names : Nat → Int64) (u : Int32 × Int32 × Int32 × (Nat → Int32) × (Nat → Int64)) (hf : X12_undo F o_status o_marks o_at o_names = some u) :
    CtI l yX12_undo cX12_undo 1 (some .int) 1 E [.ref a_o] (wd_X12_undo E a_o a_o_at a_o_names a_o_sort a_o_trayMany a_o_trays a_o_tape a_o_text a_o_opened a_o_farBy a_o_attendsBy a_o_coveredBy a_o_cameBy a_o_cameThen a_o_fallsBy a_o_loops a_o_ran a_o_told1 o_status o_top o_bottom o_taped o_size o_token o_from o_end o_value o_faultKind o_faultPlace o_faults o_seen o_toldParts o_depth o_counted o_becameThen o_firstCorner o_drawn o_ranSteps o_isTold o_marks o_at o_names) (wd_X12_undo E a_o a_o_at a_o_names a_o_sort a_o_trayMany a_o_trays a_o_tape a_o_text a_o_opened a_o_farBy a_o_attendsBy a_o_coveredBy a_o_cameBy a_o_cameThen a_o_fallsBy a_o_loops a_o_ran a_o_told1 u.2.1 o_top o_bottom o_taped o_size o_token o_from o_end o_value o_faultKind o_faultPlace o_faults o_seen o_toldParts o_depth o_counted o_becameThen o_firstCorner o_drawn o_ranSteps o_isTold u.2.2.1 u.2.2.2.1 u.2.2.2.2) u.1 := by
  refine ctI (by decide) (Nat.le_of_ble_eq_true rfl) ?_
  intro p e s m below meth cd A ls aa QQ hq cx hP hD hS hl
  obtain ⟨⟨hx, hb, hml, hown, hts⟩, hr, hlocks, hK, hA, hX⟩ := id cx
  have hl : lv_has ls 1 [(0, .ref a_o)] := hl
  unfold X12_undo at hf
  refine lv_aload_n hx hb dX12_undo_0 rfl (lv_at hl 0 rfl) ?_
  refine va_get (D := E.1) (ci := 12) (v := .int o_marks) (C := RX12) (T := TX12) (N := 39) hx hb hts inX12 hown hK hP 0 rfl rfl 38 (by decide) (hts _ fl_X12_508) (fun _ h9 => h9) rfl dX12_undo_1 ?_
  refine lv_if_ne (tgt := 14) hx hb dX12_undo_4 (by decide) (fun hc => ?_) (fun hc => ?_)
  · have hf := it_f hc hf
    refine lv_aload_n hx hb dX12_undo_14 rfl (lv_at hl 0 rfl) ?_
    refine lv_aload_n hx hb dX12_undo_15 rfl (lv_at hl 0 rfl) ?_
    refine va_get (D := E.1) (ci := 12) (v := .int o_marks) (C := RX12) (T := TX12) (N := 39) hx hb hts inX12 hown hK hP 0 rfl rfl 38 (by decide) (hts _ fl_X12_508) (fun _ h9 => h9) rfl dX12_undo_16 ?_
    refine lv_iconst (v := 0) hx hb dX12_undo_19 (by decide) ?_
    obtain ⟨u20, hu20, hf⟩ := bd hf
    refine callVV (wn := (wd_X12_undo E a_o a_o_at a_o_names a_o_sort a_o_trayMany a_o_trays a_o_tape a_o_text a_o_opened a_o_farBy a_o_attendsBy a_o_coveredBy a_o_cameBy a_o_cameThen a_o_fallsBy a_o_loops a_o_ran a_o_told1 o_status o_top o_bottom o_taped o_size o_token o_from o_end o_value o_faultKind o_faultPlace o_faults o_seen o_toldParts o_depth o_counted o_becameThen o_firstCorner o_drawn o_ranSteps o_isTold o_marks u20.1 u20.2)) (n1 := 3) (ct_X12_copies l E F a_o a_o_at a_o_names a_o_sort a_o_trayMany a_o_trays a_o_tape a_o_text a_o_opened a_o_farBy a_o_attendsBy a_o_coveredBy a_o_cameBy a_o_cameThen a_o_fallsBy a_o_loops a_o_ran a_o_told1 o_status o_top o_bottom o_taped o_size o_token o_from o_end o_value o_faultKind o_faultPlace o_faults o_seen o_toldParts o_depth o_counted o_becameThen o_firstCorner o_drawn o_ranSteps o_isTold o_marks o_at o_names o_marks (0 : Int32) u20 hu20) [0, 1, 2] cal_X12_copies cav_X12_copies lk_X12_511 cx hP hD hS hl dX12_undo_20 rfl rfl rfl rfl (Nat.le_of_ble_eq_true rfl) ⟨Nat.le_of_ble_eq_true rfl, Nat.le_of_ble_eq_true rfl⟩ rfl (by decide +kernel) rfl [some 0, some 1, some 2] rfl (by decide +kernel) rfl (fun H locs hP hD hS => ?_)
    refine lv_aload_n hx hb dX12_undo_23 rfl (lv_at hl 0 rfl) ?_
    refine lv_dup hx hb dX12_undo_24 rfl ?_
    refine va_get (D := E.1) (ci := 12) (v := .int o_marks) (C := RX12) (T := TX12) (N := 39) hx hb hts inX12 hown hK hP 0 rfl rfl 38 (by decide) (hts _ fl_X12_508) (fun _ h9 => h9) rfl dX12_undo_25 ?_
    refine lv_iconst (v := 1) hx hb dX12_undo_28 (by decide) ?_
    refine lv_isub hx hb dX12_undo_29 ?_
    refine va_put (D := E.1) (ci := 12) (v := .int (o_marks - 1)) (ty := .int) (C := RX12) (T := TX12) (N := 39) hx hb hts inX12 tyX12 tyX12_ok nmX12 hown hK hP hD hS 0 rfl rfl 38 (by decide) (hts _ fl_X12_508) (fun _ h9 => h9) rfl (by decide +kernel) rfl rfl (Nat.le_of_ble_eq_true rfl) dX12_undo_30 (fun H locs hP hD hS => ?_)
    have hP : va_P E.1 vwCl (wd_X12_undo E a_o a_o_at a_o_names a_o_sort a_o_trayMany a_o_trays a_o_tape a_o_text a_o_opened a_o_farBy a_o_attendsBy a_o_coveredBy a_o_cameBy a_o_cameThen a_o_fallsBy a_o_loops a_o_ran a_o_told1 o_status o_top o_bottom o_taped o_size o_token o_from o_end o_value o_faultKind o_faultPlace o_faults o_seen o_toldParts o_depth o_counted o_becameThen o_firstCorner o_drawn o_ranSteps o_isTold (o_marks - 1) u20.1 u20.2) H := hP
    have hD : va_D A (wd_X12_undo E a_o a_o_at a_o_names a_o_sort a_o_trayMany a_o_trays a_o_tape a_o_text a_o_opened a_o_farBy a_o_attendsBy a_o_coveredBy a_o_cameBy a_o_cameThen a_o_fallsBy a_o_loops a_o_ran a_o_told1 o_status o_top o_bottom o_taped o_size o_token o_from o_end o_value o_faultKind o_faultPlace o_faults o_seen o_toldParts o_depth o_counted o_becameThen o_firstCorner o_drawn o_ranSteps o_isTold (o_marks - 1) u20.1 u20.2) := hD
    refine lv_aload_n hx hb dX12_undo_33 rfl (lv_at hl 0 rfl) ?_
    refine lv_aload_n hx hb dX12_undo_34 rfl (lv_at hl 0 rfl) ?_
    refine va_get (D := E.1) (ci := 12) (v := .int (o_marks - 1)) (C := RX12) (T := TX12) (N := 39) hx hb hts inX12 hown hK hP 0 rfl rfl 38 (by decide) (hts _ fl_X12_508) (fun _ h9 => h9) rfl dX12_undo_35 ?_
    obtain ⟨u38, hu38, hf⟩ := bd hf
    refine callVI (wn := (wd_X12_undo E a_o a_o_at a_o_names a_o_sort a_o_trayMany a_o_trays a_o_tape a_o_text a_o_opened a_o_farBy a_o_attendsBy a_o_coveredBy a_o_cameBy a_o_cameThen a_o_fallsBy a_o_loops a_o_ran a_o_told1 u38.2 o_top o_bottom o_taped o_size o_token o_from o_end o_value o_faultKind o_faultPlace o_faults o_seen o_toldParts o_depth o_counted o_becameThen o_firstCorner o_drawn o_ranSteps o_isTold (o_marks - 1) u20.1 u20.2)) (n1 := 3) (ct_X12_gives l E a_o a_o_at a_o_names a_o_sort a_o_trayMany a_o_trays a_o_tape a_o_text a_o_opened a_o_farBy a_o_attendsBy a_o_coveredBy a_o_cameBy a_o_cameThen a_o_fallsBy a_o_loops a_o_ran a_o_told1 o_status o_top o_bottom o_taped o_size o_token o_from o_end o_value o_faultKind o_faultPlace o_faults o_seen o_toldParts o_depth o_counted o_becameThen o_firstCorner o_drawn o_ranSteps o_isTold (o_marks - 1) (o_marks - 1) u38 hu38) [0] cal_X12_gives cav_X12_gives lk_X12_89 cx hP hD hS hl dX12_undo_38 rfl rfl rfl rfl (Nat.le_of_ble_eq_true rfl) ⟨Nat.le_of_ble_eq_true rfl, Nat.le_of_ble_eq_true rfl⟩ rfl (by decide +kernel) rfl [some 0, none, none] rfl (by decide +kernel) rfl (fun H locs hP hD hS => ?_)
    obtain rfl := Option.some.inj hf
    subst hq
    exact retI cx hP hD hS dX12_undo_41
  · have hf := it_t hc hf
    refine lv_aload_n hx hb dX12_undo_7 rfl (lv_at hl 0 rfl) ?_
    refine lv_bipush (v := 6) hx hb dX12_undo_8 (by decide) ?_
    obtain ⟨u10, hu10, hf⟩ := bd hf
    refine callVI (wn := (wd_X12_undo E a_o a_o_at a_o_names a_o_sort a_o_trayMany a_o_trays a_o_tape a_o_text a_o_opened a_o_farBy a_o_attendsBy a_o_coveredBy a_o_cameBy a_o_cameThen a_o_fallsBy a_o_loops a_o_ran a_o_told1 u10.2 o_top o_bottom o_taped o_size o_token o_from o_end o_value o_faultKind o_faultPlace o_faults o_seen o_toldParts o_depth o_counted o_becameThen o_firstCorner o_drawn o_ranSteps o_isTold o_marks o_at o_names)) (n1 := 3) (ct_X12_refuse l E a_o a_o_at a_o_names a_o_sort a_o_trayMany a_o_trays a_o_tape a_o_text a_o_opened a_o_farBy a_o_attendsBy a_o_coveredBy a_o_cameBy a_o_cameThen a_o_fallsBy a_o_loops a_o_ran a_o_told1 o_status o_top o_bottom o_taped o_size o_token o_from o_end o_value o_faultKind o_faultPlace o_faults o_seen o_toldParts o_depth o_counted o_becameThen o_firstCorner o_drawn o_ranSteps o_isTold o_marks (6 : Int32) u10 hu10) [0] cal_X12_refuse cav_X12_refuse lk_X12_85 cx hP hD hS hl dX12_undo_10 rfl rfl rfl rfl (Nat.le_of_ble_eq_true rfl) ⟨Nat.le_of_ble_eq_true rfl, Nat.le_of_ble_eq_true rfl⟩ rfl (by decide +kernel) rfl [some 0, none, none] rfl (by decide +kernel) rfl (fun H locs hP hD hS => ?_)
    obtain rfl := Option.some.inj hf
    subst hq
    exact retI cx hP hD hS dX12_undo_13
