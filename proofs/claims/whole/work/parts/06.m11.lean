def X12_laysAttends_j64 (F : Nat) (o_at : Nat → Int32) (o_farBy : Nat → Int32) (o_attendsBy : Nat → Int32) (v1 : Int32) (v2 : Int32) (k0 : Int32) (k1 : Int32) : Option ((Int32 × (Nat → Int32)) ⊕ (((Nat → Int32)))) :=
  if ix k1 1792 then
  some (.inl ((v2 + 1), (jputZ o_attendsBy k1 k0)))
  else none
def X12_laysAttends_j63 (F : Nat) (o_at : Nat → Int32) (o_farBy : Nat → Int32) (o_attendsBy : Nat → Int32) (v1 : Int32) (v2 : Int32) (k0 : Int32) : Option ((Int32 × (Nat → Int32)) ⊕ (((Nat → Int32)))) :=
  X12_laysAttends_j64 F o_at o_farBy o_attendsBy v1 v2 0 k0
def X12_laysAttends_b11 (F : Nat) (o_at : Nat → Int32) (o_farBy : Nat → Int32) (v1 : Int32) (st11 : Int32 × (Nat → Int32)) : Option ((Int32 × (Nat → Int32)) ⊕ (((Nat → Int32)))) :=
  if ix 2 3097 then
  if (256 * (jat o_at 2)) ≤ st11.1 then
  some (.inr st11.2)
  else
  if ¬ 256 = (0 : Int32) then
  if ((jrem st11.1 256) &&& (v1 ^^^ (-1))) = 0 then
  if ¬ 256 = (0 : Int32) then
  if ¬ 256 = (0 : Int32) then
  (X12_canAttend F o_at o_farBy (st11.1 / 256) (jrem st11.1 256)).bind fun u53 =>
  if u53 = 0 then
  X12_laysAttends_j63 F o_at o_farBy st11.2 v1 st11.1 st11.1
  else
  X12_laysAttends_j64 F o_at o_farBy st11.2 v1 st11.1 1 st11.1
  else none
  else none
  else
  X12_laysAttends_j63 F o_at o_farBy st11.2 v1 st11.1 st11.1
  else none
  else none
def X12_laysAttends (F : Nat) (o_at : Nat → Int32) (o_farBy : Nat → Int32) (o_attendsBy : Nat → Int32) : Option ((Nat → Int32) × (Nat → Int32)) :=
  (X12_laysFar F o_at o_farBy).bind fun u1 =>
  (X12_ahead0 F o_at).bind fun u5 =>
  (iter (X12_laysAttends_b11 F o_at u1 u5) F (0, o_attendsBy)).bind (fun (e11 : (Nat → Int32)) =>
    some (u1, e11))
abbrev wd_X12_laysAttends (E : vE) (a_o a_o_at a_o_names a_o_sort a_o_trayMany a_o_trays a_o_tape a_o_text a_o_opened a_o_farBy a_o_attendsBy a_o_coveredBy a_o_cameBy a_o_cameThen a_o_fallsBy a_o_loops a_o_ran a_o_told1 : Nat) (o_status : Int32) (o_top : Int64) (o_bottom : Int64) (o_taped : Int32) (o_size : Int32) (o_token : Int32) (o_from : Int32) (o_end : Int32) (o_value : Int32) (o_faultKind : Int32) (o_faultPlace : Int32) (o_faults : Int32) (o_seen : Int32) (o_toldParts : Int32) (o_depth : Int32) (o_counted : Int32) (o_becameThen : Int32) (o_firstCorner : Int32) (o_drawn : Int32) (o_ranSteps : Int32) (o_isTold : Int32) (o_marks : Int32) (o_at : Nat → Int32) (o_farBy : Nat → Int32) (o_attendsBy : Nat → Int32) : va_W := [(a_o, .inr (12, [.ref a_o_at, .ref a_o_names, .int o_status, .long o_top, .long o_bottom, .ref a_o_sort, .ref a_o_trayMany, .ref a_o_trays, .ref a_o_tape, .ref a_o_text, .int o_taped, .int o_size, .int o_token, .int o_from, .int o_end, .int o_value, .int o_faultKind, .int o_faultPlace, .int o_faults, .int o_seen, .int o_toldParts, .ref a_o_opened, .int o_depth, .int o_counted, .ref a_o_farBy, .int o_becameThen, .ref a_o_attendsBy, .ref a_o_coveredBy, .ref a_o_cameBy, .ref a_o_cameThen, .int o_firstCorner, .ref a_o_fallsBy, .int o_drawn, .int o_ranSteps, .ref a_o_loops, .ref a_o_ran, .ref a_o_told1, .int o_isTold, .int o_marks])), (a_o_at, .inl (E.2.1, 3097, .inl o_at)), (a_o_farBy, .inl (E.2.1, 64, .inl o_farBy)), (a_o_attendsBy, .inl (E.2.2.2.2.1, 1792, .inl o_attendsBy))]
set_option maxHeartbeats 4000000 in
set_option maxRecDepth 100000 in
theorem ct_X12_laysAttends (l : Launch) (E : vE) (F : Nat) (a_o a_o_at a_o_names a_o_sort a_o_trayMany a_o_trays a_o_tape a_o_text a_o_opened a_o_farBy a_o_attendsBy a_o_coveredBy a_o_cameBy a_o_cameThen a_o_fallsBy a_o_loops a_o_ran a_o_told1 : Nat) (o_status : Int32) (o_top : Int64) (o_bottom : Int64) (o_taped : Int32) (o_size : Int32) (o_token : Int32) (o_from : Int32) (o_end : Int32) (o_value : Int32) (o_faultKind : Int32) (o_faultPlace : Int32) (o_faults : Int32) (o_seen : Int32) (o_toldParts : Int32) (o_depth : Int32) (o_counted : Int32) (o_becameThen : Int32) (o_firstCorner : Int32) (o_drawn : Int32) (o_ranSteps : Int32) (o_isTold : Int32) (o_marks : Int32) (o_at : Nat → Int32) (o_farBy : Nat → Int32) (o_attendsBy : Nat → Int32) (u : (Nat → Int32) × (Nat → Int32)) (hf : X12_laysAttends F o_at o_farBy o_attendsBy = some u) :
    CtV l yX12_laysAttends cX12_laysAttends 3 none 5 E [.ref a_o] (wd_X12_laysAttends E a_o a_o_at a_o_names a_o_sort a_o_trayMany a_o_trays a_o_tape a_o_text a_o_opened a_o_farBy a_o_attendsBy a_o_coveredBy a_o_cameBy a_o_cameThen a_o_fallsBy a_o_loops a_o_ran a_o_told1 o_status o_top o_bottom o_taped o_size o_token o_from o_end o_value o_faultKind o_faultPlace o_faults o_seen o_toldParts o_depth o_counted o_becameThen o_firstCorner o_drawn o_ranSteps o_isTold o_marks o_at o_farBy o_attendsBy) (wd_X12_laysAttends E a_o a_o_at a_o_names a_o_sort a_o_trayMany a_o_trays a_o_tape a_o_text a_o_opened a_o_farBy a_o_attendsBy a_o_coveredBy a_o_cameBy a_o_cameThen a_o_fallsBy a_o_loops a_o_ran a_o_told1 o_status o_top o_bottom o_taped o_size o_token o_from o_end o_value o_faultKind o_faultPlace o_faults o_seen o_toldParts o_depth o_counted o_becameThen o_firstCorner o_drawn o_ranSteps o_isTold o_marks o_at u.1 u.2) := by
  refine ctV (by decide) (Nat.le_of_ble_eq_true rfl) ?_
  intro p e s m below meth cd A ls aa QQ hq cx hP hD hS hl
  obtain ⟨⟨hx, hb, hml, hown, hts⟩, hr, hlocks, hK, hA, hX⟩ := id cx
  have hl : lv_has ls 3 [(0, .ref a_o)] := hl
  unfold X12_laysAttends at hf
  refine lv_aload_n hx hb dX12_laysAttends_0 rfl (lv_at hl 0 rfl) ?_
  obtain ⟨u1, hu1, hf⟩ := bd hf
  refine callVV (wn := (wd_X12_laysAttends E a_o a_o_at a_o_names a_o_sort a_o_trayMany a_o_trays a_o_tape a_o_text a_o_opened a_o_farBy a_o_attendsBy a_o_coveredBy a_o_cameBy a_o_cameThen a_o_fallsBy a_o_loops a_o_ran a_o_told1 o_status o_top o_bottom o_taped o_size o_token o_from o_end o_value o_faultKind o_faultPlace o_faults o_seen o_toldParts o_depth o_counted o_becameThen o_firstCorner o_drawn o_ranSteps o_isTold o_marks o_at u1 o_attendsBy)) (n1 := 4) (ct_X12_laysFar l E F a_o a_o_at a_o_names a_o_sort a_o_trayMany a_o_trays a_o_tape a_o_text a_o_opened a_o_farBy a_o_attendsBy a_o_coveredBy a_o_cameBy a_o_cameThen a_o_fallsBy a_o_loops a_o_ran a_o_told1 o_status o_top o_bottom o_taped o_size o_token o_from o_end o_value o_faultKind o_faultPlace o_faults o_seen o_toldParts o_depth o_counted o_becameThen o_firstCorner o_drawn o_ranSteps o_isTold o_marks o_at o_farBy u1 hu1) [0, 1, 2] cal_X12_laysFar cav_X12_laysFar lk_X12_318 cx hP hD hS hl dX12_laysAttends_1 rfl rfl rfl rfl (Nat.le_of_ble_eq_true rfl) ⟨Nat.le_of_ble_eq_true rfl, Nat.le_of_ble_eq_true rfl⟩ rfl (by decide +kernel) rfl [some 0, some 1, some 2, none] rfl (by decide +kernel) rfl (fun H locs hP hD hS => ?_)
  refine lv_aload_n hx hb dX12_laysAttends_4 rfl (lv_at hl 0 rfl) ?_
  obtain ⟨u5, hu5, hf⟩ := bd hf
  refine keepVI (ct_X12_ahead0 l E F a_o a_o_at a_o_names a_o_sort a_o_trayMany a_o_trays a_o_tape a_o_text a_o_opened a_o_farBy a_o_attendsBy a_o_coveredBy a_o_cameBy a_o_cameThen a_o_fallsBy a_o_loops a_o_ran a_o_told1 o_status o_top o_bottom o_taped o_size o_token o_from o_end o_value o_faultKind o_faultPlace o_faults o_seen o_toldParts o_depth o_counted o_becameThen o_firstCorner o_drawn o_ranSteps o_isTold o_marks o_at u5 hu5) [0, 1] cal_X12_ahead0 cav_X12_ahead0 lk_X12_399 cx hP hD hS hl dX12_laysAttends_5 rfl rfl rfl rfl (Nat.le_of_ble_eq_true rfl) ⟨Nat.le_of_ble_eq_true rfl, Nat.le_of_ble_eq_true rfl⟩ rfl (by decide) (fun H locs hP hS => ?_)
  refine lv_istore_n (lv' := [(1, .int u5), (0, .ref a_o)]) hx hb dX12_laysAttends_8 rfl hl (by decide) rfl (fun ls hl => ?_)
  refine lv_iconst (v := 0) hx hb dX12_laysAttends_9 (by decide) ?_
  refine lv_istore_n (lv' := [(2, .int 0), (1, .int u5), (0, .ref a_o)]) hx hb dX12_laysAttends_10 rfl hl (by decide) rfl (fun ls hl => ?_)
  obtain ⟨e11, hit11, hf⟩ := bd hf
  refine iter_W (b := X12_laysAttends_b11 F o_at u1 u5) (P := fun st11 => ∀ (H : Heap) (locs : List Loc) (ls : Array Slot), va_P E.1 vwCl (wd_X12_laysAttends E a_o a_o_at a_o_names a_o_sort a_o_trayMany a_o_trays a_o_tape a_o_text a_o_opened a_o_farBy a_o_attendsBy a_o_coveredBy a_o_cameBy a_o_cameThen a_o_fallsBy a_o_loops a_o_ran a_o_told1 o_status o_top o_bottom o_taped o_size o_token o_from o_end o_value o_faultKind o_faultPlace o_faults o_seen o_toldParts o_depth o_counted o_becameThen o_firstCorner o_drawn o_ranSteps o_isTold o_marks o_at u1 st11.2) H → va_D A (wd_X12_laysAttends E a_o a_o_at a_o_names a_o_sort a_o_trayMany a_o_trays a_o_tape a_o_text a_o_opened a_o_farBy a_o_attendsBy a_o_coveredBy a_o_cameBy a_o_cameThen a_o_fallsBy a_o_loops a_o_ran a_o_told1 o_status o_top o_bottom o_taped o_size o_token o_from o_end o_value o_faultKind o_faultPlace o_faults o_seen o_toldParts o_depth o_counted o_becameThen o_firstCorner o_drawn o_ranSteps o_isTold o_marks o_at u1 st11.2) → va_S A s.heap H locs → lv_has ls 3 [(0, .ref a_o), (1, .int u5), (2, .int st11.1)] → W p l e (rmd 5) s m aa below meth cd H locs 0 0 QQ (F0 m 11 ls [])) (G := (fun (e11 : (Nat → Int32)) => ∀ (H : Heap) (locs : List Loc) (ls : Array Slot), va_P E.1 vwCl (wd_X12_laysAttends E a_o a_o_at a_o_names a_o_sort a_o_trayMany a_o_trays a_o_tape a_o_text a_o_opened a_o_farBy a_o_attendsBy a_o_coveredBy a_o_cameBy a_o_cameThen a_o_fallsBy a_o_loops a_o_ran a_o_told1 o_status o_top o_bottom o_taped o_size o_token o_from o_end o_value o_faultKind o_faultPlace o_faults o_seen o_toldParts o_depth o_counted o_becameThen o_firstCorner o_drawn o_ranSteps o_isTold o_marks o_at u1 e11) H → va_D A (wd_X12_laysAttends E a_o a_o_at a_o_names a_o_sort a_o_trayMany a_o_trays a_o_tape a_o_text a_o_opened a_o_farBy a_o_attendsBy a_o_coveredBy a_o_cameBy a_o_cameThen a_o_fallsBy a_o_loops a_o_ran a_o_told1 o_status o_top o_bottom o_taped o_size o_token o_from o_end o_value o_faultKind o_faultPlace o_faults o_seen o_toldParts o_depth o_counted o_becameThen o_firstCorner o_drawn o_ranSteps o_isTold o_marks o_at u1 e11) → va_S A s.heap H locs → lv_has ls 3 [] → W p l e (rmd 5) s m aa below meth cd H locs 0 0 QQ (F0 m 71 ls []))) ?_ F (0, o_attendsBy) e11 hit11 ?_ _ _ _ hP hD hS (lv_sub hl [2, 1, 0] rfl)
  · intro st11 r11 hf hk11 he11 H locs ls hP hD hS hl
    have hj64 : ∀ (v2_j64 : Int32) (o_attendsBy_j64 : Nat → Int32) (k0_j64 : Int32) (k1_j64 : Int32) (H : Heap) (locs : List Loc) (ls : Array Slot), X12_laysAttends_j64 F o_at u1 o_attendsBy_j64 u5 v2_j64 k0_j64 k1_j64 = some r11 → va_P E.1 vwCl (wd_X12_laysAttends E a_o a_o_at a_o_names a_o_sort a_o_trayMany a_o_trays a_o_tape a_o_text a_o_opened a_o_farBy a_o_attendsBy a_o_coveredBy a_o_cameBy a_o_cameThen a_o_fallsBy a_o_loops a_o_ran a_o_told1 o_status o_top o_bottom o_taped o_size o_token o_from o_end o_value o_faultKind o_faultPlace o_faults o_seen o_toldParts o_depth o_counted o_becameThen o_firstCorner o_drawn o_ranSteps o_isTold o_marks o_at u1 o_attendsBy_j64) H → va_D A (wd_X12_laysAttends E a_o a_o_at a_o_names a_o_sort a_o_trayMany a_o_trays a_o_tape a_o_text a_o_opened a_o_farBy a_o_attendsBy a_o_coveredBy a_o_cameBy a_o_cameThen a_o_fallsBy a_o_loops a_o_ran a_o_told1 o_status o_top o_bottom o_taped o_size o_token o_from o_end o_value o_faultKind o_faultPlace o_faults o_seen o_toldParts o_depth o_counted o_becameThen o_firstCorner o_drawn o_ranSteps o_isTold o_marks o_at u1 o_attendsBy_j64) → va_S A s.heap H locs → lv_has ls 3 [(0, .ref a_o), (1, .int u5), (2, .int v2_j64)] → W p l e (rmd 5) s m aa below meth cd H locs 0 0 QQ (F0 m 64 ls [.int k0_j64, .int k1_j64, .ref a_o_attendsBy]) := by
      intro v2_j64 o_attendsBy_j64 k0_j64 k1_j64 H locs ls hf hP hD hS hl
      unfold X12_laysAttends_j64 at hf
      obtain ⟨hi, hf⟩ := ck hf
      refine r_zast 3 cx hP hD hS rfl hi dX12_laysAttends_64 (fun H locs hP hD hS => ?_)
      have hP : va_P E.1 vwCl (wd_X12_laysAttends E a_o a_o_at a_o_names a_o_sort a_o_trayMany a_o_trays a_o_tape a_o_text a_o_opened a_o_farBy a_o_attendsBy a_o_coveredBy a_o_cameBy a_o_cameThen a_o_fallsBy a_o_loops a_o_ran a_o_told1 o_status o_top o_bottom o_taped o_size o_token o_from o_end o_value o_faultKind o_faultPlace o_faults o_seen o_toldParts o_depth o_counted o_becameThen o_firstCorner o_drawn o_ranSteps o_isTold o_marks o_at u1 (jputZ o_attendsBy_j64 k1_j64 k0_j64)) H := hP
      have hD : va_D A (wd_X12_laysAttends E a_o a_o_at a_o_names a_o_sort a_o_trayMany a_o_trays a_o_tape a_o_text a_o_opened a_o_farBy a_o_attendsBy a_o_coveredBy a_o_cameBy a_o_cameThen a_o_fallsBy a_o_loops a_o_ran a_o_told1 o_status o_top o_bottom o_taped o_size o_token o_from o_end o_value o_faultKind o_faultPlace o_faults o_seen o_toldParts o_depth o_counted o_becameThen o_firstCorner o_drawn o_ranSteps o_isTold o_marks o_at u1 (jputZ o_attendsBy_j64 k1_j64 k0_j64)) := hD
      refine lv_iinc (v := (v2_j64 + 1)) (lv' := [(2, .int (v2_j64 + 1)), (0, .ref a_o), (1, .int u5)]) hx hb dX12_laysAttends_65 hl (k := 2) rfl rfl (by decide) rfl (fun ls hl => ?_)
      refine lv_goto (tgt := 11) hx hb dX12_laysAttends_68 (by decide) ?_
      exact hk11 _ (Option.some.inj hf).symm _ _ _ hP hD hS (lv_sub hl [1, 2, 0] rfl)
    have hj63 : ∀ (v2_j63 : Int32) (o_attendsBy_j63 : Nat → Int32) (k0_j63 : Int32) (H : Heap) (locs : List Loc) (ls : Array Slot), X12_laysAttends_j63 F o_at u1 o_attendsBy_j63 u5 v2_j63 k0_j63 = some r11 → va_P E.1 vwCl (wd_X12_laysAttends E a_o a_o_at a_o_names a_o_sort a_o_trayMany a_o_trays a_o_tape a_o_text a_o_opened a_o_farBy a_o_attendsBy a_o_coveredBy a_o_cameBy a_o_cameThen a_o_fallsBy a_o_loops a_o_ran a_o_told1 o_status o_top o_bottom o_taped o_size o_token o_from o_end o_value o_faultKind o_faultPlace o_faults o_seen o_toldParts o_depth o_counted o_becameThen o_firstCorner o_drawn o_ranSteps o_isTold o_marks o_at u1 o_attendsBy_j63) H → va_D A (wd_X12_laysAttends E a_o a_o_at a_o_names a_o_sort a_o_trayMany a_o_trays a_o_tape a_o_text a_o_opened a_o_farBy a_o_attendsBy a_o_coveredBy a_o_cameBy a_o_cameThen a_o_fallsBy a_o_loops a_o_ran a_o_told1 o_status o_top o_bottom o_taped o_size o_token o_from o_end o_value o_faultKind o_faultPlace o_faults o_seen o_toldParts o_depth o_counted o_becameThen o_firstCorner o_drawn o_ranSteps o_isTold o_marks o_at u1 o_attendsBy_j63) → va_S A s.heap H locs → lv_has ls 3 [(0, .ref a_o), (1, .int u5), (2, .int v2_j63)] → W p l e (rmd 5) s m aa below meth cd H locs 0 0 QQ (F0 m 63 ls [.int k0_j63, .ref a_o_attendsBy]) := by
      intro v2_j63 o_attendsBy_j63 k0_j63 H locs ls hf hP hD hS hl
      unfold X12_laysAttends_j63 at hf
      refine lv_iconst (v := 0) hx hb dX12_laysAttends_63 (by decide) ?_
      exact hj64 _ _ _ _ _ _ _ hf hP hD hS (lv_sub hl [0, 1, 2] rfl)
    unfold X12_laysAttends_b11 at hf
    refine lv_iload_n hx hb dX12_laysAttends_11 rfl (lv_at hl 2 rfl) ?_
    refine lv_sipush (v := 256) hx hb dX12_laysAttends_12 (by decide) ?_
    refine lv_aload_n hx hb dX12_laysAttends_15 rfl (lv_at hl 0 rfl) ?_
    refine va_get (D := E.1) (ci := 12) (v := .ref a_o_at) (C := RX12) (T := TX12) (N := 39) hx hb hts inX12 hown hK hP 0 rfl rfl 0 (by decide) (hts _ fl_X12_7) (fun _ h9 => h9) rfl dX12_laysAttends_16 ?_
    refine lv_iconst (v := 2) hx hb dX12_laysAttends_19 (by decide) ?_
    obtain ⟨hi, hf⟩ := ck hf
    refine r_iald 1 cx hP rfl hi dX12_laysAttends_20 ?_
    refine lv_imul hx hb dX12_laysAttends_21 ?_
    refine lv_icmp_ge (tgt := 71) hx hb dX12_laysAttends_22 (by decide) (fun hc => ?_) (fun hc => ?_)
    · have hf := it_t hc hf
      exact he11 _ (Option.some.inj hf).symm _ _ _ hP hD hS (lv_sub hl [] rfl)
    · have hf := it_f hc hf
      refine lv_aload_n hx hb dX12_laysAttends_25 rfl (lv_at hl 0 rfl) ?_
      refine va_get (D := E.1) (ci := 12) (v := .ref a_o_attendsBy) (C := RX12) (T := TX12) (N := 39) hx hb hts inX12 hown hK hP 0 rfl rfl 26 (by decide) (hts _ fl_X12_50) (fun _ h9 => h9) rfl dX12_laysAttends_26 ?_
      refine lv_iload_n hx hb dX12_laysAttends_29 rfl (lv_at hl 2 rfl) ?_
      refine lv_iload_n hx hb dX12_laysAttends_30 rfl (lv_at hl 2 rfl) ?_
      refine lv_sipush (v := 256) hx hb dX12_laysAttends_31 (by decide) ?_
      obtain ⟨hnz, hf⟩ := ck hf
      refine r_irem hx hb dX12_laysAttends_34 hnz ?_
      refine lv_iload_n hx hb dX12_laysAttends_35 rfl (lv_at hl 1 rfl) ?_
      refine lv_iconst (v := (-1)) hx hb dX12_laysAttends_36 (by decide) ?_
      refine lv_ixor hx hb dX12_laysAttends_37 ?_
      refine lv_iand hx hb dX12_laysAttends_38 ?_
      refine lv_if_ne (tgt := 63) hx hb dX12_laysAttends_39 (by decide) (fun hc => ?_) (fun hc => ?_)
      · have hf := it_f hc hf
        exact hj63 _ _ _ _ _ _ hf hP hD hS (lv_sub hl [0, 1, 2] rfl)
      · have hf := it_t hc hf
        refine lv_aload_n hx hb dX12_laysAttends_42 rfl (lv_at hl 0 rfl) ?_
        refine lv_iload_n hx hb dX12_laysAttends_43 rfl (lv_at hl 2 rfl) ?_
        refine lv_sipush (v := 256) hx hb dX12_laysAttends_44 (by decide) ?_
        obtain ⟨hnz, hf⟩ := ck hf
        refine lv_idiv hx hb dX12_laysAttends_47 hnz ?_
        refine lv_iload_n hx hb dX12_laysAttends_48 rfl (lv_at hl 2 rfl) ?_
        refine lv_sipush (v := 256) hx hb dX12_laysAttends_49 (by decide) ?_
        obtain ⟨hnz, hf⟩ := ck hf
        refine r_irem hx hb dX12_laysAttends_52 hnz ?_
        obtain ⟨u53, hu53, hf⟩ := bd hf
        refine keepVI (ct_X12_canAttend l E F a_o a_o_at a_o_names a_o_sort a_o_trayMany a_o_trays a_o_tape a_o_text a_o_opened a_o_farBy a_o_attendsBy a_o_coveredBy a_o_cameBy a_o_cameThen a_o_fallsBy a_o_loops a_o_ran a_o_told1 o_status o_top o_bottom o_taped o_size o_token o_from o_end o_value o_faultKind o_faultPlace o_faults o_seen o_toldParts o_depth o_counted o_becameThen o_firstCorner o_drawn o_ranSteps o_isTold o_marks o_at u1 (st11.1 / 256) (jrem st11.1 256) u53 hu53) [0, 1, 2] cal_X12_canAttend cav_X12_canAttend lk_X12_402 cx hP hD hS hl dX12_laysAttends_53 rfl rfl rfl rfl (Nat.le_of_ble_eq_true rfl) ⟨Nat.le_of_ble_eq_true rfl, Nat.le_of_ble_eq_true rfl⟩ rfl (by decide) (fun H locs hP hS => ?_)
        refine lv_if_eq (tgt := 63) hx hb dX12_laysAttends_56 (by decide) (fun hc => ?_) (fun hc => ?_)
        · have hf := it_t hc hf
          exact hj63 _ _ _ _ _ _ hf hP hD hS (lv_sub hl [0, 1, 2] rfl)
        · have hf := it_f hc hf
          refine lv_iconst (v := 1) hx hb dX12_laysAttends_59 (by decide) ?_
          refine lv_goto (tgt := 64) hx hb dX12_laysAttends_60 (by decide) ?_
          exact hj64 _ _ _ _ _ _ _ hf hP hD hS (lv_sub hl [0, 1, 2] rfl)
  · refine fun H locs ls hP hD hS hl => ?_
    obtain rfl := Option.some.inj hf
    subst hq
    exact retV cx hP hD hS dX12_laysAttends_71
def X12_covers_j74 (F : Nat) (o_at : Nat → Int32) (o_attendsBy : Nat → Int32) (o_coveredBy : Nat → Int32) (v1 : Int32) (v2 : Int32) : Option ((Int32 × (Nat → Int32)) ⊕ (((Nat → Int32)))) :=
  some (.inl ((v2 + (-1)), o_coveredBy))
def X12_covers_j65 (F : Nat) (o_at : Nat → Int32) (o_attendsBy : Nat → Int32) (o_coveredBy : Nat → Int32) (v1 : Int32) (v2 : Int32) (v3 : Int32) : Option ((Int32 × (Nat → Int32)) ⊕ (((Nat → Int32)))) :=
  some (.inl (((v3 - 1) &&& v2), o_coveredBy))
def X12_covers_b17 (F : Nat) (o_at : Nat → Int32) (o_attendsBy : Nat → Int32) (v1 : Int32) (v2 : Int32) (st17 : Int32 × (Nat → Int32)) : Option ((Int32 × (Nat → Int32)) ⊕ (((Nat → Int32)))) :=
  if st17.1 ≤ 0 then
  some (.inr st17.2)
  else
  if ix v2 256 then
  if (jat st17.2 v2) = 0 then
  if ix (v2 &&& (st17.1 ^^^ (-1))) 256 then
  if (jat st17.2 (v2 &&& (st17.1 ^^^ (-1)))) = 0 then
  X12_covers_j65 F o_at o_attendsBy st17.2 v1 v2 st17.1
  else
  if ix ((256 * v1) + st17.1) 1792 then
  if (jat o_attendsBy ((256 * v1) + st17.1)) = 0 then
  X12_covers_j65 F o_at o_attendsBy st17.2 v1 v2 st17.1
  else
  if ix v2 256 then
  X12_covers_j65 F o_at o_attendsBy (jputZ st17.2 v2 1) v1 v2 st17.1
  else none
  else none
  else none
  else
  some (.inr st17.2)
  else none
def X12_covers_b11 (F : Nat) (o_at : Nat → Int32) (o_attendsBy : Nat → Int32) (v1 : Int32) (st11 : Int32 × (Nat → Int32)) : Option ((Int32 × (Nat → Int32)) ⊕ (((Nat → Int32)))) :=
  if st11.1 < 0 then
  some (.inr st11.2)
  else
  (iter (X12_covers_b17 F o_at o_attendsBy v1 st11.1) F (st11.1, st11.2)).bind (fun (e17 : (Nat → Int32)) =>
    X12_covers_j74 F o_at o_attendsBy e17 v1 st11.1)
def X12_covers (F : Nat) (o_at : Nat → Int32) (o_attendsBy : Nat → Int32) (o_coveredBy : Nat → Int32) (v1 : Int32) : Option ((Nat → Int32)) :=
  if ix 3 3097 then
  (iter (X12_covers_b11 F o_at o_attendsBy v1) F (((jshl 1 (jat o_at 3)) - 1), o_coveredBy)).bind (fun (e11 : (Nat → Int32)) =>
    some e11)
  else none
abbrev wd_X12_covers (E : vE) (a_o a_o_at a_o_names a_o_sort a_o_trayMany a_o_trays a_o_tape a_o_text a_o_opened a_o_farBy a_o_attendsBy a_o_coveredBy a_o_cameBy a_o_cameThen a_o_fallsBy a_o_loops a_o_ran a_o_told1 : Nat) (o_status : Int32) (o_top : Int64) (o_bottom : Int64) (o_taped : Int32) (o_size : Int32) (o_token : Int32) (o_from : Int32) (o_end : Int32) (o_value : Int32) (o_faultKind : Int32) (o_faultPlace : Int32) (o_faults : Int32) (o_seen : Int32) (o_toldParts : Int32) (o_depth : Int32) (o_counted : Int32) (o_becameThen : Int32) (o_firstCorner : Int32) (o_drawn : Int32) (o_ranSteps : Int32) (o_isTold : Int32) (o_marks : Int32) (o_at : Nat → Int32) (o_attendsBy : Nat → Int32) (o_coveredBy : Nat → Int32) : va_W := [(a_o, .inr (12, [.ref a_o_at, .ref a_o_names, .int o_status, .long o_top, .long o_bottom, .ref a_o_sort, .ref a_o_trayMany, .ref a_o_trays, .ref a_o_tape, .ref a_o_text, .int o_taped, .int o_size, .int o_token, .int o_from, .int o_end, .int o_value, .int o_faultKind, .int o_faultPlace, .int o_faults, .int o_seen, .int o_toldParts, .ref a_o_opened, .int o_depth, .int o_counted, .ref a_o_farBy, .int o_becameThen, .ref a_o_attendsBy, .ref a_o_coveredBy, .ref a_o_cameBy, .ref a_o_cameThen, .int o_firstCorner, .ref a_o_fallsBy, .int o_drawn, .int o_ranSteps, .ref a_o_loops, .ref a_o_ran, .ref a_o_told1, .int o_isTold, .int o_marks])), (a_o_at, .inl (E.2.1, 3097, .inl o_at)), (a_o_attendsBy, .inl (E.2.2.2.2.1, 1792, .inl o_attendsBy)), (a_o_coveredBy, .inl (E.2.2.2.2.1, 256, .inl o_coveredBy))]
set_option maxHeartbeats 4000000 in
set_option maxRecDepth 100000 in
theorem ct_X12_covers (l : Launch) (E : vE) (F : Nat) (a_o a_o_at a_o_names a_o_sort a_o_trayMany a_o_trays a_o_tape a_o_text a_o_opened a_o_farBy a_o_attendsBy a_o_coveredBy a_o_cameBy a_o_cameThen a_o_fallsBy a_o_loops a_o_ran a_o_told1 : Nat) (o_status : Int32) (o_top : Int64) (o_bottom : Int64) (o_taped : Int32) (o_size : Int32) (o_token : Int32) (o_from : Int32) (o_end : Int32) (o_value : Int32) (o_faultKind : Int32) (o_faultPlace : Int32) (o_faults : Int32) (o_seen : Int32) (o_toldParts : Int32) (o_depth : Int32) (o_counted : Int32) (o_becameThen : Int32) (o_firstCorner : Int32) (o_drawn : Int32) (o_ranSteps : Int32) (o_isTold : Int32) (o_marks : Int32) (o_at : Nat → Int32) (o_attendsBy : Nat → Int32) (o_coveredBy : Nat → Int32) (v1 : Int32) (u : (Nat → Int32)) (hf : X12_covers F o_at o_attendsBy o_coveredBy v1 = some u) :
    CtV l yX12_covers cX12_covers 4 none 0 E [.ref a_o, .int v1] (wd_X12_covers E a_o a_o_at a_o_names a_o_sort a_o_trayMany a_o_trays a_o_tape a_o_text a_o_opened a_o_farBy a_o_attendsBy a_o_coveredBy a_o_cameBy a_o_cameThen a_o_fallsBy a_o_loops a_o_ran a_o_told1 o_status o_top o_bottom o_taped o_size o_token o_from o_end o_value o_faultKind o_faultPlace o_faults o_seen o_toldParts o_depth o_counted o_becameThen o_firstCorner o_drawn o_ranSteps o_isTold o_marks o_at o_attendsBy o_coveredBy) (wd_X12_covers E a_o a_o_at a_o_names a_o_sort a_o_trayMany a_o_trays a_o_tape a_o_text a_o_opened a_o_farBy a_o_attendsBy a_o_coveredBy a_o_cameBy a_o_cameThen a_o_fallsBy a_o_loops a_o_ran a_o_told1 o_status o_top o_bottom o_taped o_size o_token o_from o_end o_value o_faultKind o_faultPlace o_faults o_seen o_toldParts o_depth o_counted o_becameThen o_firstCorner o_drawn o_ranSteps o_isTold o_marks o_at o_attendsBy u) := by
  refine ctV (by decide) (Nat.le_of_ble_eq_true rfl) ?_
  intro p e s m below meth cd A ls aa QQ hq cx hP hD hS hl
  obtain ⟨⟨hx, hb, hml, hown, hts⟩, hr, hlocks, hK, hA, hX⟩ := id cx
  have hl : lv_has ls 4 [(0, .ref a_o), (1, .int v1)] := hl
  unfold X12_covers at hf
  refine lv_iconst (v := 1) hx hb dX12_covers_0 (by decide) ?_
  refine lv_aload_n hx hb dX12_covers_1 rfl (lv_at hl 0 rfl) ?_
  refine va_get (D := E.1) (ci := 12) (v := .ref a_o_at) (C := RX12) (T := TX12) (N := 39) hx hb hts inX12 hown hK hP 0 rfl rfl 0 (by decide) (hts _ fl_X12_7) (fun _ h9 => h9) rfl dX12_covers_2 ?_
  refine lv_iconst (v := 3) hx hb dX12_covers_5 (by decide) ?_
  obtain ⟨hi, hf⟩ := ck hf
  refine r_iald 1 cx hP rfl hi dX12_covers_6 ?_
  refine r_ishl hx hb dX12_covers_7 ?_
  refine lv_iconst (v := 1) hx hb dX12_covers_8 (by decide) ?_
  refine lv_isub hx hb dX12_covers_9 ?_
  refine lv_istore_n (lv' := [(2, .int ((jshl 1 (jat o_at 3)) - 1)), (0, .ref a_o), (1, .int v1)]) hx hb dX12_covers_10 rfl hl (by decide) rfl (fun ls hl => ?_)
  obtain ⟨e11, hit11, hf⟩ := bd hf
  refine iter_W (b := X12_covers_b11 F o_at o_attendsBy v1) (P := fun st11 => ∀ (H : Heap) (locs : List Loc) (ls : Array Slot), va_P E.1 vwCl (wd_X12_covers E a_o a_o_at a_o_names a_o_sort a_o_trayMany a_o_trays a_o_tape a_o_text a_o_opened a_o_farBy a_o_attendsBy a_o_coveredBy a_o_cameBy a_o_cameThen a_o_fallsBy a_o_loops a_o_ran a_o_told1 o_status o_top o_bottom o_taped o_size o_token o_from o_end o_value o_faultKind o_faultPlace o_faults o_seen o_toldParts o_depth o_counted o_becameThen o_firstCorner o_drawn o_ranSteps o_isTold o_marks o_at o_attendsBy st11.2) H → va_D A (wd_X12_covers E a_o a_o_at a_o_names a_o_sort a_o_trayMany a_o_trays a_o_tape a_o_text a_o_opened a_o_farBy a_o_attendsBy a_o_coveredBy a_o_cameBy a_o_cameThen a_o_fallsBy a_o_loops a_o_ran a_o_told1 o_status o_top o_bottom o_taped o_size o_token o_from o_end o_value o_faultKind o_faultPlace o_faults o_seen o_toldParts o_depth o_counted o_becameThen o_firstCorner o_drawn o_ranSteps o_isTold o_marks o_at o_attendsBy st11.2) → va_S A s.heap H locs → lv_has ls 4 [(0, .ref a_o), (1, .int v1), (2, .int st11.1)] → W p l e (rmd 0) s m aa below meth cd H locs 0 0 QQ (F0 m 11 ls [])) (G := (fun (e11 : (Nat → Int32)) => ∀ (H : Heap) (locs : List Loc) (ls : Array Slot), va_P E.1 vwCl (wd_X12_covers E a_o a_o_at a_o_names a_o_sort a_o_trayMany a_o_trays a_o_tape a_o_text a_o_opened a_o_farBy a_o_attendsBy a_o_coveredBy a_o_cameBy a_o_cameThen a_o_fallsBy a_o_loops a_o_ran a_o_told1 o_status o_top o_bottom o_taped o_size o_token o_from o_end o_value o_faultKind o_faultPlace o_faults o_seen o_toldParts o_depth o_counted o_becameThen o_firstCorner o_drawn o_ranSteps o_isTold o_marks o_at o_attendsBy e11) H → va_D A (wd_X12_covers E a_o a_o_at a_o_names a_o_sort a_o_trayMany a_o_trays a_o_tape a_o_text a_o_opened a_o_farBy a_o_attendsBy a_o_coveredBy a_o_cameBy a_o_cameThen a_o_fallsBy a_o_loops a_o_ran a_o_told1 o_status o_top o_bottom o_taped o_size o_token o_from o_end o_value o_faultKind o_faultPlace o_faults o_seen o_toldParts o_depth o_counted o_becameThen o_firstCorner o_drawn o_ranSteps o_isTold o_marks o_at o_attendsBy e11) → va_S A s.heap H locs → lv_has ls 4 [] → W p l e (rmd 0) s m aa below meth cd H locs 0 0 QQ (F0 m 80 ls []))) ?_ F (((jshl 1 (jat o_at 3)) - 1), o_coveredBy) e11 hit11 ?_ _ _ _ hP hD hS (lv_sub hl [1, 2, 0] rfl)
  · intro st11 r11 hf hk11 he11 H locs ls hP hD hS hl
    have hj74 : ∀ (v2_j74 : Int32) (o_coveredBy_j74 : Nat → Int32) (H : Heap) (locs : List Loc) (ls : Array Slot), X12_covers_j74 F o_at o_attendsBy o_coveredBy_j74 v1 v2_j74 = some r11 → va_P E.1 vwCl (wd_X12_covers E a_o a_o_at a_o_names a_o_sort a_o_trayMany a_o_trays a_o_tape a_o_text a_o_opened a_o_farBy a_o_attendsBy a_o_coveredBy a_o_cameBy a_o_cameThen a_o_fallsBy a_o_loops a_o_ran a_o_told1 o_status o_top o_bottom o_taped o_size o_token o_from o_end o_value o_faultKind o_faultPlace o_faults o_seen o_toldParts o_depth o_counted o_becameThen o_firstCorner o_drawn o_ranSteps o_isTold o_marks o_at o_attendsBy o_coveredBy_j74) H → va_D A (wd_X12_covers E a_o a_o_at a_o_names a_o_sort a_o_trayMany a_o_trays a_o_tape a_o_text a_o_opened a_o_farBy a_o_attendsBy a_o_coveredBy a_o_cameBy a_o_cameThen a_o_fallsBy a_o_loops a_o_ran a_o_told1 o_status o_top o_bottom o_taped o_size o_token o_from o_end o_value o_faultKind o_faultPlace o_faults o_seen o_toldParts o_depth o_counted o_becameThen o_firstCorner o_drawn o_ranSteps o_isTold o_marks o_at o_attendsBy o_coveredBy_j74) → va_S A s.heap H locs → lv_has ls 4 [(0, .ref a_o), (1, .int v1), (2, .int v2_j74)] → W p l e (rmd 0) s m aa below meth cd H locs 0 0 QQ (F0 m 74 ls []) := by
      intro v2_j74 o_coveredBy_j74 H locs ls hf hP hD hS hl
      unfold X12_covers_j74 at hf
      refine lv_iinc (v := (v2_j74 + (-1))) (lv' := [(2, .int (v2_j74 + (-1))), (0, .ref a_o), (1, .int v1)]) hx hb dX12_covers_74 hl (k := 2) rfl rfl (by decide) rfl (fun ls hl => ?_)
      refine lv_goto (tgt := 11) hx hb dX12_covers_77 (by decide) ?_
      exact hk11 _ (Option.some.inj hf).symm _ _ _ hP hD hS (lv_sub hl [1, 2, 0] rfl)
    unfold X12_covers_b11 at hf
    refine lv_iload_n hx hb dX12_covers_11 rfl (lv_at hl 2 rfl) ?_
    refine lv_if_lt (tgt := 80) hx hb dX12_covers_12 (by decide) (fun hc => ?_) (fun hc => ?_)
    · have hf := it_t hc hf
      exact he11 _ (Option.some.inj hf).symm _ _ _ hP hD hS (lv_sub hl [] rfl)
    · have hf := it_f hc hf
      refine lv_iload_n hx hb dX12_covers_15 rfl (lv_at hl 2 rfl) ?_
      refine lv_istore_n (lv' := [(3, .int st11.1), (0, .ref a_o), (1, .int v1), (2, .int st11.1)]) hx hb dX12_covers_16 rfl hl (by decide) rfl (fun ls hl => ?_)
      obtain ⟨e17, hit17, hf⟩ := bd hf
      refine iter_W (b := X12_covers_b17 F o_at o_attendsBy v1 st11.1) (P := fun st17 => ∀ (H : Heap) (locs : List Loc) (ls : Array Slot), va_P E.1 vwCl (wd_X12_covers E a_o a_o_at a_o_names a_o_sort a_o_trayMany a_o_trays a_o_tape a_o_text a_o_opened a_o_farBy a_o_attendsBy a_o_coveredBy a_o_cameBy a_o_cameThen a_o_fallsBy a_o_loops a_o_ran a_o_told1 o_status o_top o_bottom o_taped o_size o_token o_from o_end o_value o_faultKind o_faultPlace o_faults o_seen o_toldParts o_depth o_counted o_becameThen o_firstCorner o_drawn o_ranSteps o_isTold o_marks o_at o_attendsBy st17.2) H → va_D A (wd_X12_covers E a_o a_o_at a_o_names a_o_sort a_o_trayMany a_o_trays a_o_tape a_o_text a_o_opened a_o_farBy a_o_attendsBy a_o_coveredBy a_o_cameBy a_o_cameThen a_o_fallsBy a_o_loops a_o_ran a_o_told1 o_status o_top o_bottom o_taped o_size o_token o_from o_end o_value o_faultKind o_faultPlace o_faults o_seen o_toldParts o_depth o_counted o_becameThen o_firstCorner o_drawn o_ranSteps o_isTold o_marks o_at o_attendsBy st17.2) → va_S A s.heap H locs → lv_has ls 4 [(0, .ref a_o), (1, .int v1), (2, .int st11.1), (3, .int st17.1)] → W p l e (rmd 0) s m aa below meth cd H locs 0 0 QQ (F0 m 17 ls [])) (G := (fun (e17 : (Nat → Int32)) => ∀ (H : Heap) (locs : List Loc) (ls : Array Slot), va_P E.1 vwCl (wd_X12_covers E a_o a_o_at a_o_names a_o_sort a_o_trayMany a_o_trays a_o_tape a_o_text a_o_opened a_o_farBy a_o_attendsBy a_o_coveredBy a_o_cameBy a_o_cameThen a_o_fallsBy a_o_loops a_o_ran a_o_told1 o_status o_top o_bottom o_taped o_size o_token o_from o_end o_value o_faultKind o_faultPlace o_faults o_seen o_toldParts o_depth o_counted o_becameThen o_firstCorner o_drawn o_ranSteps o_isTold o_marks o_at o_attendsBy e17) H → va_D A (wd_X12_covers E a_o a_o_at a_o_names a_o_sort a_o_trayMany a_o_trays a_o_tape a_o_text a_o_opened a_o_farBy a_o_attendsBy a_o_coveredBy a_o_cameBy a_o_cameThen a_o_fallsBy a_o_loops a_o_ran a_o_told1 o_status o_top o_bottom o_taped o_size o_token o_from o_end o_value o_faultKind o_faultPlace o_faults o_seen o_toldParts o_depth o_counted o_becameThen o_firstCorner o_drawn o_ranSteps o_isTold o_marks o_at o_attendsBy e17) → va_S A s.heap H locs → lv_has ls 4 [(0, .ref a_o), (1, .int v1), (2, .int st11.1)] → W p l e (rmd 0) s m aa below meth cd H locs 0 0 QQ (F0 m 74 ls []))) ?_ F (st11.1, st11.2) e17 hit17 ?_ _ _ _ hP hD hS (lv_sub hl [1, 2, 3, 0] rfl)
      · intro st17 r17 hf hk17 he17 H locs ls hP hD hS hl
        have hj65 : ∀ (v3_j65 : Int32) (o_coveredBy_j65 : Nat → Int32) (H : Heap) (locs : List Loc) (ls : Array Slot), X12_covers_j65 F o_at o_attendsBy o_coveredBy_j65 v1 st11.1 v3_j65 = some r17 → va_P E.1 vwCl (wd_X12_covers E a_o a_o_at a_o_names a_o_sort a_o_trayMany a_o_trays a_o_tape a_o_text a_o_opened a_o_farBy a_o_attendsBy a_o_coveredBy a_o_cameBy a_o_cameThen a_o_fallsBy a_o_loops a_o_ran a_o_told1 o_status o_top o_bottom o_taped o_size o_token o_from o_end o_value o_faultKind o_faultPlace o_faults o_seen o_toldParts o_depth o_counted o_becameThen o_firstCorner o_drawn o_ranSteps o_isTold o_marks o_at o_attendsBy o_coveredBy_j65) H → va_D A (wd_X12_covers E a_o a_o_at a_o_names a_o_sort a_o_trayMany a_o_trays a_o_tape a_o_text a_o_opened a_o_farBy a_o_attendsBy a_o_coveredBy a_o_cameBy a_o_cameThen a_o_fallsBy a_o_loops a_o_ran a_o_told1 o_status o_top o_bottom o_taped o_size o_token o_from o_end o_value o_faultKind o_faultPlace o_faults o_seen o_toldParts o_depth o_counted o_becameThen o_firstCorner o_drawn o_ranSteps o_isTold o_marks o_at o_attendsBy o_coveredBy_j65) → va_S A s.heap H locs → lv_has ls 4 [(0, .ref a_o), (1, .int v1), (2, .int st11.1), (3, .int v3_j65)] → W p l e (rmd 0) s m aa below meth cd H locs 0 0 QQ (F0 m 65 ls []) := by
          intro v3_j65 o_coveredBy_j65 H locs ls hf hP hD hS hl
          unfold X12_covers_j65 at hf
          refine lv_iload_n hx hb dX12_covers_65 rfl (lv_at hl 3 rfl) ?_
          refine lv_iconst (v := 1) hx hb dX12_covers_66 (by decide) ?_
          refine lv_isub hx hb dX12_covers_67 ?_
          refine lv_iload_n hx hb dX12_covers_68 rfl (lv_at hl 2 rfl) ?_
          refine lv_iand hx hb dX12_covers_69 ?_
          refine lv_istore_n (lv' := [(3, .int ((v3_j65 - 1) &&& st11.1)), (0, .ref a_o), (1, .int v1), (2, .int st11.1)]) hx hb dX12_covers_70 rfl hl (by decide) rfl (fun ls hl => ?_)
          refine lv_goto (tgt := 17) hx hb dX12_covers_71 (by decide) ?_
          exact hk17 _ (Option.some.inj hf).symm _ _ _ hP hD hS (lv_sub hl [1, 2, 3, 0] rfl)
        unfold X12_covers_b17 at hf
        refine lv_iload_n hx hb dX12_covers_17 rfl (lv_at hl 3 rfl) ?_
        refine lv_if_le (tgt := 74) hx hb dX12_covers_18 (by decide) (fun hc => ?_) (fun hc => ?_)
        · have hf := it_t hc hf
          exact he17 _ (Option.some.inj hf).symm _ _ _ hP hD hS (lv_sub hl [0, 1, 2] rfl)
        · have hf := it_f hc hf
          refine lv_aload_n hx hb dX12_covers_21 rfl (lv_at hl 0 rfl) ?_
          refine va_get (D := E.1) (ci := 12) (v := .ref a_o_coveredBy) (C := RX12) (T := TX12) (N := 39) hx hb hts inX12 hown hK hP 0 rfl rfl 27 (by decide) (hts _ fl_X12_54) (fun _ h9 => h9) rfl dX12_covers_22 ?_
          refine lv_iload_n hx hb dX12_covers_25 rfl (lv_at hl 2 rfl) ?_
          obtain ⟨hi, hf⟩ := ck hf
          refine r_zald 3 cx hP rfl hi dX12_covers_26 ?_
          refine lv_if_ne (tgt := 74) hx hb dX12_covers_27 (by decide) (fun hc => ?_) (fun hc => ?_)
          · have hf := it_f hc hf
            exact he17 _ (Option.some.inj hf).symm _ _ _ hP hD hS (lv_sub hl [0, 1, 2] rfl)
          · have hf := it_t hc hf
            refine lv_aload_n hx hb dX12_covers_30 rfl (lv_at hl 0 rfl) ?_
            refine va_get (D := E.1) (ci := 12) (v := .ref a_o_coveredBy) (C := RX12) (T := TX12) (N := 39) hx hb hts inX12 hown hK hP 0 rfl rfl 27 (by decide) (hts _ fl_X12_54) (fun _ h9 => h9) rfl dX12_covers_31 ?_
            refine lv_iload_n hx hb dX12_covers_34 rfl (lv_at hl 2 rfl) ?_
            refine lv_iload_n hx hb dX12_covers_35 rfl (lv_at hl 3 rfl) ?_
            refine lv_iconst (v := (-1)) hx hb dX12_covers_36 (by decide) ?_
            refine lv_ixor hx hb dX12_covers_37 ?_
            refine lv_iand hx hb dX12_covers_38 ?_
            obtain ⟨hi, hf⟩ := ck hf
            refine r_zald 3 cx hP rfl hi dX12_covers_39 ?_
            refine lv_if_eq (tgt := 65) hx hb dX12_covers_40 (by decide) (fun hc => ?_) (fun hc => ?_)
            · have hf := it_t hc hf
              exact hj65 _ _ _ _ _ hf hP hD hS (lv_sub hl [0, 1, 2, 3] rfl)
            · have hf := it_f hc hf
              refine lv_aload_n hx hb dX12_covers_43 rfl (lv_at hl 0 rfl) ?_
              refine va_get (D := E.1) (ci := 12) (v := .ref a_o_attendsBy) (C := RX12) (T := TX12) (N := 39) hx hb hts inX12 hown hK hP 0 rfl rfl 26 (by decide) (hts _ fl_X12_50) (fun _ h9 => h9) rfl dX12_covers_44 ?_
              refine lv_sipush (v := 256) hx hb dX12_covers_47 (by decide) ?_
              refine lv_iload_n hx hb dX12_covers_50 rfl (lv_at hl 1 rfl) ?_
              refine lv_imul hx hb dX12_covers_51 ?_
              refine lv_iload_n hx hb dX12_covers_52 rfl (lv_at hl 3 rfl) ?_
              refine lv_iadd hx hb dX12_covers_53 ?_
              obtain ⟨hi, hf⟩ := ck hf
              refine r_zald 2 cx hP rfl hi dX12_covers_54 ?_
              refine lv_if_eq (tgt := 65) hx hb dX12_covers_55 (by decide) (fun hc => ?_) (fun hc => ?_)
              · have hf := it_t hc hf
                exact hj65 _ _ _ _ _ hf hP hD hS (lv_sub hl [0, 1, 2, 3] rfl)
              · have hf := it_f hc hf
                refine lv_aload_n hx hb dX12_covers_58 rfl (lv_at hl 0 rfl) ?_
                refine va_get (D := E.1) (ci := 12) (v := .ref a_o_coveredBy) (C := RX12) (T := TX12) (N := 39) hx hb hts inX12 hown hK hP 0 rfl rfl 27 (by decide) (hts _ fl_X12_54) (fun _ h9 => h9) rfl dX12_covers_59 ?_
                refine lv_iload_n hx hb dX12_covers_62 rfl (lv_at hl 2 rfl) ?_
                refine lv_iconst (v := 1) hx hb dX12_covers_63 (by decide) ?_
                obtain ⟨hi, hf⟩ := ck hf
                refine r_zast 3 cx hP hD hS rfl hi dX12_covers_64 (fun H locs hP hD hS => ?_)
                have hP : va_P E.1 vwCl (wd_X12_covers E a_o a_o_at a_o_names a_o_sort a_o_trayMany a_o_trays a_o_tape a_o_text a_o_opened a_o_farBy a_o_attendsBy a_o_coveredBy a_o_cameBy a_o_cameThen a_o_fallsBy a_o_loops a_o_ran a_o_told1 o_status o_top o_bottom o_taped o_size o_token o_from o_end o_value o_faultKind o_faultPlace o_faults o_seen o_toldParts o_depth o_counted o_becameThen o_firstCorner o_drawn o_ranSteps o_isTold o_marks o_at o_attendsBy (jputZ st17.2 st11.1 1)) H := hP
                have hD : va_D A (wd_X12_covers E a_o a_o_at a_o_names a_o_sort a_o_trayMany a_o_trays a_o_tape a_o_text a_o_opened a_o_farBy a_o_attendsBy a_o_coveredBy a_o_cameBy a_o_cameThen a_o_fallsBy a_o_loops a_o_ran a_o_told1 o_status o_top o_bottom o_taped o_size o_token o_from o_end o_value o_faultKind o_faultPlace o_faults o_seen o_toldParts o_depth o_counted o_becameThen o_firstCorner o_drawn o_ranSteps o_isTold o_marks o_at o_attendsBy (jputZ st17.2 st11.1 1)) := hD
                exact hj65 _ _ _ _ _ hf hP hD hS (lv_sub hl [0, 1, 2, 3] rfl)
      · refine fun H locs ls hP hD hS hl => ?_
        exact hj74 _ _ _ _ _ hf hP hD hS (lv_sub hl [0, 1, 2] rfl)
  · refine fun H locs ls hP hD hS hl => ?_
    obtain rfl := Option.some.inj hf
    subst hq
    exact retV cx hP hD hS dX12_covers_80
def X12_areEnough_j23 (F : Nat) (o_at : Nat → Int32) (o_attendsBy : Nat → Int32) (o_coveredBy : Nat → Int32) (v1 : Int32) (v2 : Int32) (k0 : Int32) (k1 : Int32) : Option ((Int32 × (Nat → Int32)) ⊕ (((Nat → Int32)))) :=
  if ix k1 256 then
  some (.inl ((v2 + 1), (jputZ o_coveredBy k1 k0)))
  else none
def X12_areEnough_b2 (F : Nat) (o_at : Nat → Int32) (o_attendsBy : Nat → Int32) (v1 : Int32) (st2 : Int32 × (Nat → Int32)) : Option ((Int32 × (Nat → Int32)) ⊕ (((Nat → Int32)))) :=
  if (256 : Int32) ≤ st2.1 then
  some (.inr st2.2)
  else
  if st2.1 = 0 then
  X12_areEnough_j23 F o_at o_attendsBy st2.2 v1 st2.1 1 st2.1
  else
  X12_areEnough_j23 F o_at o_attendsBy st2.2 v1 st2.1 0 st2.1
def X12_areEnough_j56 (F : Nat) (o_at : Nat → Int32) (o_attendsBy : Nat → Int32) (o_coveredBy : Nat → Int32) (v1 : Int32) (v2 : Int32) : Option ((Int32 × (Nat → Int32)) ⊕ (((Nat → Int32)))) :=
  some (.inl ((v2 + 1), o_coveredBy))
def X12_areEnough_b32 (F : Nat) (o_at : Nat → Int32) (o_attendsBy : Nat → Int32) (v1 : Int32) (st32 : Int32 × (Nat → Int32)) : Option ((Int32 × (Nat → Int32)) ⊕ (((Nat → Int32)))) :=
  if ix 2 3097 then
  if (jat o_at 2) ≤ st32.1 then
  some (.inr st32.2)
  else
  (X12_isIn v1 st32.1).bind fun u45 =>
  if u45 = 0 then
  X12_areEnough_j56 F o_at o_attendsBy st32.2 v1 st32.1
  else
  (X12_covers F o_at o_attendsBy st32.2 st32.1).bind fun u53 =>
  X12_areEnough_j56 F o_at o_attendsBy u53 v1 st32.1
  else none
def X12_areEnough (F : Nat) (o_at : Nat → Int32) (o_attendsBy : Nat → Int32) (o_coveredBy : Nat → Int32) (v1 : Int32) : Option (Int32 × (Nat → Int32)) :=
  (iter (X12_areEnough_b2 F o_at o_attendsBy v1) F (0, o_coveredBy)).bind (fun (e2 : (Nat → Int32)) =>
    (iter (X12_areEnough_b32 F o_at o_attendsBy v1) F (0, e2)).bind (fun (e32 : (Nat → Int32)) =>
    (X12_ahead0 F o_at).bind fun u67 =>
  if ix u67 256 then
  if isZ (jat e32 u67) then some ((jat e32 u67), e32) else none
  else none))
abbrev wd_X12_areEnough (E : vE) (a_o a_o_at a_o_names a_o_sort a_o_trayMany a_o_trays a_o_tape a_o_text a_o_opened a_o_farBy a_o_attendsBy a_o_coveredBy a_o_cameBy a_o_cameThen a_o_fallsBy a_o_loops a_o_ran a_o_told1 : Nat) (o_status : Int32) (o_top : Int64) (o_bottom : Int64) (o_taped : Int32) (o_size : Int32) (o_token : Int32) (o_from : Int32) (o_end : Int32) (o_value : Int32) (o_faultKind : Int32) (o_faultPlace : Int32) (o_faults : Int32) (o_seen : Int32) (o_toldParts : Int32) (o_depth : Int32) (o_counted : Int32) (o_becameThen : Int32) (o_firstCorner : Int32) (o_drawn : Int32) (o_ranSteps : Int32) (o_isTold : Int32) (o_marks : Int32) (o_at : Nat → Int32) (o_attendsBy : Nat → Int32) (o_coveredBy : Nat → Int32) : va_W := [(a_o, .inr (12, [.ref a_o_at, .ref a_o_names, .int o_status, .long o_top, .long o_bottom, .ref a_o_sort, .ref a_o_trayMany, .ref a_o_trays, .ref a_o_tape, .ref a_o_text, .int o_taped, .int o_size, .int o_token, .int o_from, .int o_end, .int o_value, .int o_faultKind, .int o_faultPlace, .int o_faults, .int o_seen, .int o_toldParts, .ref a_o_opened, .int o_depth, .int o_counted, .ref a_o_farBy, .int o_becameThen, .ref a_o_attendsBy, .ref a_o_coveredBy, .ref a_o_cameBy, .ref a_o_cameThen, .int o_firstCorner, .ref a_o_fallsBy, .int o_drawn, .int o_ranSteps, .ref a_o_loops, .ref a_o_ran, .ref a_o_told1, .int o_isTold, .int o_marks])), (a_o_at, .inl (E.2.1, 3097, .inl o_at)), (a_o_attendsBy, .inl (E.2.2.2.2.1, 1792, .inl o_attendsBy)), (a_o_coveredBy, .inl (E.2.2.2.2.1, 256, .inl o_coveredBy))]
set_option maxHeartbeats 4000000 in
set_option maxRecDepth 100000 in
theorem ct_X12_areEnough (l : Launch) (E : vE) (F : Nat) (a_o a_o_at a_o_names a_o_sort a_o_trayMany a_o_trays a_o_tape a_o_text a_o_opened a_o_farBy a_o_attendsBy a_o_coveredBy a_o_cameBy a_o_cameThen a_o_fallsBy a_o_loops a_o_ran a_o_told1 : Nat) (o_status : Int32) (o_top : Int64) (o_bottom : Int64) (o_taped : Int32) (o_size : Int32) (o_token : Int32) (o_from : Int32) (o_end : Int32) (o_value : Int32) (o_faultKind : Int32) (o_faultPlace : Int32) (o_faults : Int32) (o_seen : Int32) (o_toldParts : Int32) (o_depth : Int32) (o_counted : Int32) (o_becameThen : Int32) (o_firstCorner : Int32) (o_drawn : Int32) (o_ranSteps : Int32) (o_isTold : Int32) (o_marks : Int32) (o_at : Nat → Int32) (o_attendsBy : Nat → Int32) (o_coveredBy : Nat → Int32) (v1 : Int32) (u : Int32 × (Nat → Int32)) (hf : X12_areEnough F o_at o_attendsBy o_coveredBy v1 = some u) :
    CtI l yX12_areEnough cX12_areEnough 3 (some .boolean) 4 E [.ref a_o, .int v1] (wd_X12_areEnough E a_o a_o_at a_o_names a_o_sort a_o_trayMany a_o_trays a_o_tape a_o_text a_o_opened a_o_farBy a_o_attendsBy a_o_coveredBy a_o_cameBy a_o_cameThen a_o_fallsBy a_o_loops a_o_ran a_o_told1 o_status o_top o_bottom o_taped o_size o_token o_from o_end o_value o_faultKind o_faultPlace o_faults o_seen o_toldParts o_depth o_counted o_becameThen o_firstCorner o_drawn o_ranSteps o_isTold o_marks o_at o_attendsBy o_coveredBy) (wd_X12_areEnough E a_o a_o_at a_o_names a_o_sort a_o_trayMany a_o_trays a_o_tape a_o_text a_o_opened a_o_farBy a_o_attendsBy a_o_coveredBy a_o_cameBy a_o_cameThen a_o_fallsBy a_o_loops a_o_ran a_o_told1 o_status o_top o_bottom o_taped o_size o_token o_from o_end o_value o_faultKind o_faultPlace o_faults o_seen o_toldParts o_depth o_counted o_becameThen o_firstCorner o_drawn o_ranSteps o_isTold o_marks o_at o_attendsBy u.2) u.1 := by
  refine ctI (by decide) (Nat.le_of_ble_eq_true rfl) ?_
  intro p e s m below meth cd A ls aa QQ hq cx hP hD hS hl
  obtain ⟨⟨hx, hb, hml, hown, hts⟩, hr, hlocks, hK, hA, hX⟩ := id cx
  have hl : lv_has ls 3 [(0, .ref a_o), (1, .int v1)] := hl
  unfold X12_areEnough at hf
  refine lv_iconst (v := 0) hx hb dX12_areEnough_0 (by decide) ?_
  refine lv_istore_n (lv' := [(2, .int 0), (0, .ref a_o), (1, .int v1)]) hx hb dX12_areEnough_1 rfl hl (by decide) rfl (fun ls hl => ?_)
  obtain ⟨e2, hit2, hf⟩ := bd hf
  refine iter_W (b := X12_areEnough_b2 F o_at o_attendsBy v1) (P := fun st2 => ∀ (H : Heap) (locs : List Loc) (ls : Array Slot), va_P E.1 vwCl (wd_X12_areEnough E a_o a_o_at a_o_names a_o_sort a_o_trayMany a_o_trays a_o_tape a_o_text a_o_opened a_o_farBy a_o_attendsBy a_o_coveredBy a_o_cameBy a_o_cameThen a_o_fallsBy a_o_loops a_o_ran a_o_told1 o_status o_top o_bottom o_taped o_size o_token o_from o_end o_value o_faultKind o_faultPlace o_faults o_seen o_toldParts o_depth o_counted o_becameThen o_firstCorner o_drawn o_ranSteps o_isTold o_marks o_at o_attendsBy st2.2) H → va_D A (wd_X12_areEnough E a_o a_o_at a_o_names a_o_sort a_o_trayMany a_o_trays a_o_tape a_o_text a_o_opened a_o_farBy a_o_attendsBy a_o_coveredBy a_o_cameBy a_o_cameThen a_o_fallsBy a_o_loops a_o_ran a_o_told1 o_status o_top o_bottom o_taped o_size o_token o_from o_end o_value o_faultKind o_faultPlace o_faults o_seen o_toldParts o_depth o_counted o_becameThen o_firstCorner o_drawn o_ranSteps o_isTold o_marks o_at o_attendsBy st2.2) → va_S A s.heap H locs → lv_has ls 3 [(0, .ref a_o), (1, .int v1), (2, .int st2.1)] → W p l e (rmd 4) s m aa below meth cd H locs 0 0 QQ (F0 m 2 ls [])) (G := (fun (e2 : (Nat → Int32)) => ∀ (H : Heap) (locs : List Loc) (ls : Array Slot), va_P E.1 vwCl (wd_X12_areEnough E a_o a_o_at a_o_names a_o_sort a_o_trayMany a_o_trays a_o_tape a_o_text a_o_opened a_o_farBy a_o_attendsBy a_o_coveredBy a_o_cameBy a_o_cameThen a_o_fallsBy a_o_loops a_o_ran a_o_told1 o_status o_top o_bottom o_taped o_size o_token o_from o_end o_value o_faultKind o_faultPlace o_faults o_seen o_toldParts o_depth o_counted o_becameThen o_firstCorner o_drawn o_ranSteps o_isTold o_marks o_at o_attendsBy e2) H → va_D A (wd_X12_areEnough E a_o a_o_at a_o_names a_o_sort a_o_trayMany a_o_trays a_o_tape a_o_text a_o_opened a_o_farBy a_o_attendsBy a_o_coveredBy a_o_cameBy a_o_cameThen a_o_fallsBy a_o_loops a_o_ran a_o_told1 o_status o_top o_bottom o_taped o_size o_token o_from o_end o_value o_faultKind o_faultPlace o_faults o_seen o_toldParts o_depth o_counted o_becameThen o_firstCorner o_drawn o_ranSteps o_isTold o_marks o_at o_attendsBy e2) → va_S A s.heap H locs → lv_has ls 3 [(0, .ref a_o), (1, .int v1)] → W p l e (rmd 4) s m aa below meth cd H locs 0 0 QQ (F0 m 30 ls []))) ?_ F (0, o_coveredBy) e2 hit2 ?_ _ _ _ hP hD hS (lv_sub hl [1, 2, 0] rfl)
  · intro st2 r2 hf hk2 he2 H locs ls hP hD hS hl
    have hj23 : ∀ (v2_j23 : Int32) (o_coveredBy_j23 : Nat → Int32) (k0_j23 : Int32) (k1_j23 : Int32) (H : Heap) (locs : List Loc) (ls : Array Slot), X12_areEnough_j23 F o_at o_attendsBy o_coveredBy_j23 v1 v2_j23 k0_j23 k1_j23 = some r2 → va_P E.1 vwCl (wd_X12_areEnough E a_o a_o_at a_o_names a_o_sort a_o_trayMany a_o_trays a_o_tape a_o_text a_o_opened a_o_farBy a_o_attendsBy a_o_coveredBy a_o_cameBy a_o_cameThen a_o_fallsBy a_o_loops a_o_ran a_o_told1 o_status o_top o_bottom o_taped o_size o_token o_from o_end o_value o_faultKind o_faultPlace o_faults o_seen o_toldParts o_depth o_counted o_becameThen o_firstCorner o_drawn o_ranSteps o_isTold o_marks o_at o_attendsBy o_coveredBy_j23) H → va_D A (wd_X12_areEnough E a_o a_o_at a_o_names a_o_sort a_o_trayMany a_o_trays a_o_tape a_o_text a_o_opened a_o_farBy a_o_attendsBy a_o_coveredBy a_o_cameBy a_o_cameThen a_o_fallsBy a_o_loops a_o_ran a_o_told1 o_status o_top o_bottom o_taped o_size o_token o_from o_end o_value o_faultKind o_faultPlace o_faults o_seen o_toldParts o_depth o_counted o_becameThen o_firstCorner o_drawn o_ranSteps o_isTold o_marks o_at o_attendsBy o_coveredBy_j23) → va_S A s.heap H locs → lv_has ls 3 [(0, .ref a_o), (1, .int v1), (2, .int v2_j23)] → W p l e (rmd 4) s m aa below meth cd H locs 0 0 QQ (F0 m 23 ls [.int k0_j23, .int k1_j23, .ref a_o_coveredBy]) := by
      intro v2_j23 o_coveredBy_j23 k0_j23 k1_j23 H locs ls hf hP hD hS hl
      unfold X12_areEnough_j23 at hf
      obtain ⟨hi, hf⟩ := ck hf
      refine r_zast 3 cx hP hD hS rfl hi dX12_areEnough_23 (fun H locs hP hD hS => ?_)
      have hP : va_P E.1 vwCl (wd_X12_areEnough E a_o a_o_at a_o_names a_o_sort a_o_trayMany a_o_trays a_o_tape a_o_text a_o_opened a_o_farBy a_o_attendsBy a_o_coveredBy a_o_cameBy a_o_cameThen a_o_fallsBy a_o_loops a_o_ran a_o_told1 o_status o_top o_bottom o_taped o_size o_token o_from o_end o_value o_faultKind o_faultPlace o_faults o_seen o_toldParts o_depth o_counted o_becameThen o_firstCorner o_drawn o_ranSteps o_isTold o_marks o_at o_attendsBy (jputZ o_coveredBy_j23 k1_j23 k0_j23)) H := hP
      have hD : va_D A (wd_X12_areEnough E a_o a_o_at a_o_names a_o_sort a_o_trayMany a_o_trays a_o_tape a_o_text a_o_opened a_o_farBy a_o_attendsBy a_o_coveredBy a_o_cameBy a_o_cameThen a_o_fallsBy a_o_loops a_o_ran a_o_told1 o_status o_top o_bottom o_taped o_size o_token o_from o_end o_value o_faultKind o_faultPlace o_faults o_seen o_toldParts o_depth o_counted o_becameThen o_firstCorner o_drawn o_ranSteps o_isTold o_marks o_at o_attendsBy (jputZ o_coveredBy_j23 k1_j23 k0_j23)) := hD
      refine lv_iinc (v := (v2_j23 + 1)) (lv' := [(2, .int (v2_j23 + 1)), (0, .ref a_o), (1, .int v1)]) hx hb dX12_areEnough_24 hl (k := 2) rfl rfl (by decide) rfl (fun ls hl => ?_)
      refine lv_goto (tgt := 2) hx hb dX12_areEnough_27 (by decide) ?_
      exact hk2 _ (Option.some.inj hf).symm _ _ _ hP hD hS (lv_sub hl [1, 2, 0] rfl)
    unfold X12_areEnough_b2 at hf
    refine lv_iload_n hx hb dX12_areEnough_2 rfl (lv_at hl 2 rfl) ?_
    refine lv_sipush (v := 256) hx hb dX12_areEnough_3 (by decide) ?_
    refine lv_icmp_ge (tgt := 30) hx hb dX12_areEnough_6 (by decide) (fun hc => ?_) (fun hc => ?_)
    · have hf := it_t hc hf
      exact he2 _ (Option.some.inj hf).symm _ _ _ hP hD hS (lv_sub hl [0, 1] rfl)
    · have hf := it_f hc hf
      refine lv_aload_n hx hb dX12_areEnough_9 rfl (lv_at hl 0 rfl) ?_
      refine va_get (D := E.1) (ci := 12) (v := .ref a_o_coveredBy) (C := RX12) (T := TX12) (N := 39) hx hb hts inX12 hown hK hP 0 rfl rfl 27 (by decide) (hts _ fl_X12_54) (fun _ h9 => h9) rfl dX12_areEnough_10 ?_
      refine lv_iload_n hx hb dX12_areEnough_13 rfl (lv_at hl 2 rfl) ?_
      refine lv_iload_n hx hb dX12_areEnough_14 rfl (lv_at hl 2 rfl) ?_
      refine lv_if_ne (tgt := 22) hx hb dX12_areEnough_15 (by decide) (fun hc => ?_) (fun hc => ?_)
      · have hf := it_f hc hf
        refine lv_iconst (v := 0) hx hb dX12_areEnough_22 (by decide) ?_
        exact hj23 _ _ _ _ _ _ _ hf hP hD hS (lv_sub hl [0, 1, 2] rfl)
      · have hf := it_t hc hf
        refine lv_iconst (v := 1) hx hb dX12_areEnough_18 (by decide) ?_
        refine lv_goto (tgt := 23) hx hb dX12_areEnough_19 (by decide) ?_
        exact hj23 _ _ _ _ _ _ _ hf hP hD hS (lv_sub hl [0, 1, 2] rfl)
  · refine fun H locs ls hP hD hS hl => ?_
    refine lv_iconst (v := 0) hx hb dX12_areEnough_30 (by decide) ?_
    refine lv_istore_n (lv' := [(2, .int 0), (0, .ref a_o), (1, .int v1)]) hx hb dX12_areEnough_31 rfl hl (by decide) rfl (fun ls hl => ?_)
    obtain ⟨e32, hit32, hf⟩ := bd hf
    refine iter_W (b := X12_areEnough_b32 F o_at o_attendsBy v1) (P := fun st32 => ∀ (H : Heap) (locs : List Loc) (ls : Array Slot), va_P E.1 vwCl (wd_X12_areEnough E a_o a_o_at a_o_names a_o_sort a_o_trayMany a_o_trays a_o_tape a_o_text a_o_opened a_o_farBy a_o_attendsBy a_o_coveredBy a_o_cameBy a_o_cameThen a_o_fallsBy a_o_loops a_o_ran a_o_told1 o_status o_top o_bottom o_taped o_size o_token o_from o_end o_value o_faultKind o_faultPlace o_faults o_seen o_toldParts o_depth o_counted o_becameThen o_firstCorner o_drawn o_ranSteps o_isTold o_marks o_at o_attendsBy st32.2) H → va_D A (wd_X12_areEnough E a_o a_o_at a_o_names a_o_sort a_o_trayMany a_o_trays a_o_tape a_o_text a_o_opened a_o_farBy a_o_attendsBy a_o_coveredBy a_o_cameBy a_o_cameThen a_o_fallsBy a_o_loops a_o_ran a_o_told1 o_status o_top o_bottom o_taped o_size o_token o_from o_end o_value o_faultKind o_faultPlace o_faults o_seen o_toldParts o_depth o_counted o_becameThen o_firstCorner o_drawn o_ranSteps o_isTold o_marks o_at o_attendsBy st32.2) → va_S A s.heap H locs → lv_has ls 3 [(0, .ref a_o), (1, .int v1), (2, .int st32.1)] → W p l e (rmd 4) s m aa below meth cd H locs 0 0 QQ (F0 m 32 ls [])) (G := (fun (e32 : (Nat → Int32)) => ∀ (H : Heap) (locs : List Loc) (ls : Array Slot), va_P E.1 vwCl (wd_X12_areEnough E a_o a_o_at a_o_names a_o_sort a_o_trayMany a_o_trays a_o_tape a_o_text a_o_opened a_o_farBy a_o_attendsBy a_o_coveredBy a_o_cameBy a_o_cameThen a_o_fallsBy a_o_loops a_o_ran a_o_told1 o_status o_top o_bottom o_taped o_size o_token o_from o_end o_value o_faultKind o_faultPlace o_faults o_seen o_toldParts o_depth o_counted o_becameThen o_firstCorner o_drawn o_ranSteps o_isTold o_marks o_at o_attendsBy e32) H → va_D A (wd_X12_areEnough E a_o a_o_at a_o_names a_o_sort a_o_trayMany a_o_trays a_o_tape a_o_text a_o_opened a_o_farBy a_o_attendsBy a_o_coveredBy a_o_cameBy a_o_cameThen a_o_fallsBy a_o_loops a_o_ran a_o_told1 o_status o_top o_bottom o_taped o_size o_token o_from o_end o_value o_faultKind o_faultPlace o_faults o_seen o_toldParts o_depth o_counted o_becameThen o_firstCorner o_drawn o_ranSteps o_isTold o_marks o_at o_attendsBy e32) → va_S A s.heap H locs → lv_has ls 3 [(0, .ref a_o)] → W p l e (rmd 4) s m aa below meth cd H locs 0 0 QQ (F0 m 62 ls []))) ?_ F (0, e2) e32 hit32 ?_ _ _ _ hP hD hS (lv_sub hl [1, 2, 0] rfl)
    · intro st32 r32 hf hk32 he32 H locs ls hP hD hS hl
      have hj56 : ∀ (v2_j56 : Int32) (o_coveredBy_j56 : Nat → Int32) (H : Heap) (locs : List Loc) (ls : Array Slot), X12_areEnough_j56 F o_at o_attendsBy o_coveredBy_j56 v1 v2_j56 = some r32 → va_P E.1 vwCl (wd_X12_areEnough E a_o a_o_at a_o_names a_o_sort a_o_trayMany a_o_trays a_o_tape a_o_text a_o_opened a_o_farBy a_o_attendsBy a_o_coveredBy a_o_cameBy a_o_cameThen a_o_fallsBy a_o_loops a_o_ran a_o_told1 o_status o_top o_bottom o_taped o_size o_token o_from o_end o_value o_faultKind o_faultPlace o_faults o_seen o_toldParts o_depth o_counted o_becameThen o_firstCorner o_drawn o_ranSteps o_isTold o_marks o_at o_attendsBy o_coveredBy_j56) H → va_D A (wd_X12_areEnough E a_o a_o_at a_o_names a_o_sort a_o_trayMany a_o_trays a_o_tape a_o_text a_o_opened a_o_farBy a_o_attendsBy a_o_coveredBy a_o_cameBy a_o_cameThen a_o_fallsBy a_o_loops a_o_ran a_o_told1 o_status o_top o_bottom o_taped o_size o_token o_from o_end o_value o_faultKind o_faultPlace o_faults o_seen o_toldParts o_depth o_counted o_becameThen o_firstCorner o_drawn o_ranSteps o_isTold o_marks o_at o_attendsBy o_coveredBy_j56) → va_S A s.heap H locs → lv_has ls 3 [(0, .ref a_o), (1, .int v1), (2, .int v2_j56)] → W p l e (rmd 4) s m aa below meth cd H locs 0 0 QQ (F0 m 56 ls []) := by
        intro v2_j56 o_coveredBy_j56 H locs ls hf hP hD hS hl
        unfold X12_areEnough_j56 at hf
        refine lv_iinc (v := (v2_j56 + 1)) (lv' := [(2, .int (v2_j56 + 1)), (0, .ref a_o), (1, .int v1)]) hx hb dX12_areEnough_56 hl (k := 2) rfl rfl (by decide) rfl (fun ls hl => ?_)
        refine lv_goto (tgt := 32) hx hb dX12_areEnough_59 (by decide) ?_
        exact hk32 _ (Option.some.inj hf).symm _ _ _ hP hD hS (lv_sub hl [1, 2, 0] rfl)
      unfold X12_areEnough_b32 at hf
      refine lv_iload_n hx hb dX12_areEnough_32 rfl (lv_at hl 2 rfl) ?_
      refine lv_aload_n hx hb dX12_areEnough_33 rfl (lv_at hl 0 rfl) ?_
      refine va_get (D := E.1) (ci := 12) (v := .ref a_o_at) (C := RX12) (T := TX12) (N := 39) hx hb hts inX12 hown hK hP 0 rfl rfl 0 (by decide) (hts _ fl_X12_7) (fun _ h9 => h9) rfl dX12_areEnough_34 ?_
      refine lv_iconst (v := 2) hx hb dX12_areEnough_37 (by decide) ?_
      obtain ⟨hi, hf⟩ := ck hf
      refine r_iald 1 cx hP rfl hi dX12_areEnough_38 ?_
      refine lv_icmp_ge (tgt := 62) hx hb dX12_areEnough_39 (by decide) (fun hc => ?_) (fun hc => ?_)
      · have hf := it_t hc hf
        exact he32 _ (Option.some.inj hf).symm _ _ _ hP hD hS (lv_sub hl [0] rfl)
      · have hf := it_f hc hf
        refine lv_aload_n hx hb dX12_areEnough_42 rfl (lv_at hl 0 rfl) ?_
        refine lv_iload_n hx hb dX12_areEnough_43 rfl (lv_at hl 1 rfl) ?_
        refine lv_iload_n hx hb dX12_areEnough_44 rfl (lv_at hl 2 rfl) ?_
        obtain ⟨u45, hu45, hf⟩ := bd hf
        refine keepVI (ct_X12_isIn l E a_o a_o_at a_o_names a_o_sort a_o_trayMany a_o_trays a_o_tape a_o_text a_o_opened a_o_farBy a_o_attendsBy a_o_coveredBy a_o_cameBy a_o_cameThen a_o_fallsBy a_o_loops a_o_ran a_o_told1 o_status o_top o_bottom o_taped o_size o_token o_from o_end o_value o_faultKind o_faultPlace o_faults o_seen o_toldParts o_depth o_counted o_becameThen o_firstCorner o_drawn o_ranSteps o_isTold o_marks v1 st32.1 u45 hu45) [0] cal_X12_isIn cav_X12_isIn lk_X12_327 cx hP hD hS hl dX12_areEnough_45 rfl rfl rfl rfl (Nat.le_of_ble_eq_true rfl) ⟨Nat.le_of_ble_eq_true rfl, Nat.le_of_ble_eq_true rfl⟩ rfl (by decide) (fun H locs hP hS => ?_)
        refine lv_if_eq (tgt := 56) hx hb dX12_areEnough_48 (by decide) (fun hc => ?_) (fun hc => ?_)
        · have hf := it_t hc hf
          exact hj56 _ _ _ _ _ hf hP hD hS (lv_sub hl [0, 1, 2] rfl)
        · have hf := it_f hc hf
          refine lv_aload_n hx hb dX12_areEnough_51 rfl (lv_at hl 0 rfl) ?_
          refine lv_iload_n hx hb dX12_areEnough_52 rfl (lv_at hl 2 rfl) ?_
          obtain ⟨u53, hu53, hf⟩ := bd hf
          refine callVV (wn := (wd_X12_areEnough E a_o a_o_at a_o_names a_o_sort a_o_trayMany a_o_trays a_o_tape a_o_text a_o_opened a_o_farBy a_o_attendsBy a_o_coveredBy a_o_cameBy a_o_cameThen a_o_fallsBy a_o_loops a_o_ran a_o_told1 o_status o_top o_bottom o_taped o_size o_token o_from o_end o_value o_faultKind o_faultPlace o_faults o_seen o_toldParts o_depth o_counted o_becameThen o_firstCorner o_drawn o_ranSteps o_isTold o_marks o_at o_attendsBy u53)) (n1 := 4) (ct_X12_covers l E F a_o a_o_at a_o_names a_o_sort a_o_trayMany a_o_trays a_o_tape a_o_text a_o_opened a_o_farBy a_o_attendsBy a_o_coveredBy a_o_cameBy a_o_cameThen a_o_fallsBy a_o_loops a_o_ran a_o_told1 o_status o_top o_bottom o_taped o_size o_token o_from o_end o_value o_faultKind o_faultPlace o_faults o_seen o_toldParts o_depth o_counted o_becameThen o_firstCorner o_drawn o_ranSteps o_isTold o_marks o_at o_attendsBy st32.2 st32.1 u53 hu53) [0, 1, 2, 3] cal_X12_covers cav_X12_covers lk_X12_411 cx hP hD hS hl dX12_areEnough_53 rfl rfl rfl rfl (Nat.le_of_ble_eq_true rfl) ⟨Nat.le_of_ble_eq_true rfl, Nat.le_of_ble_eq_true rfl⟩ rfl (by decide +kernel) rfl [some 0, some 1, some 2, some 3] rfl (by decide +kernel) rfl (fun H locs hP hD hS => ?_)
          exact hj56 _ _ _ _ _ hf hP hD hS (lv_sub hl [0, 1, 2] rfl)
    · refine fun H locs ls hP hD hS hl => ?_
      refine lv_aload_n hx hb dX12_areEnough_62 rfl (lv_at hl 0 rfl) ?_
      refine va_get (D := E.1) (ci := 12) (v := .ref a_o_coveredBy) (C := RX12) (T := TX12) (N := 39) hx hb hts inX12 hown hK hP 0 rfl rfl 27 (by decide) (hts _ fl_X12_54) (fun _ h9 => h9) rfl dX12_areEnough_63 ?_
      refine lv_aload_n hx hb dX12_areEnough_66 rfl (lv_at hl 0 rfl) ?_
      obtain ⟨u67, hu67, hf⟩ := bd hf
      refine keepVI (ct_X12_ahead0 l E F a_o a_o_at a_o_names a_o_sort a_o_trayMany a_o_trays a_o_tape a_o_text a_o_opened a_o_farBy a_o_attendsBy a_o_coveredBy a_o_cameBy a_o_cameThen a_o_fallsBy a_o_loops a_o_ran a_o_told1 o_status o_top o_bottom o_taped o_size o_token o_from o_end o_value o_faultKind o_faultPlace o_faults o_seen o_toldParts o_depth o_counted o_becameThen o_firstCorner o_drawn o_ranSteps o_isTold o_marks o_at u67 hu67) [0, 1] cal_X12_ahead0 cav_X12_ahead0 lk_X12_399 cx hP hD hS hl dX12_areEnough_67 rfl rfl rfl rfl (Nat.le_of_ble_eq_true rfl) ⟨Nat.le_of_ble_eq_true rfl, Nat.le_of_ble_eq_true rfl⟩ rfl (by decide) (fun H locs hP hS => ?_)
      obtain ⟨hi, hf⟩ := ck hf
      refine r_zald 3 cx hP rfl hi dX12_areEnough_70 ?_
      obtain ⟨hz, hf⟩ := ck hf
      obtain rfl := Option.some.inj hf
      subst hq
      exact retZ cx hz hP hD hS dX12_areEnough_71
def X12_fewestOf_j46 (F : Nat) (o_at : Nat → Int32) (o_farBy : Nat → Int32) (o_attendsBy : Nat → Int32) (o_coveredBy : Nat → Int32) (v1 : Int32) (v2 : Int32) : Option ((Int32 × Int32 × (Nat → Int32)) ⊕ ((Int32 × (Nat → Int32)))) :=
  some (.inl (v1, (v2 + 1), o_coveredBy))
def X12_fewestOf_j36 (F : Nat) (o_at : Nat → Int32) (o_farBy : Nat → Int32) (o_attendsBy : Nat → Int32) (o_coveredBy : Nat → Int32) (v1 : Int32) (v2 : Int32) : Option ((Int32 × Int32 × (Nat → Int32)) ⊕ ((Int32 × (Nat → Int32)))) :=
  (X12_areEnough F o_at o_attendsBy o_coveredBy v2).bind fun u38 =>
  if u38.1 = 0 then
  X12_fewestOf_j46 F o_at o_farBy o_attendsBy u38.2 v1 v2
  else
  X12_fewestOf_j46 F o_at o_farBy o_attendsBy u38.2 v2 v2
def X12_fewestOf_b8 (F : Nat) (o_at : Nat → Int32) (o_farBy : Nat → Int32) (o_attendsBy : Nat → Int32) (st8 : Int32 × Int32 × (Nat → Int32)) : Option ((Int32 × Int32 × (Nat → Int32)) ⊕ ((Int32 × (Nat → Int32)))) :=
  if ix 2 3097 then
  if (jshl 1 (jat o_at 2)) ≤ st8.2.1 then
  some (.inr (st8.1, st8.2.2))
  else
  if st8.1 = (-1) then
  X12_fewestOf_j36 F o_at o_farBy o_attendsBy st8.2.2 st8.1 st8.2.1
  else
  (X12_bits F st8.2.1).bind fun u26 =>
  (X12_bits F st8.1).bind fun u30 =>
  if u30 ≤ u26 then
  X12_fewestOf_j46 F o_at o_farBy o_attendsBy st8.2.2 st8.1 st8.2.1
  else
  X12_fewestOf_j36 F o_at o_farBy o_attendsBy st8.2.2 st8.1 st8.2.1
  else none
def X12_fewestOf (F : Nat) (o_at : Nat → Int32) (o_farBy : Nat → Int32) (o_attendsBy : Nat → Int32) (o_coveredBy : Nat → Int32) : Option (Int32 × (Nat → Int32) × (Nat → Int32) × (Nat → Int32)) :=
  (X12_laysAttends F o_at o_farBy o_attendsBy).bind fun u1 =>
  (iter (X12_fewestOf_b8 F o_at u1.1 u1.2) F ((-1), 0, o_coveredBy)).bind (fun (e8 : Int32 × (Nat → Int32)) =>
    some (e8.1, u1.1, u1.2, e8.2))
abbrev wd_X12_fewestOf (E : vE) (a_o a_o_at a_o_names a_o_sort a_o_trayMany a_o_trays a_o_tape a_o_text a_o_opened a_o_farBy a_o_attendsBy a_o_coveredBy a_o_cameBy a_o_cameThen a_o_fallsBy a_o_loops a_o_ran a_o_told1 : Nat) (o_status : Int32) (o_top : Int64) (o_bottom : Int64) (o_taped : Int32) (o_size : Int32) (o_token : Int32) (o_from : Int32) (o_end : Int32) (o_value : Int32) (o_faultKind : Int32) (o_faultPlace : Int32) (o_faults : Int32) (o_seen : Int32) (o_toldParts : Int32) (o_depth : Int32) (o_counted : Int32) (o_becameThen : Int32) (o_firstCorner : Int32) (o_drawn : Int32) (o_ranSteps : Int32) (o_isTold : Int32) (o_marks : Int32) (o_at : Nat → Int32) (o_farBy : Nat → Int32) (o_attendsBy : Nat → Int32) (o_coveredBy : Nat → Int32) : va_W := [(a_o, .inr (12, [.ref a_o_at, .ref a_o_names, .int o_status, .long o_top, .long o_bottom, .ref a_o_sort, .ref a_o_trayMany, .ref a_o_trays, .ref a_o_tape, .ref a_o_text, .int o_taped, .int o_size, .int o_token, .int o_from, .int o_end, .int o_value, .int o_faultKind, .int o_faultPlace, .int o_faults, .int o_seen, .int o_toldParts, .ref a_o_opened, .int o_depth, .int o_counted, .ref a_o_farBy, .int o_becameThen, .ref a_o_attendsBy, .ref a_o_coveredBy, .ref a_o_cameBy, .ref a_o_cameThen, .int o_firstCorner, .ref a_o_fallsBy, .int o_drawn, .int o_ranSteps, .ref a_o_loops, .ref a_o_ran, .ref a_o_told1, .int o_isTold, .int o_marks])), (a_o_at, .inl (E.2.1, 3097, .inl o_at)), (a_o_farBy, .inl (E.2.1, 64, .inl o_farBy)), (a_o_attendsBy, .inl (E.2.2.2.2.1, 1792, .inl o_attendsBy)), (a_o_coveredBy, .inl (E.2.2.2.2.1, 256, .inl o_coveredBy))]
set_option maxHeartbeats 4000000 in
set_option maxRecDepth 100000 in
theorem ct_X12_fewestOf (l : Launch) (E : vE) (F : Nat) (a_o a_o_at a_o_names a_o_sort a_o_trayMany a_o_trays a_o_tape a_o_text a_o_opened a_o_farBy a_o_attendsBy a_o_coveredBy a_o_cameBy a_o_cameThen a_o_fallsBy a_o_loops a_o_ran a_o_told1 : Nat) (o_status : Int32) (o_top : Int64) (o_bottom : Int64) (o_taped : Int32) (o_size : Int32) (o_token : Int32) (o_from : Int32) (o_end : Int32) (o_value : Int32) (o_faultKind : Int32) (o_faultPlace : Int32) (o_faults : Int32) (o_seen : Int32) (o_toldParts : Int32) (o_depth : Int32) (o_counted : Int32) (o_becameThen : Int32) (o_firstCorner : Int32) (o_drawn : Int32) (o_ranSteps : Int32) (o_isTold : Int32) (o_marks : Int32) (o_at : Nat → Int32) (o_farBy : Nat → Int32) (o_attendsBy : Nat → Int32) (o_coveredBy : Nat → Int32) (u : Int32 × (Nat → Int32) × (Nat → Int32) × (Nat → Int32)) (hf : X12_fewestOf F o_at o_farBy o_attendsBy o_coveredBy = some u) :
    CtI l yX12_fewestOf cX12_fewestOf 3 (some .int) 6 E [.ref a_o] (wd_X12_fewestOf E a_o a_o_at a_o_names a_o_sort a_o_trayMany a_o_trays a_o_tape a_o_text a_o_opened a_o_farBy a_o_attendsBy a_o_coveredBy a_o_cameBy a_o_cameThen a_o_fallsBy a_o_loops a_o_ran a_o_told1 o_status o_top o_bottom o_taped o_size o_token o_from o_end o_value o_faultKind o_faultPlace o_faults o_seen o_toldParts o_depth o_counted o_becameThen o_firstCorner o_drawn o_ranSteps o_isTold o_marks o_at o_farBy o_attendsBy o_coveredBy) (wd_X12_fewestOf E a_o a_o_at a_o_names a_o_sort a_o_trayMany a_o_trays a_o_tape a_o_text a_o_opened a_o_farBy a_o_attendsBy a_o_coveredBy a_o_cameBy a_o_cameThen a_o_fallsBy a_o_loops a_o_ran a_o_told1 o_status o_top o_bottom o_taped o_size o_token o_from o_end o_value o_faultKind o_faultPlace o_faults o_seen o_toldParts o_depth o_counted o_becameThen o_firstCorner o_drawn o_ranSteps o_isTold o_marks o_at u.2.1 u.2.2.1 u.2.2.2) u.1 := by
  refine ctI (by decide) (Nat.le_of_ble_eq_true rfl) ?_
  intro p e s m below meth cd A ls aa QQ hq cx hP hD hS hl
  obtain ⟨⟨hx, hb, hml, hown, hts⟩, hr, hlocks, hK, hA, hX⟩ := id cx
  have hl : lv_has ls 3 [(0, .ref a_o)] := hl
  unfold X12_fewestOf at hf
  refine lv_aload_n hx hb dX12_fewestOf_0 rfl (lv_at hl 0 rfl) ?_
  obtain ⟨u1, hu1, hf⟩ := bd hf
  refine callVV (wn := (wd_X12_fewestOf E a_o a_o_at a_o_names a_o_sort a_o_trayMany a_o_trays a_o_tape a_o_text a_o_opened a_o_farBy a_o_attendsBy a_o_coveredBy a_o_cameBy a_o_cameThen a_o_fallsBy a_o_loops a_o_ran a_o_told1 o_status o_top o_bottom o_taped o_size o_token o_from o_end o_value o_faultKind o_faultPlace o_faults o_seen o_toldParts o_depth o_counted o_becameThen o_firstCorner o_drawn o_ranSteps o_isTold o_marks o_at u1.1 u1.2 o_coveredBy)) (n1 := 5) (ct_X12_laysAttends l E F a_o a_o_at a_o_names a_o_sort a_o_trayMany a_o_trays a_o_tape a_o_text a_o_opened a_o_farBy a_o_attendsBy a_o_coveredBy a_o_cameBy a_o_cameThen a_o_fallsBy a_o_loops a_o_ran a_o_told1 o_status o_top o_bottom o_taped o_size o_token o_from o_end o_value o_faultKind o_faultPlace o_faults o_seen o_toldParts o_depth o_counted o_becameThen o_firstCorner o_drawn o_ranSteps o_isTold o_marks o_at o_farBy o_attendsBy u1 hu1) [0, 1, 2, 3] cal_X12_laysAttends cav_X12_laysAttends lk_X12_414 cx hP hD hS hl dX12_fewestOf_1 rfl rfl rfl rfl (Nat.le_of_ble_eq_true rfl) ⟨Nat.le_of_ble_eq_true rfl, Nat.le_of_ble_eq_true rfl⟩ rfl (by decide +kernel) rfl [some 0, some 1, some 2, some 3, none] rfl (by decide +kernel) rfl (fun H locs hP hD hS => ?_)
  refine lv_iconst (v := (-1)) hx hb dX12_fewestOf_4 (by decide) ?_
  refine lv_istore_n (lv' := [(1, .int (-1)), (0, .ref a_o)]) hx hb dX12_fewestOf_5 rfl hl (by decide) rfl (fun ls hl => ?_)
  refine lv_iconst (v := 0) hx hb dX12_fewestOf_6 (by decide) ?_
  refine lv_istore_n (lv' := [(2, .int 0), (1, .int (-1)), (0, .ref a_o)]) hx hb dX12_fewestOf_7 rfl hl (by decide) rfl (fun ls hl => ?_)
  obtain ⟨e8, hit8, hf⟩ := bd hf
  refine iter_W (b := X12_fewestOf_b8 F o_at u1.1 u1.2) (P := fun st8 => ∀ (H : Heap) (locs : List Loc) (ls : Array Slot), va_P E.1 vwCl (wd_X12_fewestOf E a_o a_o_at a_o_names a_o_sort a_o_trayMany a_o_trays a_o_tape a_o_text a_o_opened a_o_farBy a_o_attendsBy a_o_coveredBy a_o_cameBy a_o_cameThen a_o_fallsBy a_o_loops a_o_ran a_o_told1 o_status o_top o_bottom o_taped o_size o_token o_from o_end o_value o_faultKind o_faultPlace o_faults o_seen o_toldParts o_depth o_counted o_becameThen o_firstCorner o_drawn o_ranSteps o_isTold o_marks o_at u1.1 u1.2 st8.2.2) H → va_D A (wd_X12_fewestOf E a_o a_o_at a_o_names a_o_sort a_o_trayMany a_o_trays a_o_tape a_o_text a_o_opened a_o_farBy a_o_attendsBy a_o_coveredBy a_o_cameBy a_o_cameThen a_o_fallsBy a_o_loops a_o_ran a_o_told1 o_status o_top o_bottom o_taped o_size o_token o_from o_end o_value o_faultKind o_faultPlace o_faults o_seen o_toldParts o_depth o_counted o_becameThen o_firstCorner o_drawn o_ranSteps o_isTold o_marks o_at u1.1 u1.2 st8.2.2) → va_S A s.heap H locs → lv_has ls 3 [(0, .ref a_o), (1, .int st8.1), (2, .int st8.2.1)] → W p l e (rmd 6) s m aa below meth cd H locs 0 0 QQ (F0 m 8 ls [])) (G := (fun (e8 : Int32 × (Nat → Int32)) => ∀ (H : Heap) (locs : List Loc) (ls : Array Slot), va_P E.1 vwCl (wd_X12_fewestOf E a_o a_o_at a_o_names a_o_sort a_o_trayMany a_o_trays a_o_tape a_o_text a_o_opened a_o_farBy a_o_attendsBy a_o_coveredBy a_o_cameBy a_o_cameThen a_o_fallsBy a_o_loops a_o_ran a_o_told1 o_status o_top o_bottom o_taped o_size o_token o_from o_end o_value o_faultKind o_faultPlace o_faults o_seen o_toldParts o_depth o_counted o_becameThen o_firstCorner o_drawn o_ranSteps o_isTold o_marks o_at u1.1 u1.2 e8.2) H → va_D A (wd_X12_fewestOf E a_o a_o_at a_o_names a_o_sort a_o_trayMany a_o_trays a_o_tape a_o_text a_o_opened a_o_farBy a_o_attendsBy a_o_coveredBy a_o_cameBy a_o_cameThen a_o_fallsBy a_o_loops a_o_ran a_o_told1 o_status o_top o_bottom o_taped o_size o_token o_from o_end o_value o_faultKind o_faultPlace o_faults o_seen o_toldParts o_depth o_counted o_becameThen o_firstCorner o_drawn o_ranSteps o_isTold o_marks o_at u1.1 u1.2 e8.2) → va_S A s.heap H locs → lv_has ls 3 [(1, .int e8.1)] → W p l e (rmd 6) s m aa below meth cd H locs 0 0 QQ (F0 m 52 ls []))) ?_ F ((-1), 0, o_coveredBy) e8 hit8 ?_ _ _ _ hP hD hS (lv_sub hl [2, 1, 0] rfl)
  · intro st8 r8 hf hk8 he8 H locs ls hP hD hS hl
    have hj46 : ∀ (v1_j46 : Int32) (v2_j46 : Int32) (o_coveredBy_j46 : Nat → Int32) (H : Heap) (locs : List Loc) (ls : Array Slot), X12_fewestOf_j46 F o_at u1.1 u1.2 o_coveredBy_j46 v1_j46 v2_j46 = some r8 → va_P E.1 vwCl (wd_X12_fewestOf E a_o a_o_at a_o_names a_o_sort a_o_trayMany a_o_trays a_o_tape a_o_text a_o_opened a_o_farBy a_o_attendsBy a_o_coveredBy a_o_cameBy a_o_cameThen a_o_fallsBy a_o_loops a_o_ran a_o_told1 o_status o_top o_bottom o_taped o_size o_token o_from o_end o_value o_faultKind o_faultPlace o_faults o_seen o_toldParts o_depth o_counted o_becameThen o_firstCorner o_drawn o_ranSteps o_isTold o_marks o_at u1.1 u1.2 o_coveredBy_j46) H → va_D A (wd_X12_fewestOf E a_o a_o_at a_o_names a_o_sort a_o_trayMany a_o_trays a_o_tape a_o_text a_o_opened a_o_farBy a_o_attendsBy a_o_coveredBy a_o_cameBy a_o_cameThen a_o_fallsBy a_o_loops a_o_ran a_o_told1 o_status o_top o_bottom o_taped o_size o_token o_from o_end o_value o_faultKind o_faultPlace o_faults o_seen o_toldParts o_depth o_counted o_becameThen o_firstCorner o_drawn o_ranSteps o_isTold o_marks o_at u1.1 u1.2 o_coveredBy_j46) → va_S A s.heap H locs → lv_has ls 3 [(0, .ref a_o), (1, .int v1_j46), (2, .int v2_j46)] → W p l e (rmd 6) s m aa below meth cd H locs 0 0 QQ (F0 m 46 ls []) := by
      intro v1_j46 v2_j46 o_coveredBy_j46 H locs ls hf hP hD hS hl
      unfold X12_fewestOf_j46 at hf
      refine lv_iinc (v := (v2_j46 + 1)) (lv' := [(2, .int (v2_j46 + 1)), (0, .ref a_o), (1, .int v1_j46)]) hx hb dX12_fewestOf_46 hl (k := 2) rfl rfl (by decide) rfl (fun ls hl => ?_)
      refine lv_goto (tgt := 8) hx hb dX12_fewestOf_49 (by decide) ?_
      exact hk8 _ (Option.some.inj hf).symm _ _ _ hP hD hS (lv_sub hl [1, 2, 0] rfl)
    have hj36 : ∀ (v1_j36 : Int32) (v2_j36 : Int32) (o_coveredBy_j36 : Nat → Int32) (H : Heap) (locs : List Loc) (ls : Array Slot), X12_fewestOf_j36 F o_at u1.1 u1.2 o_coveredBy_j36 v1_j36 v2_j36 = some r8 → va_P E.1 vwCl (wd_X12_fewestOf E a_o a_o_at a_o_names a_o_sort a_o_trayMany a_o_trays a_o_tape a_o_text a_o_opened a_o_farBy a_o_attendsBy a_o_coveredBy a_o_cameBy a_o_cameThen a_o_fallsBy a_o_loops a_o_ran a_o_told1 o_status o_top o_bottom o_taped o_size o_token o_from o_end o_value o_faultKind o_faultPlace o_faults o_seen o_toldParts o_depth o_counted o_becameThen o_firstCorner o_drawn o_ranSteps o_isTold o_marks o_at u1.1 u1.2 o_coveredBy_j36) H → va_D A (wd_X12_fewestOf E a_o a_o_at a_o_names a_o_sort a_o_trayMany a_o_trays a_o_tape a_o_text a_o_opened a_o_farBy a_o_attendsBy a_o_coveredBy a_o_cameBy a_o_cameThen a_o_fallsBy a_o_loops a_o_ran a_o_told1 o_status o_top o_bottom o_taped o_size o_token o_from o_end o_value o_faultKind o_faultPlace o_faults o_seen o_toldParts o_depth o_counted o_becameThen o_firstCorner o_drawn o_ranSteps o_isTold o_marks o_at u1.1 u1.2 o_coveredBy_j36) → va_S A s.heap H locs → lv_has ls 3 [(0, .ref a_o), (1, .int v1_j36), (2, .int v2_j36)] → W p l e (rmd 6) s m aa below meth cd H locs 0 0 QQ (F0 m 36 ls []) := by
      intro v1_j36 v2_j36 o_coveredBy_j36 H locs ls hf hP hD hS hl
      unfold X12_fewestOf_j36 at hf
      refine lv_aload_n hx hb dX12_fewestOf_36 rfl (lv_at hl 0 rfl) ?_
      refine lv_iload_n hx hb dX12_fewestOf_37 rfl (lv_at hl 2 rfl) ?_
      obtain ⟨u38, hu38, hf⟩ := bd hf
      refine callVI (wn := (wd_X12_fewestOf E a_o a_o_at a_o_names a_o_sort a_o_trayMany a_o_trays a_o_tape a_o_text a_o_opened a_o_farBy a_o_attendsBy a_o_coveredBy a_o_cameBy a_o_cameThen a_o_fallsBy a_o_loops a_o_ran a_o_told1 o_status o_top o_bottom o_taped o_size o_token o_from o_end o_value o_faultKind o_faultPlace o_faults o_seen o_toldParts o_depth o_counted o_becameThen o_firstCorner o_drawn o_ranSteps o_isTold o_marks o_at u1.1 u1.2 u38.2)) (n1 := 5) (ct_X12_areEnough l E F a_o a_o_at a_o_names a_o_sort a_o_trayMany a_o_trays a_o_tape a_o_text a_o_opened a_o_farBy a_o_attendsBy a_o_coveredBy a_o_cameBy a_o_cameThen a_o_fallsBy a_o_loops a_o_ran a_o_told1 o_status o_top o_bottom o_taped o_size o_token o_from o_end o_value o_faultKind o_faultPlace o_faults o_seen o_toldParts o_depth o_counted o_becameThen o_firstCorner o_drawn o_ranSteps o_isTold o_marks o_at u1.2 o_coveredBy_j36 v2_j36 u38 hu38) [0, 1, 3, 4] cal_X12_areEnough cav_X12_areEnough lk_X12_417 cx hP hD hS hl dX12_fewestOf_38 rfl rfl rfl rfl (Nat.le_of_ble_eq_true rfl) ⟨Nat.le_of_ble_eq_true rfl, Nat.le_of_ble_eq_true rfl⟩ rfl (by decide +kernel) rfl [some 0, some 1, none, some 2, some 3] rfl (by decide +kernel) rfl (fun H locs hP hD hS => ?_)
      refine lv_if_eq (tgt := 46) hx hb dX12_fewestOf_41 (by decide) (fun hc => ?_) (fun hc => ?_)
      · have hf := it_t hc hf
        exact hj46 _ _ _ _ _ _ hf hP hD hS (lv_sub hl [0, 1, 2] rfl)
      · have hf := it_f hc hf
        refine lv_iload_n hx hb dX12_fewestOf_44 rfl (lv_at hl 2 rfl) ?_
        refine lv_istore_n (lv' := [(1, .int v2_j36), (0, .ref a_o), (2, .int v2_j36)]) hx hb dX12_fewestOf_45 rfl hl (by decide) rfl (fun ls hl => ?_)
        exact hj46 _ _ _ _ _ _ hf hP hD hS (lv_sub hl [1, 0, 2] rfl)
    unfold X12_fewestOf_b8 at hf
    refine lv_iload_n hx hb dX12_fewestOf_8 rfl (lv_at hl 2 rfl) ?_
    refine lv_iconst (v := 1) hx hb dX12_fewestOf_9 (by decide) ?_
    refine lv_aload_n hx hb dX12_fewestOf_10 rfl (lv_at hl 0 rfl) ?_
    refine va_get (D := E.1) (ci := 12) (v := .ref a_o_at) (C := RX12) (T := TX12) (N := 39) hx hb hts inX12 hown hK hP 0 rfl rfl 0 (by decide) (hts _ fl_X12_7) (fun _ h9 => h9) rfl dX12_fewestOf_11 ?_
    refine lv_iconst (v := 2) hx hb dX12_fewestOf_14 (by decide) ?_
    obtain ⟨hi, hf⟩ := ck hf
    refine r_iald 1 cx hP rfl hi dX12_fewestOf_15 ?_
    refine r_ishl hx hb dX12_fewestOf_16 ?_
    refine lv_icmp_ge (tgt := 52) hx hb dX12_fewestOf_17 (by decide) (fun hc => ?_) (fun hc => ?_)
    · have hf := it_t hc hf
      exact he8 _ (Option.some.inj hf).symm _ _ _ hP hD hS (lv_sub hl [1] rfl)
    · have hf := it_f hc hf
      refine lv_iload_n hx hb dX12_fewestOf_20 rfl (lv_at hl 1 rfl) ?_
      refine lv_iconst (v := (-1)) hx hb dX12_fewestOf_21 (by decide) ?_
      refine lv_icmp_eq (tgt := 36) hx hb dX12_fewestOf_22 (by decide) (fun hc => ?_) (fun hc => ?_)
      · have hf := it_t hc hf
        exact hj36 _ _ _ _ _ _ hf hP hD hS (lv_sub hl [0, 1, 2] rfl)
      · have hf := it_f hc hf
        refine lv_iload_n hx hb dX12_fewestOf_25 rfl (lv_at hl 2 rfl) ?_
        obtain ⟨u26, hu26, hf⟩ := bd hf
        refine keepSI (ct_X12_bits l E F st8.2.1 u26 hu26) [] cal_X12_bits sta_X12_bits lk_X12_302 cx hP hD hS hl dX12_fewestOf_26 rfl rfl (Nat.le_of_ble_eq_true rfl) ⟨Nat.le_of_ble_eq_true rfl, Nat.le_of_ble_eq_true rfl⟩ rfl (by decide) (fun H locs hP hS => ?_)
        refine lv_iload_n hx hb dX12_fewestOf_29 rfl (lv_at hl 1 rfl) ?_
        obtain ⟨u30, hu30, hf⟩ := bd hf
        refine keepSI (ct_X12_bits l E F st8.1 u30 hu30) [] cal_X12_bits sta_X12_bits lk_X12_302 cx hP hD hS hl dX12_fewestOf_30 rfl rfl (Nat.le_of_ble_eq_true rfl) ⟨Nat.le_of_ble_eq_true rfl, Nat.le_of_ble_eq_true rfl⟩ rfl (by decide) (fun H locs hP hS => ?_)
        refine lv_icmp_ge (tgt := 46) hx hb dX12_fewestOf_33 (by decide) (fun hc => ?_) (fun hc => ?_)
        · have hf := it_t hc hf
          exact hj46 _ _ _ _ _ _ hf hP hD hS (lv_sub hl [0, 1, 2] rfl)
        · have hf := it_f hc hf
          exact hj36 _ _ _ _ _ _ hf hP hD hS (lv_sub hl [0, 1, 2] rfl)
  · refine fun H locs ls hP hD hS hl => ?_
    refine lv_iload_n hx hb dX12_fewestOf_52 rfl (lv_at hl 0 rfl) ?_
    obtain rfl := Option.some.inj hf
    subst hq
    exact retI cx hP hD hS dX12_fewestOf_53
def X12_fewest (F : Nat) (o_status : Int32) (o_at : Nat → Int32) (o_farBy : Nat → Int32) (o_attendsBy : Nat → Int32) (o_coveredBy : Nat → Int32) : Option (Int32 × Int32 × (Nat → Int32) × (Nat → Int32) × (Nat → Int32)) :=
  (X12_fewestOf F o_at o_farBy o_attendsBy o_coveredBy).bind fun u1 =>
  if u1.1 = (-1) then
  (X12_refuse o_status (6 : Int32)).bind fun u13 =>
  some (u13.1, u13.2, u1.2.1, u1.2.2.1, u1.2.2.2)
  else
  (X12_bits F u1.1).bind fun u21 =>
  (X12_gives o_status u21).bind fun u24 =>
  some (u24.1, u24.2, u1.2.1, u1.2.2.1, u1.2.2.2)
abbrev wd_X12_fewest (E : vE) (a_o a_o_at a_o_names a_o_sort a_o_trayMany a_o_trays a_o_tape a_o_text a_o_opened a_o_farBy a_o_attendsBy a_o_coveredBy a_o_cameBy a_o_cameThen a_o_fallsBy a_o_loops a_o_ran a_o_told1 : Nat) (o_status : Int32) (o_top : Int64) (o_bottom : Int64) (o_taped : Int32) (o_size : Int32) (o_token : Int32) (o_from : Int32) (o_end : Int32) (o_value : Int32) (o_faultKind : Int32) (o_faultPlace : Int32) (o_faults : Int32) (o_seen : Int32) (o_toldParts : Int32) (o_depth : Int32) (o_counted : Int32) (o_becameThen : Int32) (o_firstCorner : Int32) (o_drawn : Int32) (o_ranSteps : Int32) (o_isTold : Int32) (o_marks : Int32) (o_at : Nat → Int32) (o_farBy : Nat → Int32) (o_attendsBy : Nat → Int32) (o_coveredBy : Nat → Int32) : va_W := [(a_o, .inr (12, [.ref a_o_at, .ref a_o_names, .int o_status, .long o_top, .long o_bottom, .ref a_o_sort, .ref a_o_trayMany, .ref a_o_trays, .ref a_o_tape, .ref a_o_text, .int o_taped, .int o_size, .int o_token, .int o_from, .int o_end, .int o_value, .int o_faultKind, .int o_faultPlace, .int o_faults, .int o_seen, .int o_toldParts, .ref a_o_opened, .int o_depth, .int o_counted, .ref a_o_farBy, .int o_becameThen, .ref a_o_attendsBy, .ref a_o_coveredBy, .ref a_o_cameBy, .ref a_o_cameThen, .int o_firstCorner, .ref a_o_fallsBy, .int o_drawn, .int o_ranSteps, .ref a_o_loops, .ref a_o_ran, .ref a_o_told1, .int o_isTold, .int o_marks])), (a_o_at, .inl (E.2.1, 3097, .inl o_at)), (a_o_farBy, .inl (E.2.1, 64, .inl o_farBy)), (a_o_attendsBy, .inl (E.2.2.2.2.1, 1792, .inl o_attendsBy)), (a_o_coveredBy, .inl (E.2.2.2.2.1, 256, .inl o_coveredBy))]
set_option maxHeartbeats 4000000 in
set_option maxRecDepth 100000 in
theorem ct_X12_fewest (l : Launch) (E : vE) (F : Nat) (a_o a_o_at a_o_names a_o_sort a_o_trayMany a_o_trays a_o_tape a_o_text a_o_opened a_o_farBy a_o_attendsBy a_o_coveredBy a_o_cameBy a_o_cameThen a_o_fallsBy a_o_loops a_o_ran a_o_told1 : Nat) (o_status : Int32) (o_top : Int64) (o_bottom : Int64) (o_taped : Int32) (o_size : Int32) (o_token : Int32) (o_from : Int32) (o_end : Int32) (o_value : Int32) (o_faultKind : Int32) (o_faultPlace : Int32) (o_faults : Int32) (o_seen : Int32) (o_toldParts : Int32) (o_depth : Int32) (o_counted : Int32) (o_becameThen : Int32) (o_firstCorner : Int32) (o_drawn : Int32) (o_ranSteps : Int32) (o_isTold : Int32) (o_marks : Int32) (o_at : Nat → Int32) (o_farBy : Nat → Int32) (o_attendsBy : Nat → Int32) (o_coveredBy : Nat → Int32) (u : Int32 × Int32 × (Nat → Int32) × (Nat → Int32) × (Nat → Int32)) (hf : X12_fewest F o_status o_at o_farBy o_attendsBy o_coveredBy = some u) :
    CtI l yX12_fewest cX12_fewest 2 (some .int) 7 E [.ref a_o] (wd_X12_fewest E a_o a_o_at a_o_names a_o_sort a_o_trayMany a_o_trays a_o_tape a_o_text a_o_opened a_o_farBy a_o_attendsBy a_o_coveredBy a_o_cameBy a_o_cameThen a_o_fallsBy a_o_loops a_o_ran a_o_told1 o_status o_top o_bottom o_taped o_size o_token o_from o_end o_value o_faultKind o_faultPlace o_faults o_seen o_toldParts o_depth o_counted o_becameThen o_firstCorner o_drawn o_ranSteps o_isTold o_marks o_at o_farBy o_attendsBy o_coveredBy) (wd_X12_fewest E a_o a_o_at a_o_names a_o_sort a_o_trayMany a_o_trays a_o_tape a_o_text a_o_opened a_o_farBy a_o_attendsBy a_o_coveredBy a_o_cameBy a_o_cameThen a_o_fallsBy a_o_loops a_o_ran a_o_told1 u.2.1 o_top o_bottom o_taped o_size o_token o_from o_end o_value o_faultKind o_faultPlace o_faults o_seen o_toldParts o_depth o_counted o_becameThen o_firstCorner o_drawn o_ranSteps o_isTold o_marks o_at u.2.2.1 u.2.2.2.1 u.2.2.2.2) u.1 := by
  refine ctI (by decide) (Nat.le_of_ble_eq_true rfl) ?_
  intro p e s m below meth cd A ls aa QQ hq cx hP hD hS hl
  obtain ⟨⟨hx, hb, hml, hown, hts⟩, hr, hlocks, hK, hA, hX⟩ := id cx
  have hl : lv_has ls 2 [(0, .ref a_o)] := hl
  unfold X12_fewest at hf
  refine lv_aload_n hx hb dX12_fewest_0 rfl (lv_at hl 0 rfl) ?_
  obtain ⟨u1, hu1, hf⟩ := bd hf
  refine callVI (wn := (wd_X12_fewest E a_o a_o_at a_o_names a_o_sort a_o_trayMany a_o_trays a_o_tape a_o_text a_o_opened a_o_farBy a_o_attendsBy a_o_coveredBy a_o_cameBy a_o_cameThen a_o_fallsBy a_o_loops a_o_ran a_o_told1 o_status o_top o_bottom o_taped o_size o_token o_from o_end o_value o_faultKind o_faultPlace o_faults o_seen o_toldParts o_depth o_counted o_becameThen o_firstCorner o_drawn o_ranSteps o_isTold o_marks o_at u1.2.1 u1.2.2.1 u1.2.2.2)) (n1 := 5) (ct_X12_fewestOf l E F a_o a_o_at a_o_names a_o_sort a_o_trayMany a_o_trays a_o_tape a_o_text a_o_opened a_o_farBy a_o_attendsBy a_o_coveredBy a_o_cameBy a_o_cameThen a_o_fallsBy a_o_loops a_o_ran a_o_told1 o_status o_top o_bottom o_taped o_size o_token o_from o_end o_value o_faultKind o_faultPlace o_faults o_seen o_toldParts o_depth o_counted o_becameThen o_firstCorner o_drawn o_ranSteps o_isTold o_marks o_at o_farBy o_attendsBy o_coveredBy u1 hu1) [0, 1, 2, 3, 4] cal_X12_fewestOf cav_X12_fewestOf lk_X12_420 cx hP hD hS hl dX12_fewest_1 rfl rfl rfl rfl (Nat.le_of_ble_eq_true rfl) ⟨Nat.le_of_ble_eq_true rfl, Nat.le_of_ble_eq_true rfl⟩ rfl (by decide +kernel) rfl [some 0, some 1, some 2, some 3, some 4] rfl (by decide +kernel) rfl (fun H locs hP hD hS => ?_)
  refine lv_istore_n (lv' := [(1, .int u1.1), (0, .ref a_o)]) hx hb dX12_fewest_4 rfl hl (by decide) rfl (fun ls hl => ?_)
  refine lv_iload_n hx hb dX12_fewest_5 rfl (lv_at hl 0 rfl) ?_
  refine lv_iconst (v := (-1)) hx hb dX12_fewest_6 (by decide) ?_
  refine lv_icmp_ne (tgt := 19) hx hb dX12_fewest_7 (by decide) (fun hc => ?_) (fun hc => ?_)
  · have hf := it_f hc hf
    refine lv_aload_n hx hb dX12_fewest_19 rfl (lv_at hl 1 rfl) ?_
    refine lv_iload_n hx hb dX12_fewest_20 rfl (lv_at hl 0 rfl) ?_
    obtain ⟨u21, hu21, hf⟩ := bd hf
    refine keepSI (ct_X12_bits l E F u1.1 u21 hu21) [] cal_X12_bits sta_X12_bits lk_X12_302 cx hP hD hS hl dX12_fewest_21 rfl rfl (Nat.le_of_ble_eq_true rfl) ⟨Nat.le_of_ble_eq_true rfl, Nat.le_of_ble_eq_true rfl⟩ rfl (by decide) (fun H locs hP hS => ?_)
    obtain ⟨u24, hu24, hf⟩ := bd hf
    refine callVI (wn := (wd_X12_fewest E a_o a_o_at a_o_names a_o_sort a_o_trayMany a_o_trays a_o_tape a_o_text a_o_opened a_o_farBy a_o_attendsBy a_o_coveredBy a_o_cameBy a_o_cameThen a_o_fallsBy a_o_loops a_o_ran a_o_told1 u24.2 o_top o_bottom o_taped o_size o_token o_from o_end o_value o_faultKind o_faultPlace o_faults o_seen o_toldParts o_depth o_counted o_becameThen o_firstCorner o_drawn o_ranSteps o_isTold o_marks o_at u1.2.1 u1.2.2.1 u1.2.2.2)) (n1 := 5) (ct_X12_gives l E a_o a_o_at a_o_names a_o_sort a_o_trayMany a_o_trays a_o_tape a_o_text a_o_opened a_o_farBy a_o_attendsBy a_o_coveredBy a_o_cameBy a_o_cameThen a_o_fallsBy a_o_loops a_o_ran a_o_told1 o_status o_top o_bottom o_taped o_size o_token o_from o_end o_value o_faultKind o_faultPlace o_faults o_seen o_toldParts o_depth o_counted o_becameThen o_firstCorner o_drawn o_ranSteps o_isTold o_marks u21 u24 hu24) [0] cal_X12_gives cav_X12_gives lk_X12_89 cx hP hD hS hl dX12_fewest_24 rfl rfl rfl rfl (Nat.le_of_ble_eq_true rfl) ⟨Nat.le_of_ble_eq_true rfl, Nat.le_of_ble_eq_true rfl⟩ rfl (by decide +kernel) rfl [some 0, none, none, none, none] rfl (by decide +kernel) rfl (fun H locs hP hD hS => ?_)
    obtain rfl := Option.some.inj hf
    subst hq
    exact retI cx hP hD hS dX12_fewest_27
  · have hf := it_t hc hf
    refine lv_aload_n hx hb dX12_fewest_10 rfl (lv_at hl 1 rfl) ?_
    refine lv_bipush (v := 6) hx hb dX12_fewest_11 (by decide) ?_
    obtain ⟨u13, hu13, hf⟩ := bd hf
    refine callVI (wn := (wd_X12_fewest E a_o a_o_at a_o_names a_o_sort a_o_trayMany a_o_trays a_o_tape a_o_text a_o_opened a_o_farBy a_o_attendsBy a_o_coveredBy a_o_cameBy a_o_cameThen a_o_fallsBy a_o_loops a_o_ran a_o_told1 u13.2 o_top o_bottom o_taped o_size o_token o_from o_end o_value o_faultKind o_faultPlace o_faults o_seen o_toldParts o_depth o_counted o_becameThen o_firstCorner o_drawn o_ranSteps o_isTold o_marks o_at u1.2.1 u1.2.2.1 u1.2.2.2)) (n1 := 5) (ct_X12_refuse l E a_o a_o_at a_o_names a_o_sort a_o_trayMany a_o_trays a_o_tape a_o_text a_o_opened a_o_farBy a_o_attendsBy a_o_coveredBy a_o_cameBy a_o_cameThen a_o_fallsBy a_o_loops a_o_ran a_o_told1 o_status o_top o_bottom o_taped o_size o_token o_from o_end o_value o_faultKind o_faultPlace o_faults o_seen o_toldParts o_depth o_counted o_becameThen o_firstCorner o_drawn o_ranSteps o_isTold o_marks (6 : Int32) u13 hu13) [0] cal_X12_refuse cav_X12_refuse lk_X12_85 cx hP hD hS hl dX12_fewest_13 rfl rfl rfl rfl (Nat.le_of_ble_eq_true rfl) ⟨Nat.le_of_ble_eq_true rfl, Nat.le_of_ble_eq_true rfl⟩ rfl (by decide +kernel) rfl [some 0, none, none, none, none] rfl (by decide +kernel) rfl (fun H locs hP hD hS => ?_)
    refine lv_goto (tgt := 27) hx hb dX12_fewest_16 (by decide) ?_
    obtain rfl := Option.some.inj hf
    subst hq
    exact retI cx hP hD hS dX12_fewest_27
def X12_fewestSet (F : Nat) (o_status : Int32) (o_at : Nat → Int32) (o_farBy : Nat → Int32) (o_attendsBy : Nat → Int32) (o_coveredBy : Nat → Int32) : Option (Int32 × Int32 × (Nat → Int32) × (Nat → Int32) × (Nat → Int32)) :=
  (X12_fewestOf F o_at o_farBy o_attendsBy o_coveredBy).bind fun u2 =>
  (X12_orNone o_status u2.1).bind fun u5 =>
  some (u5.1, u5.2, u2.2.1, u2.2.2.1, u2.2.2.2)
abbrev wd_X12_fewestSet (E : vE) (a_o a_o_at a_o_names a_o_sort a_o_trayMany a_o_trays a_o_tape a_o_text a_o_opened a_o_farBy a_o_attendsBy a_o_coveredBy a_o_cameBy a_o_cameThen a_o_fallsBy a_o_loops a_o_ran a_o_told1 : Nat) (o_status : Int32) (o_top : Int64) (o_bottom : Int64) (o_taped : Int32) (o_size : Int32) (o_token : Int32) (o_from : Int32) (o_end : Int32) (o_value : Int32) (o_faultKind : Int32) (o_faultPlace : Int32) (o_faults : Int32) (o_seen : Int32) (o_toldParts : Int32) (o_depth : Int32) (o_counted : Int32) (o_becameThen : Int32) (o_firstCorner : Int32) (o_drawn : Int32) (o_ranSteps : Int32) (o_isTold : Int32) (o_marks : Int32) (o_at : Nat → Int32) (o_farBy : Nat → Int32) (o_attendsBy : Nat → Int32) (o_coveredBy : Nat → Int32) : va_W := [(a_o, .inr (12, [.ref a_o_at, .ref a_o_names, .int o_status, .long o_top, .long o_bottom, .ref a_o_sort, .ref a_o_trayMany, .ref a_o_trays, .ref a_o_tape, .ref a_o_text, .int o_taped, .int o_size, .int o_token, .int o_from, .int o_end, .int o_value, .int o_faultKind, .int o_faultPlace, .int o_faults, .int o_seen, .int o_toldParts, .ref a_o_opened, .int o_depth, .int o_counted, .ref a_o_farBy, .int o_becameThen, .ref a_o_attendsBy, .ref a_o_coveredBy, .ref a_o_cameBy, .ref a_o_cameThen, .int o_firstCorner, .ref a_o_fallsBy, .int o_drawn, .int o_ranSteps, .ref a_o_loops, .ref a_o_ran, .ref a_o_told1, .int o_isTold, .int o_marks])), (a_o_at, .inl (E.2.1, 3097, .inl o_at)), (a_o_farBy, .inl (E.2.1, 64, .inl o_farBy)), (a_o_attendsBy, .inl (E.2.2.2.2.1, 1792, .inl o_attendsBy)), (a_o_coveredBy, .inl (E.2.2.2.2.1, 256, .inl o_coveredBy))]
set_option maxHeartbeats 4000000 in
set_option maxRecDepth 100000 in
theorem ct_X12_fewestSet (l : Launch) (E : vE) (F : Nat) (a_o a_o_at a_o_names a_o_sort a_o_trayMany a_o_trays a_o_tape a_o_text a_o_opened a_o_farBy a_o_attendsBy a_o_coveredBy a_o_cameBy a_o_cameThen a_o_fallsBy a_o_loops a_o_ran a_o_told1 : Nat) (o_status : Int32) (o_top : Int64) (o_bottom : Int64) (o_taped : Int32) (o_size : Int32) (o_token : Int32) (o_from : Int32) (o_end : Int32) (o_value : Int32) (o_faultKind : Int32) (o_faultPlace : Int32) (o_faults : Int32) (o_seen : Int32) (o_toldParts : Int32) (o_depth : Int32) (o_counted : Int32) (o_becameThen : Int32) (o_firstCorner : Int32) (o_drawn : Int32) (o_ranSteps : Int32) (o_isTold : Int32) (o_marks : Int32) (o_at : Nat → Int32) (o_farBy : Nat → Int32) (o_attendsBy : Nat → Int32) (o_coveredBy : Nat → Int32) (u : Int32 × Int32 × (Nat → Int32) × (Nat → Int32) × (Nat → Int32)) (hf : X12_fewestSet F o_status o_at o_farBy o_attendsBy o_coveredBy = some u) :
    CtI l yX12_fewestSet cX12_fewestSet 1 (some .int) 7 E [.ref a_o] (wd_X12_fewestSet E a_o a_o_at a_o_names a_o_sort a_o_trayMany a_o_trays a_o_tape a_o_text a_o_opened a_o_farBy a_o_attendsBy a_o_coveredBy a_o_cameBy a_o_cameThen a_o_fallsBy a_o_loops a_o_ran a_o_told1 o_status o_top o_bottom o_taped o_size o_token o_from o_end o_value o_faultKind o_faultPlace o_faults o_seen o_toldParts o_depth o_counted o_becameThen o_firstCorner o_drawn o_ranSteps o_isTold o_marks o_at o_farBy o_attendsBy o_coveredBy) (wd_X12_fewestSet E a_o a_o_at a_o_names a_o_sort a_o_trayMany a_o_trays a_o_tape a_o_text a_o_opened a_o_farBy a_o_attendsBy a_o_coveredBy a_o_cameBy a_o_cameThen a_o_fallsBy a_o_loops a_o_ran a_o_told1 u.2.1 o_top o_bottom o_taped o_size o_token o_from o_end o_value o_faultKind o_faultPlace o_faults o_seen o_toldParts o_depth o_counted o_becameThen o_firstCorner o_drawn o_ranSteps o_isTold o_marks o_at u.2.2.1 u.2.2.2.1 u.2.2.2.2) u.1 := by
  refine ctI (by decide) (Nat.le_of_ble_eq_true rfl) ?_
  intro p e s m below meth cd A ls aa QQ hq cx hP hD hS hl
  obtain ⟨⟨hx, hb, hml, hown, hts⟩, hr, hlocks, hK, hA, hX⟩ := id cx
  have hl : lv_has ls 1 [(0, .ref a_o)] := hl
  unfold X12_fewestSet at hf
  refine lv_aload_n hx hb dX12_fewestSet_0 rfl (lv_at hl 0 rfl) ?_
  refine lv_aload_n hx hb dX12_fewestSet_1 rfl (lv_at hl 0 rfl) ?_
  obtain ⟨u2, hu2, hf⟩ := bd hf
  refine callVI (wn := (wd_X12_fewestSet E a_o a_o_at a_o_names a_o_sort a_o_trayMany a_o_trays a_o_tape a_o_text a_o_opened a_o_farBy a_o_attendsBy a_o_coveredBy a_o_cameBy a_o_cameThen a_o_fallsBy a_o_loops a_o_ran a_o_told1 o_status o_top o_bottom o_taped o_size o_token o_from o_end o_value o_faultKind o_faultPlace o_faults o_seen o_toldParts o_depth o_counted o_becameThen o_firstCorner o_drawn o_ranSteps o_isTold o_marks o_at u2.2.1 u2.2.2.1 u2.2.2.2)) (n1 := 5) (ct_X12_fewestOf l E F a_o a_o_at a_o_names a_o_sort a_o_trayMany a_o_trays a_o_tape a_o_text a_o_opened a_o_farBy a_o_attendsBy a_o_coveredBy a_o_cameBy a_o_cameThen a_o_fallsBy a_o_loops a_o_ran a_o_told1 o_status o_top o_bottom o_taped o_size o_token o_from o_end o_value o_faultKind o_faultPlace o_faults o_seen o_toldParts o_depth o_counted o_becameThen o_firstCorner o_drawn o_ranSteps o_isTold o_marks o_at o_farBy o_attendsBy o_coveredBy u2 hu2) [0, 1, 2, 3, 4] cal_X12_fewestOf cav_X12_fewestOf lk_X12_420 cx hP hD hS hl dX12_fewestSet_2 rfl rfl rfl rfl (Nat.le_of_ble_eq_true rfl) ⟨Nat.le_of_ble_eq_true rfl, Nat.le_of_ble_eq_true rfl⟩ rfl (by decide +kernel) rfl [some 0, some 1, some 2, some 3, some 4] rfl (by decide +kernel) rfl (fun H locs hP hD hS => ?_)
  obtain ⟨u5, hu5, hf⟩ := bd hf
  refine callVI (wn := (wd_X12_fewestSet E a_o a_o_at a_o_names a_o_sort a_o_trayMany a_o_trays a_o_tape a_o_text a_o_opened a_o_farBy a_o_attendsBy a_o_coveredBy a_o_cameBy a_o_cameThen a_o_fallsBy a_o_loops a_o_ran a_o_told1 u5.2 o_top o_bottom o_taped o_size o_token o_from o_end o_value o_faultKind o_faultPlace o_faults o_seen o_toldParts o_depth o_counted o_becameThen o_firstCorner o_drawn o_ranSteps o_isTold o_marks o_at u2.2.1 u2.2.2.1 u2.2.2.2)) (n1 := 5) (ct_X12_orNone l E a_o a_o_at a_o_names a_o_sort a_o_trayMany a_o_trays a_o_tape a_o_text a_o_opened a_o_farBy a_o_attendsBy a_o_coveredBy a_o_cameBy a_o_cameThen a_o_fallsBy a_o_loops a_o_ran a_o_told1 o_status o_top o_bottom o_taped o_size o_token o_from o_end o_value o_faultKind o_faultPlace o_faults o_seen o_toldParts o_depth o_counted o_becameThen o_firstCorner o_drawn o_ranSteps o_isTold o_marks u2.1 u5 hu5) [0] cal_X12_orNone cav_X12_orNone lk_X12_324 cx hP hD hS hl dX12_fewestSet_5 rfl rfl rfl rfl (Nat.le_of_ble_eq_true rfl) ⟨Nat.le_of_ble_eq_true rfl, Nat.le_of_ble_eq_true rfl⟩ rfl (by decide +kernel) rfl [some 0, none, none, none, none] rfl (by decide +kernel) rfl (fun H locs hP hD hS => ?_)
  obtain rfl := Option.some.inj hf
  subst hq
  exact retI cx hP hD hS dX12_fewestSet_8
def X12_wrongStanding_b40 (F : Nat) (o_at : Nat → Int32) (o_trayMany : Nat → Int32) (o_trays : Nat → Int64) (v1 : Int32) (st40 : Int32) : Option ((Int32) ⊕ ((Unit) ⊕ (Unit))) :=
  if ix 0 3097 then
  if (jat o_at 0) ≤ st40 then
  some (.inr (.inr (())))
  else
  if ix ((60 * v1) + st40) 240 then
  (X12_isFrom (jat o_trays ((60 * v1) + st40)) (0 : Int64) (99 : Int64)).bind fun u65 =>
  if u65 = 0 then
  some (.inr (.inl (())))
  else
  some (.inl (st40 + 1))
  else none
  else none
def X12_wrongStanding (F : Nat) (o_at : Nat → Int32) (o_trayMany : Nat → Int32) (o_trays : Nat → Int64) (v1 : Int32) : Option (Int32) :=
  (X12_isTray v1).bind fun u1 =>
  if u1 = 0 then
  some 1
  else
  if ix v1 4 then
  if (jat o_trayMany v1) = (-1) then
  some 2
  else
  if ix v1 4 then
  if ix 0 3097 then
  if (jat o_at 0) ≤ (jat o_trayMany v1) then
  (iter (X12_wrongStanding_b40 F o_at o_trayMany o_trays v1) F 0).bind (Sum.elim (fun (e40 : Unit) =>
    some 5) (fun (e40 : Unit) =>
    some 0))
  else
  some 3
  else none
  else none
  else none
abbrev wd_X12_wrongStanding (E : vE) (a_o a_o_at a_o_names a_o_sort a_o_trayMany a_o_trays a_o_tape a_o_text a_o_opened a_o_farBy a_o_attendsBy a_o_coveredBy a_o_cameBy a_o_cameThen a_o_fallsBy a_o_loops a_o_ran a_o_told1 : Nat) (o_status : Int32) (o_top : Int64) (o_bottom : Int64) (o_taped : Int32) (o_size : Int32) (o_token : Int32) (o_from : Int32) (o_end : Int32) (o_value : Int32) (o_faultKind : Int32) (o_faultPlace : Int32) (o_faults : Int32) (o_seen : Int32) (o_toldParts : Int32) (o_depth : Int32) (o_counted : Int32) (o_becameThen : Int32) (o_firstCorner : Int32) (o_drawn : Int32) (o_ranSteps : Int32) (o_isTold : Int32) (o_marks : Int32) (o_at : Nat → Int32) (o_trayMany : Nat → Int32) (o_trays : Nat → Int64) : va_W := [(a_o, .inr (12, [.ref a_o_at, .ref a_o_names, .int o_status, .long o_top, .long o_bottom, .ref a_o_sort, .ref a_o_trayMany, .ref a_o_trays, .ref a_o_tape, .ref a_o_text, .int o_taped, .int o_size, .int o_token, .int o_from, .int o_end, .int o_value, .int o_faultKind, .int o_faultPlace, .int o_faults, .int o_seen, .int o_toldParts, .ref a_o_opened, .int o_depth, .int o_counted, .ref a_o_farBy, .int o_becameThen, .ref a_o_attendsBy, .ref a_o_coveredBy, .ref a_o_cameBy, .ref a_o_cameThen, .int o_firstCorner, .ref a_o_fallsBy, .int o_drawn, .int o_ranSteps, .ref a_o_loops, .ref a_o_ran, .ref a_o_told1, .int o_isTold, .int o_marks])), (a_o_at, .inl (E.2.1, 3097, .inl o_at)), (a_o_trayMany, .inl (E.2.1, 4, .inl o_trayMany)), (a_o_trays, .inl (E.2.2.1, 240, .inr (.inl o_trays)))]
set_option maxHeartbeats 4000000 in
set_option maxRecDepth 100000 in
theorem ct_X12_wrongStanding (l : Launch) (E : vE) (F : Nat) (a_o a_o_at a_o_names a_o_sort a_o_trayMany a_o_trays a_o_tape a_o_text a_o_opened a_o_farBy a_o_attendsBy a_o_coveredBy a_o_cameBy a_o_cameThen a_o_fallsBy a_o_loops a_o_ran a_o_told1 : Nat) (o_status : Int32) (o_top : Int64) (o_bottom : Int64) (o_taped : Int32) (o_size : Int32) (o_token : Int32) (o_from : Int32) (o_end : Int32) (o_value : Int32) (o_faultKind : Int32) (o_faultPlace : Int32) (o_faults : Int32) (o_seen : Int32) (o_toldParts : Int32) (o_depth : Int32) (o_counted : Int32) (o_becameThen : Int32) (o_firstCorner : Int32) (o_drawn : Int32) (o_ranSteps : Int32) (o_isTold : Int32) (o_marks : Int32) (o_at : Nat → Int32) (o_trayMany : Nat → Int32) (o_trays : Nat → Int64) (v1 : Int32) (u : Int32) (hf : X12_wrongStanding F o_at o_trayMany o_trays v1 = some u) :
    CtI l yX12_wrongStanding cX12_wrongStanding 3 (some .int) 1 E [.ref a_o, .int v1] (wd_X12_wrongStanding E a_o a_o_at a_o_names a_o_sort a_o_trayMany a_o_trays a_o_tape a_o_text a_o_opened a_o_farBy a_o_attendsBy a_o_coveredBy a_o_cameBy a_o_cameThen a_o_fallsBy a_o_loops a_o_ran a_o_told1 o_status o_top o_bottom o_taped o_size o_token o_from o_end o_value o_faultKind o_faultPlace o_faults o_seen o_toldParts o_depth o_counted o_becameThen o_firstCorner o_drawn o_ranSteps o_isTold o_marks o_at o_trayMany o_trays) (wd_X12_wrongStanding E a_o a_o_at a_o_names a_o_sort a_o_trayMany a_o_trays a_o_tape a_o_text a_o_opened a_o_farBy a_o_attendsBy a_o_coveredBy a_o_cameBy a_o_cameThen a_o_fallsBy a_o_loops a_o_ran a_o_told1 o_status o_top o_bottom o_taped o_size o_token o_from o_end o_value o_faultKind o_faultPlace o_faults o_seen o_toldParts o_depth o_counted o_becameThen o_firstCorner o_drawn o_ranSteps o_isTold o_marks o_at o_trayMany o_trays) u := by
  refine ctI (by decide) (Nat.le_of_ble_eq_true rfl) ?_
  intro p e s m below meth cd A ls aa QQ hq cx hP hD hS hl
  obtain ⟨⟨hx, hb, hml, hown, hts⟩, hr, hlocks, hK, hA, hX⟩ := id cx
  have hl : lv_has ls 3 [(0, .ref a_o), (1, .int v1)] := hl
  unfold X12_wrongStanding at hf
  refine lv_iload_n hx hb dX12_wrongStanding_0 rfl (lv_at hl 1 rfl) ?_
  obtain ⟨u1, hu1, hf⟩ := bd hf
  refine keepSI (ct_X12_isTray l E v1 u1 hu1) [] cal_X12_isTray sta_X12_isTray lk_X12_96 cx hP hD hS hl dX12_wrongStanding_1 rfl rfl (Nat.le_of_ble_eq_true rfl) ⟨Nat.le_of_ble_eq_true rfl, Nat.le_of_ble_eq_true rfl⟩ rfl (by decide) (fun H locs hP hS => ?_)
  refine lv_if_ne (tgt := 9) hx hb dX12_wrongStanding_4 (by decide) (fun hc => ?_) (fun hc => ?_)
  · have hf := it_f hc hf
    refine lv_aload_n hx hb dX12_wrongStanding_9 rfl (lv_at hl 0 rfl) ?_
    refine va_get (D := E.1) (ci := 12) (v := .ref a_o_trayMany) (C := RX12) (T := TX12) (N := 39) hx hb hts inX12 hown hK hP 0 rfl rfl 6 (by decide) (hts _ fl_X12_24) (fun _ h9 => h9) rfl dX12_wrongStanding_10 ?_
    refine lv_iload_n hx hb dX12_wrongStanding_13 rfl (lv_at hl 1 rfl) ?_
    obtain ⟨hi, hf⟩ := ck hf
    refine r_iald 2 cx hP rfl hi dX12_wrongStanding_14 ?_
    refine lv_iconst (v := (-1)) hx hb dX12_wrongStanding_15 (by decide) ?_
    refine lv_icmp_ne (tgt := 21) hx hb dX12_wrongStanding_16 (by decide) (fun hc => ?_) (fun hc => ?_)
    · have hf := it_f hc hf
      refine lv_aload_n hx hb dX12_wrongStanding_21 rfl (lv_at hl 0 rfl) ?_
      refine va_get (D := E.1) (ci := 12) (v := .ref a_o_trayMany) (C := RX12) (T := TX12) (N := 39) hx hb hts inX12 hown hK hP 0 rfl rfl 6 (by decide) (hts _ fl_X12_24) (fun _ h9 => h9) rfl dX12_wrongStanding_22 ?_
      refine lv_iload_n hx hb dX12_wrongStanding_25 rfl (lv_at hl 1 rfl) ?_
      obtain ⟨hi, hf⟩ := ck hf
      refine r_iald 2 cx hP rfl hi dX12_wrongStanding_26 ?_
      refine lv_aload_n hx hb dX12_wrongStanding_27 rfl (lv_at hl 0 rfl) ?_
      refine va_get (D := E.1) (ci := 12) (v := .ref a_o_at) (C := RX12) (T := TX12) (N := 39) hx hb hts inX12 hown hK hP 0 rfl rfl 0 (by decide) (hts _ fl_X12_7) (fun _ h9 => h9) rfl dX12_wrongStanding_28 ?_
      refine lv_iconst (v := 0) hx hb dX12_wrongStanding_31 (by decide) ?_
      obtain ⟨hi, hf⟩ := ck hf
      refine r_iald 1 cx hP rfl hi dX12_wrongStanding_32 ?_
      refine lv_icmp_ge (tgt := 38) hx hb dX12_wrongStanding_33 (by decide) (fun hc => ?_) (fun hc => ?_)
      · have hf := it_t hc hf
        refine lv_iconst (v := 0) hx hb dX12_wrongStanding_38 (by decide) ?_
        refine lv_istore_n (lv' := [(2, .int 0), (0, .ref a_o), (1, .int v1)]) hx hb dX12_wrongStanding_39 rfl hl (by decide) rfl (fun ls hl => ?_)
        obtain ⟨e40, hit40, hf⟩ := bd hf
        refine iter_W (b := X12_wrongStanding_b40 F o_at o_trayMany o_trays v1) (P := fun st40 => ∀ (H : Heap) (locs : List Loc) (ls : Array Slot), va_P E.1 vwCl (wd_X12_wrongStanding E a_o a_o_at a_o_names a_o_sort a_o_trayMany a_o_trays a_o_tape a_o_text a_o_opened a_o_farBy a_o_attendsBy a_o_coveredBy a_o_cameBy a_o_cameThen a_o_fallsBy a_o_loops a_o_ran a_o_told1 o_status o_top o_bottom o_taped o_size o_token o_from o_end o_value o_faultKind o_faultPlace o_faults o_seen o_toldParts o_depth o_counted o_becameThen o_firstCorner o_drawn o_ranSteps o_isTold o_marks o_at o_trayMany o_trays) H → va_D A (wd_X12_wrongStanding E a_o a_o_at a_o_names a_o_sort a_o_trayMany a_o_trays a_o_tape a_o_text a_o_opened a_o_farBy a_o_attendsBy a_o_coveredBy a_o_cameBy a_o_cameThen a_o_fallsBy a_o_loops a_o_ran a_o_told1 o_status o_top o_bottom o_taped o_size o_token o_from o_end o_value o_faultKind o_faultPlace o_faults o_seen o_toldParts o_depth o_counted o_becameThen o_firstCorner o_drawn o_ranSteps o_isTold o_marks o_at o_trayMany o_trays) → va_S A s.heap H locs → lv_has ls 3 [(0, .ref a_o), (1, .int v1), (2, .int st40)] → W p l e (rmd 1) s m aa below meth cd H locs 0 0 QQ (F0 m 40 ls [])) (G := (Sum.elim (fun (e40 : Unit) => ∀ (H : Heap) (locs : List Loc) (ls : Array Slot), va_P E.1 vwCl (wd_X12_wrongStanding E a_o a_o_at a_o_names a_o_sort a_o_trayMany a_o_trays a_o_tape a_o_text a_o_opened a_o_farBy a_o_attendsBy a_o_coveredBy a_o_cameBy a_o_cameThen a_o_fallsBy a_o_loops a_o_ran a_o_told1 o_status o_top o_bottom o_taped o_size o_token o_from o_end o_value o_faultKind o_faultPlace o_faults o_seen o_toldParts o_depth o_counted o_becameThen o_firstCorner o_drawn o_ranSteps o_isTold o_marks o_at o_trayMany o_trays) H → va_D A (wd_X12_wrongStanding E a_o a_o_at a_o_names a_o_sort a_o_trayMany a_o_trays a_o_tape a_o_text a_o_opened a_o_farBy a_o_attendsBy a_o_coveredBy a_o_cameBy a_o_cameThen a_o_fallsBy a_o_loops a_o_ran a_o_told1 o_status o_top o_bottom o_taped o_size o_token o_from o_end o_value o_faultKind o_faultPlace o_faults o_seen o_toldParts o_depth o_counted o_becameThen o_firstCorner o_drawn o_ranSteps o_isTold o_marks o_at o_trayMany o_trays) → va_S A s.heap H locs → lv_has ls 3 [] → W p l e (rmd 1) s m aa below meth cd H locs 0 0 QQ (F0 m 71 ls [])) (fun (e40 : Unit) => ∀ (H : Heap) (locs : List Loc) (ls : Array Slot), va_P E.1 vwCl (wd_X12_wrongStanding E a_o a_o_at a_o_names a_o_sort a_o_trayMany a_o_trays a_o_tape a_o_text a_o_opened a_o_farBy a_o_attendsBy a_o_coveredBy a_o_cameBy a_o_cameThen a_o_fallsBy a_o_loops a_o_ran a_o_told1 o_status o_top o_bottom o_taped o_size o_token o_from o_end o_value o_faultKind o_faultPlace o_faults o_seen o_toldParts o_depth o_counted o_becameThen o_firstCorner o_drawn o_ranSteps o_isTold o_marks o_at o_trayMany o_trays) H → va_D A (wd_X12_wrongStanding E a_o a_o_at a_o_names a_o_sort a_o_trayMany a_o_trays a_o_tape a_o_text a_o_opened a_o_farBy a_o_attendsBy a_o_coveredBy a_o_cameBy a_o_cameThen a_o_fallsBy a_o_loops a_o_ran a_o_told1 o_status o_top o_bottom o_taped o_size o_token o_from o_end o_value o_faultKind o_faultPlace o_faults o_seen o_toldParts o_depth o_counted o_becameThen o_firstCorner o_drawn o_ranSteps o_isTold o_marks o_at o_trayMany o_trays) → va_S A s.heap H locs → lv_has ls 3 [] → W p l e (rmd 1) s m aa below meth cd H locs 0 0 QQ (F0 m 79 ls [])))) ?_ F 0 e40 hit40 ?_ _ _ _ hP hD hS (lv_sub hl [1, 2, 0] rfl)
        · intro st40 r40 hf hk40 he40 H locs ls hP hD hS hl
          unfold X12_wrongStanding_b40 at hf
          refine lv_iload_n hx hb dX12_wrongStanding_40 rfl (lv_at hl 2 rfl) ?_
          refine lv_aload_n hx hb dX12_wrongStanding_41 rfl (lv_at hl 0 rfl) ?_
          refine va_get (D := E.1) (ci := 12) (v := .ref a_o_at) (C := RX12) (T := TX12) (N := 39) hx hb hts inX12 hown hK hP 0 rfl rfl 0 (by decide) (hts _ fl_X12_7) (fun _ h9 => h9) rfl dX12_wrongStanding_42 ?_
          refine lv_iconst (v := 0) hx hb dX12_wrongStanding_45 (by decide) ?_
          obtain ⟨hi, hf⟩ := ck hf
          refine r_iald 1 cx hP rfl hi dX12_wrongStanding_46 ?_
          refine lv_icmp_ge (tgt := 79) hx hb dX12_wrongStanding_47 (by decide) (fun hc => ?_) (fun hc => ?_)
          · have hf := it_t hc hf
            exact he40 _ (Option.some.inj hf).symm _ _ _ hP hD hS (lv_sub hl [] rfl)
          · have hf := it_f hc hf
            refine lv_aload_n hx hb dX12_wrongStanding_50 rfl (lv_at hl 0 rfl) ?_
            refine va_get (D := E.1) (ci := 12) (v := .ref a_o_trays) (C := RX12) (T := TX12) (N := 39) hx hb hts inX12 hown hK hP 0 rfl rfl 7 (by decide) (hts _ fl_X12_27) (fun _ h9 => h9) rfl dX12_wrongStanding_51 ?_
            refine lv_bipush (v := 60) hx hb dX12_wrongStanding_54 (by decide) ?_
            refine lv_iload_n hx hb dX12_wrongStanding_56 rfl (lv_at hl 1 rfl) ?_
            refine lv_imul hx hb dX12_wrongStanding_57 ?_
            refine lv_iload_n hx hb dX12_wrongStanding_58 rfl (lv_at hl 2 rfl) ?_
            refine lv_iadd hx hb dX12_wrongStanding_59 ?_
            obtain ⟨hi, hf⟩ := ck hf
            refine r_lald 3 cx hP rfl hi dX12_wrongStanding_60 ?_
            refine lv_lconst (v := 0) hx hb dX12_wrongStanding_61 (by decide) ?_
            refine lv_ldc2 (v := 99) hx hb hown (hts _ kl_X12_357) dX12_wrongStanding_62 ?_
            obtain ⟨u65, hu65, hf⟩ := bd hf
            refine keepSI (ct_X12_isFrom l E (jat o_trays ((60 * v1) + st40)) (0 : Int64) (99 : Int64) u65 hu65) [] cal_X12_isFrom sta_X12_isFrom lk_X12_359 cx hP hD hS hl dX12_wrongStanding_65 rfl rfl (Nat.le_of_ble_eq_true rfl) ⟨Nat.le_of_ble_eq_true rfl, Nat.le_of_ble_eq_true rfl⟩ rfl (by decide) (fun H locs hP hS => ?_)
            refine lv_if_ne (tgt := 73) hx hb dX12_wrongStanding_68 (by decide) (fun hc => ?_) (fun hc => ?_)
            · have hf := it_f hc hf
              refine lv_iinc (v := (st40 + 1)) (lv' := [(2, .int (st40 + 1)), (0, .ref a_o), (1, .int v1)]) hx hb dX12_wrongStanding_73 hl (k := 2) rfl rfl (by decide) rfl (fun ls hl => ?_)
              refine lv_goto (tgt := 40) hx hb dX12_wrongStanding_76 (by decide) ?_
              exact hk40 _ (Option.some.inj hf).symm _ _ _ hP hD hS (lv_sub hl [1, 2, 0] rfl)
            · have hf := it_t hc hf
              exact he40 _ (Option.some.inj hf).symm _ _ _ hP hD hS (lv_sub hl [] rfl)
        · rcases e40 with e40 | e40
          · have hf := se_l hf
            refine fun H locs ls hP hD hS hl => ?_
            refine lv_iconst (v := 5) hx hb dX12_wrongStanding_71 (by decide) ?_
            obtain rfl := Option.some.inj hf
            subst hq
            exact retI cx hP hD hS dX12_wrongStanding_72
          · have hf := se_r hf
            refine fun H locs ls hP hD hS hl => ?_
            refine lv_iconst (v := 0) hx hb dX12_wrongStanding_79 (by decide) ?_
            obtain rfl := Option.some.inj hf
            subst hq
            exact retI cx hP hD hS dX12_wrongStanding_80
      · have hf := it_f hc hf
        refine lv_iconst (v := 3) hx hb dX12_wrongStanding_36 (by decide) ?_
        obtain rfl := Option.some.inj hf
        subst hq
        exact retI cx hP hD hS dX12_wrongStanding_37
    · have hf := it_t hc hf
      refine lv_iconst (v := 2) hx hb dX12_wrongStanding_19 (by decide) ?_
      obtain rfl := Option.some.inj hf
      subst hq
      exact retI cx hP hD hS dX12_wrongStanding_20
  · have hf := it_t hc hf
    refine lv_iconst (v := 1) hx hb dX12_wrongStanding_7 (by decide) ?_
    obtain rfl := Option.some.inj hf
    subst hq
    exact retI cx hP hD hS dX12_wrongStanding_8
def X12_greatAt_j49 (F : Nat) (o_at : Nat → Int32) (v1 : Int32) (v2 : Int32) (v4 : Int32) (k0 : Int32) (k1 : Int32) : Option ((Int32 × Int32) ⊕ ((Int32))) :=
  some (.inl ((k1 + k0), (v4 + 1)))
def X12_greatAt_j48 (F : Nat) (o_at : Nat → Int32) (v1 : Int32) (v2 : Int32) (v4 : Int32) (k0 : Int32) : Option ((Int32 × Int32) ⊕ ((Int32))) :=
  X12_greatAt_j49 F o_at v1 v2 v4 0 k0
def X12_greatAt_b5 (F : Nat) (o_at : Nat → Int32) (v1 : Int32) (v2 : Int32) (st5 : Int32 × Int32) : Option ((Int32 × Int32) ⊕ ((Int32))) :=
  if ix 3 3097 then
  if (jat o_at 3) ≤ st5.2 then
  some (.inr st5.1)
  else
  (X12_isIn v1 st5.2).bind fun u21 =>
  if u21 = 0 then
  X12_greatAt_j48 F o_at v1 v2 st5.2 st5.1
  else
  (X12_happeningOf o_at st5.2 (0 : Int32)).bind fun u31 =>
  if u31 = v2 then
  (X12_happeningOf o_at st5.2 (2 : Int32)).bind fun u42 =>
  X12_greatAt_j49 F o_at v1 v2 st5.2 u42 st5.1
  else
  X12_greatAt_j48 F o_at v1 v2 st5.2 st5.1
  else none
def X12_greatAt (F : Nat) (o_at : Nat → Int32) (v1 : Int32) (v2 : Int32) : Option (Int32) :=
  (iter (X12_greatAt_b5 F o_at v1 v2) F (0, 0)).bind (fun (e5 : Int32) =>
    some e5)
abbrev wd_X12_greatAt (E : vE) (a_o a_o_at a_o_names a_o_sort a_o_trayMany a_o_trays a_o_tape a_o_text a_o_opened a_o_farBy a_o_attendsBy a_o_coveredBy a_o_cameBy a_o_cameThen a_o_fallsBy a_o_loops a_o_ran a_o_told1 : Nat) (o_status : Int32) (o_top : Int64) (o_bottom : Int64) (o_taped : Int32) (o_size : Int32) (o_token : Int32) (o_from : Int32) (o_end : Int32) (o_value : Int32) (o_faultKind : Int32) (o_faultPlace : Int32) (o_faults : Int32) (o_seen : Int32) (o_toldParts : Int32) (o_depth : Int32) (o_counted : Int32) (o_becameThen : Int32) (o_firstCorner : Int32) (o_drawn : Int32) (o_ranSteps : Int32) (o_isTold : Int32) (o_marks : Int32) (o_at : Nat → Int32) : va_W := [(a_o, .inr (12, [.ref a_o_at, .ref a_o_names, .int o_status, .long o_top, .long o_bottom, .ref a_o_sort, .ref a_o_trayMany, .ref a_o_trays, .ref a_o_tape, .ref a_o_text, .int o_taped, .int o_size, .int o_token, .int o_from, .int o_end, .int o_value, .int o_faultKind, .int o_faultPlace, .int o_faults, .int o_seen, .int o_toldParts, .ref a_o_opened, .int o_depth, .int o_counted, .ref a_o_farBy, .int o_becameThen, .ref a_o_attendsBy, .ref a_o_coveredBy, .ref a_o_cameBy, .ref a_o_cameThen, .int o_firstCorner, .ref a_o_fallsBy, .int o_drawn, .int o_ranSteps, .ref a_o_loops, .ref a_o_ran, .ref a_o_told1, .int o_isTold, .int o_marks])), (a_o_at, .inl (E.2.1, 3097, .inl o_at))]
set_option maxHeartbeats 4000000 in
set_option maxRecDepth 100000 in
theorem ct_X12_greatAt (l : Launch) (E : vE) (F : Nat) (a_o a_o_at a_o_names a_o_sort a_o_trayMany a_o_trays a_o_tape a_o_text a_o_opened a_o_farBy a_o_attendsBy a_o_coveredBy a_o_cameBy a_o_cameThen a_o_fallsBy a_o_loops a_o_ran a_o_told1 : Nat) (o_status : Int32) (o_top : Int64) (o_bottom : Int64) (o_taped : Int32) (o_size : Int32) (o_token : Int32) (o_from : Int32) (o_end : Int32) (o_value : Int32) (o_faultKind : Int32) (o_faultPlace : Int32) (o_faults : Int32) (o_seen : Int32) (o_toldParts : Int32) (o_depth : Int32) (o_counted : Int32) (o_becameThen : Int32) (o_firstCorner : Int32) (o_drawn : Int32) (o_ranSteps : Int32) (o_isTold : Int32) (o_marks : Int32) (o_at : Nat → Int32) (v1 : Int32) (v2 : Int32) (u : Int32) (hf : X12_greatAt F o_at v1 v2 = some u) :
    CtI l yX12_greatAt cX12_greatAt 5 (some .int) 2 E [.ref a_o, .int v1, .int v2] (wd_X12_greatAt E a_o a_o_at a_o_names a_o_sort a_o_trayMany a_o_trays a_o_tape a_o_text a_o_opened a_o_farBy a_o_attendsBy a_o_coveredBy a_o_cameBy a_o_cameThen a_o_fallsBy a_o_loops a_o_ran a_o_told1 o_status o_top o_bottom o_taped o_size o_token o_from o_end o_value o_faultKind o_faultPlace o_faults o_seen o_toldParts o_depth o_counted o_becameThen o_firstCorner o_drawn o_ranSteps o_isTold o_marks o_at) (wd_X12_greatAt E a_o a_o_at a_o_names a_o_sort a_o_trayMany a_o_trays a_o_tape a_o_text a_o_opened a_o_farBy a_o_attendsBy a_o_coveredBy a_o_cameBy a_o_cameThen a_o_fallsBy a_o_loops a_o_ran a_o_told1 o_status o_top o_bottom o_taped o_size o_token o_from o_end o_value o_faultKind o_faultPlace o_faults o_seen o_toldParts o_depth o_counted o_becameThen o_firstCorner o_drawn o_ranSteps o_isTold o_marks o_at) u := by
  refine ctI (by decide) (Nat.le_of_ble_eq_true rfl) ?_
  intro p e s m below meth cd A ls aa QQ hq cx hP hD hS hl
  obtain ⟨⟨hx, hb, hml, hown, hts⟩, hr, hlocks, hK, hA, hX⟩ := id cx
  have hl : lv_has ls 5 [(0, .ref a_o), (1, .int v1), (2, .int v2)] := hl
  unfold X12_greatAt at hf
  refine lv_iconst (v := 0) hx hb dX12_greatAt_0 (by decide) ?_
  refine lv_istore_n (lv' := [(3, .int 0), (0, .ref a_o), (1, .int v1), (2, .int v2)]) hx hb dX12_greatAt_1 rfl hl (by decide) rfl (fun ls hl => ?_)
  refine lv_iconst (v := 0) hx hb dX12_greatAt_2 (by decide) ?_
  refine lv_istore (lv' := [(4, .int 0), (3, .int 0), (0, .ref a_o), (1, .int v1), (2, .int v2)]) hx hb dX12_greatAt_3 hl (by decide) rfl (fun ls hl => ?_)
  obtain ⟨e5, hit5, hf⟩ := bd hf
  refine iter_W (b := X12_greatAt_b5 F o_at v1 v2) (P := fun st5 => ∀ (H : Heap) (locs : List Loc) (ls : Array Slot), va_P E.1 vwCl (wd_X12_greatAt E a_o a_o_at a_o_names a_o_sort a_o_trayMany a_o_trays a_o_tape a_o_text a_o_opened a_o_farBy a_o_attendsBy a_o_coveredBy a_o_cameBy a_o_cameThen a_o_fallsBy a_o_loops a_o_ran a_o_told1 o_status o_top o_bottom o_taped o_size o_token o_from o_end o_value o_faultKind o_faultPlace o_faults o_seen o_toldParts o_depth o_counted o_becameThen o_firstCorner o_drawn o_ranSteps o_isTold o_marks o_at) H → va_D A (wd_X12_greatAt E a_o a_o_at a_o_names a_o_sort a_o_trayMany a_o_trays a_o_tape a_o_text a_o_opened a_o_farBy a_o_attendsBy a_o_coveredBy a_o_cameBy a_o_cameThen a_o_fallsBy a_o_loops a_o_ran a_o_told1 o_status o_top o_bottom o_taped o_size o_token o_from o_end o_value o_faultKind o_faultPlace o_faults o_seen o_toldParts o_depth o_counted o_becameThen o_firstCorner o_drawn o_ranSteps o_isTold o_marks o_at) → va_S A s.heap H locs → lv_has ls 5 [(0, .ref a_o), (1, .int v1), (2, .int v2), (3, .int st5.1), (4, .int st5.2)] → W p l e (rmd 2) s m aa below meth cd H locs 0 0 QQ (F0 m 5 ls [])) (G := (fun (e5 : Int32) => ∀ (H : Heap) (locs : List Loc) (ls : Array Slot), va_P E.1 vwCl (wd_X12_greatAt E a_o a_o_at a_o_names a_o_sort a_o_trayMany a_o_trays a_o_tape a_o_text a_o_opened a_o_farBy a_o_attendsBy a_o_coveredBy a_o_cameBy a_o_cameThen a_o_fallsBy a_o_loops a_o_ran a_o_told1 o_status o_top o_bottom o_taped o_size o_token o_from o_end o_value o_faultKind o_faultPlace o_faults o_seen o_toldParts o_depth o_counted o_becameThen o_firstCorner o_drawn o_ranSteps o_isTold o_marks o_at) H → va_D A (wd_X12_greatAt E a_o a_o_at a_o_names a_o_sort a_o_trayMany a_o_trays a_o_tape a_o_text a_o_opened a_o_farBy a_o_attendsBy a_o_coveredBy a_o_cameBy a_o_cameThen a_o_fallsBy a_o_loops a_o_ran a_o_told1 o_status o_top o_bottom o_taped o_size o_token o_from o_end o_value o_faultKind o_faultPlace o_faults o_seen o_toldParts o_depth o_counted o_becameThen o_firstCorner o_drawn o_ranSteps o_isTold o_marks o_at) → va_S A s.heap H locs → lv_has ls 5 [(3, .int e5)] → W p l e (rmd 2) s m aa below meth cd H locs 0 0 QQ (F0 m 57 ls []))) ?_ F (0, 0) e5 hit5 ?_ _ _ _ hP hD hS (lv_sub hl [2, 3, 4, 1, 0] rfl)
  · intro st5 r5 hf hk5 he5 H locs ls hP hD hS hl
    have hj49 : ∀ (v4_j49 : Int32) (k0_j49 : Int32) (k1_j49 : Int32) (H : Heap) (locs : List Loc) (ls : Array Slot), X12_greatAt_j49 F o_at v1 v2 v4_j49 k0_j49 k1_j49 = some r5 → va_P E.1 vwCl (wd_X12_greatAt E a_o a_o_at a_o_names a_o_sort a_o_trayMany a_o_trays a_o_tape a_o_text a_o_opened a_o_farBy a_o_attendsBy a_o_coveredBy a_o_cameBy a_o_cameThen a_o_fallsBy a_o_loops a_o_ran a_o_told1 o_status o_top o_bottom o_taped o_size o_token o_from o_end o_value o_faultKind o_faultPlace o_faults o_seen o_toldParts o_depth o_counted o_becameThen o_firstCorner o_drawn o_ranSteps o_isTold o_marks o_at) H → va_D A (wd_X12_greatAt E a_o a_o_at a_o_names a_o_sort a_o_trayMany a_o_trays a_o_tape a_o_text a_o_opened a_o_farBy a_o_attendsBy a_o_coveredBy a_o_cameBy a_o_cameThen a_o_fallsBy a_o_loops a_o_ran a_o_told1 o_status o_top o_bottom o_taped o_size o_token o_from o_end o_value o_faultKind o_faultPlace o_faults o_seen o_toldParts o_depth o_counted o_becameThen o_firstCorner o_drawn o_ranSteps o_isTold o_marks o_at) → va_S A s.heap H locs → lv_has ls 5 [(0, .ref a_o), (1, .int v1), (2, .int v2), (4, .int v4_j49)] → W p l e (rmd 2) s m aa below meth cd H locs 0 0 QQ (F0 m 49 ls [.int k0_j49, .int k1_j49]) := by
      intro v4_j49 k0_j49 k1_j49 H locs ls hf hP hD hS hl
      unfold X12_greatAt_j49 at hf
      refine lv_iadd hx hb dX12_greatAt_49 ?_
      refine lv_istore_n (lv' := [(3, .int (k1_j49 + k0_j49)), (0, .ref a_o), (1, .int v1), (2, .int v2), (4, .int v4_j49)]) hx hb dX12_greatAt_50 rfl hl (by decide) rfl (fun ls hl => ?_)
      refine lv_iinc (v := (v4_j49 + 1)) (lv' := [(4, .int (v4_j49 + 1)), (3, .int (k1_j49 + k0_j49)), (0, .ref a_o), (1, .int v1), (2, .int v2)]) hx hb dX12_greatAt_51 hl (k := 4) rfl rfl (by decide) rfl (fun ls hl => ?_)
      refine lv_goto (tgt := 5) hx hb dX12_greatAt_54 (by decide) ?_
      exact hk5 _ (Option.some.inj hf).symm _ _ _ hP hD hS (lv_sub hl [2, 3, 4, 1, 0] rfl)
    have hj48 : ∀ (v4_j48 : Int32) (k0_j48 : Int32) (H : Heap) (locs : List Loc) (ls : Array Slot), X12_greatAt_j48 F o_at v1 v2 v4_j48 k0_j48 = some r5 → va_P E.1 vwCl (wd_X12_greatAt E a_o a_o_at a_o_names a_o_sort a_o_trayMany a_o_trays a_o_tape a_o_text a_o_opened a_o_farBy a_o_attendsBy a_o_coveredBy a_o_cameBy a_o_cameThen a_o_fallsBy a_o_loops a_o_ran a_o_told1 o_status o_top o_bottom o_taped o_size o_token o_from o_end o_value o_faultKind o_faultPlace o_faults o_seen o_toldParts o_depth o_counted o_becameThen o_firstCorner o_drawn o_ranSteps o_isTold o_marks o_at) H → va_D A (wd_X12_greatAt E a_o a_o_at a_o_names a_o_sort a_o_trayMany a_o_trays a_o_tape a_o_text a_o_opened a_o_farBy a_o_attendsBy a_o_coveredBy a_o_cameBy a_o_cameThen a_o_fallsBy a_o_loops a_o_ran a_o_told1 o_status o_top o_bottom o_taped o_size o_token o_from o_end o_value o_faultKind o_faultPlace o_faults o_seen o_toldParts o_depth o_counted o_becameThen o_firstCorner o_drawn o_ranSteps o_isTold o_marks o_at) → va_S A s.heap H locs → lv_has ls 5 [(0, .ref a_o), (1, .int v1), (2, .int v2), (4, .int v4_j48)] → W p l e (rmd 2) s m aa below meth cd H locs 0 0 QQ (F0 m 48 ls [.int k0_j48]) := by
      intro v4_j48 k0_j48 H locs ls hf hP hD hS hl
      unfold X12_greatAt_j48 at hf
      refine lv_iconst (v := 0) hx hb dX12_greatAt_48 (by decide) ?_
      exact hj49 _ _ _ _ _ _ hf hP hD hS (lv_sub hl [0, 1, 2, 3] rfl)
    unfold X12_greatAt_b5 at hf
    refine lv_iload hx hb dX12_greatAt_5 (lv_at hl 4 rfl) ?_
    refine lv_aload_n hx hb dX12_greatAt_7 rfl (lv_at hl 0 rfl) ?_
    refine va_get (D := E.1) (ci := 12) (v := .ref a_o_at) (C := RX12) (T := TX12) (N := 39) hx hb hts inX12 hown hK hP 0 rfl rfl 0 (by decide) (hts _ fl_X12_7) (fun _ h9 => h9) rfl dX12_greatAt_8 ?_
    refine lv_iconst (v := 3) hx hb dX12_greatAt_11 (by decide) ?_
    obtain ⟨hi, hf⟩ := ck hf
    refine r_iald 1 cx hP rfl hi dX12_greatAt_12 ?_
    refine lv_icmp_ge (tgt := 57) hx hb dX12_greatAt_13 (by decide) (fun hc => ?_) (fun hc => ?_)
    · have hf := it_t hc hf
      exact he5 _ (Option.some.inj hf).symm _ _ _ hP hD hS (lv_sub hl [3] rfl)
    · have hf := it_f hc hf
      refine lv_iload_n hx hb dX12_greatAt_16 rfl (lv_at hl 3 rfl) ?_
      refine lv_aload_n hx hb dX12_greatAt_17 rfl (lv_at hl 0 rfl) ?_
      refine lv_iload_n hx hb dX12_greatAt_18 rfl (lv_at hl 1 rfl) ?_
      refine lv_iload hx hb dX12_greatAt_19 (lv_at hl 4 rfl) ?_
      obtain ⟨u21, hu21, hf⟩ := bd hf
      refine keepVI (ct_X12_isIn l E a_o a_o_at a_o_names a_o_sort a_o_trayMany a_o_trays a_o_tape a_o_text a_o_opened a_o_farBy a_o_attendsBy a_o_coveredBy a_o_cameBy a_o_cameThen a_o_fallsBy a_o_loops a_o_ran a_o_told1 o_status o_top o_bottom o_taped o_size o_token o_from o_end o_value o_faultKind o_faultPlace o_faults o_seen o_toldParts o_depth o_counted o_becameThen o_firstCorner o_drawn o_ranSteps o_isTold o_marks v1 st5.2 u21 hu21) [0] cal_X12_isIn cav_X12_isIn lk_X12_327 cx hP hD hS hl dX12_greatAt_21 rfl rfl rfl rfl (Nat.le_of_ble_eq_true rfl) ⟨Nat.le_of_ble_eq_true rfl, Nat.le_of_ble_eq_true rfl⟩ rfl (by decide) (fun H locs hP hS => ?_)
      refine lv_if_eq (tgt := 48) hx hb dX12_greatAt_24 (by decide) (fun hc => ?_) (fun hc => ?_)
      · have hf := it_t hc hf
        exact hj48 _ _ _ _ _ hf hP hD hS (lv_sub hl [0, 1, 2, 4] rfl)
      · have hf := it_f hc hf
        refine lv_aload_n hx hb dX12_greatAt_27 rfl (lv_at hl 0 rfl) ?_
        refine lv_iload hx hb dX12_greatAt_28 (lv_at hl 4 rfl) ?_
        refine lv_iconst (v := 0) hx hb dX12_greatAt_30 (by decide) ?_
        obtain ⟨u31, hu31, hf⟩ := bd hf
        refine keepVI (ct_X12_happeningOf l E a_o a_o_at a_o_names a_o_sort a_o_trayMany a_o_trays a_o_tape a_o_text a_o_opened a_o_farBy a_o_attendsBy a_o_coveredBy a_o_cameBy a_o_cameThen a_o_fallsBy a_o_loops a_o_ran a_o_told1 o_status o_top o_bottom o_taped o_size o_token o_from o_end o_value o_faultKind o_faultPlace o_faults o_seen o_toldParts o_depth o_counted o_becameThen o_firstCorner o_drawn o_ranSteps o_isTold o_marks o_at st5.2 (0 : Int32) u31 hu31) [0, 1] cal_X12_happeningOf cav_X12_happeningOf lk_X12_278 cx hP hD hS hl dX12_greatAt_31 rfl rfl rfl rfl (Nat.le_of_ble_eq_true rfl) ⟨Nat.le_of_ble_eq_true rfl, Nat.le_of_ble_eq_true rfl⟩ rfl (by decide) (fun H locs hP hS => ?_)
        refine lv_iload_n hx hb dX12_greatAt_34 rfl (lv_at hl 2 rfl) ?_
        refine lv_icmp_ne (tgt := 48) hx hb dX12_greatAt_35 (by decide) (fun hc => ?_) (fun hc => ?_)
        · have hf := it_f hc hf
          exact hj48 _ _ _ _ _ hf hP hD hS (lv_sub hl [0, 1, 2, 4] rfl)
        · have hf := it_t hc hf
          refine lv_aload_n hx hb dX12_greatAt_38 rfl (lv_at hl 0 rfl) ?_
          refine lv_iload hx hb dX12_greatAt_39 (lv_at hl 4 rfl) ?_
          refine lv_iconst (v := 2) hx hb dX12_greatAt_41 (by decide) ?_
          obtain ⟨u42, hu42, hf⟩ := bd hf
          refine keepVI (ct_X12_happeningOf l E a_o a_o_at a_o_names a_o_sort a_o_trayMany a_o_trays a_o_tape a_o_text a_o_opened a_o_farBy a_o_attendsBy a_o_coveredBy a_o_cameBy a_o_cameThen a_o_fallsBy a_o_loops a_o_ran a_o_told1 o_status o_top o_bottom o_taped o_size o_token o_from o_end o_value o_faultKind o_faultPlace o_faults o_seen o_toldParts o_depth o_counted o_becameThen o_firstCorner o_drawn o_ranSteps o_isTold o_marks o_at st5.2 (2 : Int32) u42 hu42) [0, 1] cal_X12_happeningOf cav_X12_happeningOf lk_X12_278 cx hP hD hS hl dX12_greatAt_42 rfl rfl rfl rfl (Nat.le_of_ble_eq_true rfl) ⟨Nat.le_of_ble_eq_true rfl, Nat.le_of_ble_eq_true rfl⟩ rfl (by decide) (fun H locs hP hS => ?_)
          refine lv_goto (tgt := 49) hx hb dX12_greatAt_45 (by decide) ?_
          exact hj49 _ _ _ _ _ _ hf hP hD hS (lv_sub hl [0, 1, 2, 4] rfl)
  · refine fun H locs ls hP hD hS hl => ?_
    refine lv_iload_n hx hb dX12_greatAt_57 rfl (lv_at hl 0 rfl) ?_
    obtain rfl := Option.some.inj hf
    subst hq
    exact retI cx hP hD hS dX12_greatAt_58
def X12_explains_b16 (F : Nat) (o_at : Nat → Int32) (o_trays : Nat → Int64) (v1 : Int32) (v2 : Int32) (st16 : Int32) : Option ((Int32) ⊕ ((Unit) ⊕ (Unit))) :=
  if ix 0 3097 then
  if (jat o_at 0) ≤ st16 then
  some (.inr (.inr (())))
  else
  (X12_greatAt F o_at v1 st16).bind fun u29 =>
  if ix ((60 * v2) + st16) 240 then
  if (lg_cmp (u29.toInt64) (jat o_trays ((60 * v2) + st16))) = 0 then
  some (.inl (st16 + 1))
  else
  some (.inr (.inl (())))
  else none
  else none
def X12_explains (F : Nat) (o_at : Nat → Int32) (o_trays : Nat → Int64) (v1 : Int32) (v2 : Int32) : Option (Int32) :=
  (X12_happeningsThat F o_at (0 : Int32)).bind fun u3 =>
  if (v1 &&& (u3 ^^^ (-1))) = 0 then
  (iter (X12_explains_b16 F o_at o_trays v1 v2) F 0).bind (Sum.elim (fun (e16 : Unit) =>
    some 0) (fun (e16 : Unit) =>
    some 1))
  else
  some 0
abbrev wd_X12_explains (E : vE) (a_o a_o_at a_o_names a_o_sort a_o_trayMany a_o_trays a_o_tape a_o_text a_o_opened a_o_farBy a_o_attendsBy a_o_coveredBy a_o_cameBy a_o_cameThen a_o_fallsBy a_o_loops a_o_ran a_o_told1 : Nat) (o_status : Int32) (o_top : Int64) (o_bottom : Int64) (o_taped : Int32) (o_size : Int32) (o_token : Int32) (o_from : Int32) (o_end : Int32) (o_value : Int32) (o_faultKind : Int32) (o_faultPlace : Int32) (o_faults : Int32) (o_seen : Int32) (o_toldParts : Int32) (o_depth : Int32) (o_counted : Int32) (o_becameThen : Int32) (o_firstCorner : Int32) (o_drawn : Int32) (o_ranSteps : Int32) (o_isTold : Int32) (o_marks : Int32) (o_at : Nat → Int32) (o_trays : Nat → Int64) : va_W := [(a_o, .inr (12, [.ref a_o_at, .ref a_o_names, .int o_status, .long o_top, .long o_bottom, .ref a_o_sort, .ref a_o_trayMany, .ref a_o_trays, .ref a_o_tape, .ref a_o_text, .int o_taped, .int o_size, .int o_token, .int o_from, .int o_end, .int o_value, .int o_faultKind, .int o_faultPlace, .int o_faults, .int o_seen, .int o_toldParts, .ref a_o_opened, .int o_depth, .int o_counted, .ref a_o_farBy, .int o_becameThen, .ref a_o_attendsBy, .ref a_o_coveredBy, .ref a_o_cameBy, .ref a_o_cameThen, .int o_firstCorner, .ref a_o_fallsBy, .int o_drawn, .int o_ranSteps, .ref a_o_loops, .ref a_o_ran, .ref a_o_told1, .int o_isTold, .int o_marks])), (a_o_at, .inl (E.2.1, 3097, .inl o_at)), (a_o_trays, .inl (E.2.2.1, 240, .inr (.inl o_trays)))]
set_option maxHeartbeats 4000000 in
set_option maxRecDepth 100000 in
theorem ct_X12_explains (l : Launch) (E : vE) (F : Nat) (a_o a_o_at a_o_names a_o_sort a_o_trayMany a_o_trays a_o_tape a_o_text a_o_opened a_o_farBy a_o_attendsBy a_o_coveredBy a_o_cameBy a_o_cameThen a_o_fallsBy a_o_loops a_o_ran a_o_told1 : Nat) (o_status : Int32) (o_top : Int64) (o_bottom : Int64) (o_taped : Int32) (o_size : Int32) (o_token : Int32) (o_from : Int32) (o_end : Int32) (o_value : Int32) (o_faultKind : Int32) (o_faultPlace : Int32) (o_faults : Int32) (o_seen : Int32) (o_toldParts : Int32) (o_depth : Int32) (o_counted : Int32) (o_becameThen : Int32) (o_firstCorner : Int32) (o_drawn : Int32) (o_ranSteps : Int32) (o_isTold : Int32) (o_marks : Int32) (o_at : Nat → Int32) (o_trays : Nat → Int64) (v1 : Int32) (v2 : Int32) (u : Int32) (hf : X12_explains F o_at o_trays v1 v2 = some u) :
    CtI l yX12_explains cX12_explains 4 (some .boolean) 3 E [.ref a_o, .int v1, .int v2] (wd_X12_explains E a_o a_o_at a_o_names a_o_sort a_o_trayMany a_o_trays a_o_tape a_o_text a_o_opened a_o_farBy a_o_attendsBy a_o_coveredBy a_o_cameBy a_o_cameThen a_o_fallsBy a_o_loops a_o_ran a_o_told1 o_status o_top o_bottom o_taped o_size o_token o_from o_end o_value o_faultKind o_faultPlace o_faults o_seen o_toldParts o_depth o_counted o_becameThen o_firstCorner o_drawn o_ranSteps o_isTold o_marks o_at o_trays) (wd_X12_explains E a_o a_o_at a_o_names a_o_sort a_o_trayMany a_o_trays a_o_tape a_o_text a_o_opened a_o_farBy a_o_attendsBy a_o_coveredBy a_o_cameBy a_o_cameThen a_o_fallsBy a_o_loops a_o_ran a_o_told1 o_status o_top o_bottom o_taped o_size o_token o_from o_end o_value o_faultKind o_faultPlace o_faults o_seen o_toldParts o_depth o_counted o_becameThen o_firstCorner o_drawn o_ranSteps o_isTold o_marks o_at o_trays) u := by
  refine ctI (by decide) (Nat.le_of_ble_eq_true rfl) ?_
  intro p e s m below meth cd A ls aa QQ hq cx hP hD hS hl
  obtain ⟨⟨hx, hb, hml, hown, hts⟩, hr, hlocks, hK, hA, hX⟩ := id cx
  have hl : lv_has ls 4 [(0, .ref a_o), (1, .int v1), (2, .int v2)] := hl
  unfold X12_explains at hf
  refine lv_iload_n hx hb dX12_explains_0 rfl (lv_at hl 1 rfl) ?_
  refine lv_aload_n hx hb dX12_explains_1 rfl (lv_at hl 0 rfl) ?_
  refine lv_iconst (v := 0) hx hb dX12_explains_2 (by decide) ?_
  obtain ⟨u3, hu3, hf⟩ := bd hf
  refine keepVI (ct_X12_happeningsThat l E F a_o a_o_at a_o_names a_o_sort a_o_trayMany a_o_trays a_o_tape a_o_text a_o_opened a_o_farBy a_o_attendsBy a_o_coveredBy a_o_cameBy a_o_cameThen a_o_fallsBy a_o_loops a_o_ran a_o_told1 o_status o_top o_bottom o_taped o_size o_token o_from o_end o_value o_faultKind o_faultPlace o_faults o_seen o_toldParts o_depth o_counted o_becameThen o_firstCorner o_drawn o_ranSteps o_isTold o_marks o_at (0 : Int32) u3 hu3) [0, 1] cal_X12_happeningsThat cav_X12_happeningsThat lk_X12_284 cx hP hD hS hl dX12_explains_3 rfl rfl rfl rfl (Nat.le_of_ble_eq_true rfl) ⟨Nat.le_of_ble_eq_true rfl, Nat.le_of_ble_eq_true rfl⟩ rfl (by decide) (fun H locs hP hS => ?_)
  refine lv_iconst (v := (-1)) hx hb dX12_explains_6 (by decide) ?_
  refine lv_ixor hx hb dX12_explains_7 ?_
  refine lv_iand hx hb dX12_explains_8 ?_
  refine lv_if_eq (tgt := 14) hx hb dX12_explains_9 (by decide) (fun hc => ?_) (fun hc => ?_)
  · have hf := it_t hc hf
    refine lv_iconst (v := 0) hx hb dX12_explains_14 (by decide) ?_
    refine lv_istore_n (lv' := [(3, .int 0), (0, .ref a_o), (1, .int v1), (2, .int v2)]) hx hb dX12_explains_15 rfl hl (by decide) rfl (fun ls hl => ?_)
    obtain ⟨e16, hit16, hf⟩ := bd hf
    refine iter_W (b := X12_explains_b16 F o_at o_trays v1 v2) (P := fun st16 => ∀ (H : Heap) (locs : List Loc) (ls : Array Slot), va_P E.1 vwCl (wd_X12_explains E a_o a_o_at a_o_names a_o_sort a_o_trayMany a_o_trays a_o_tape a_o_text a_o_opened a_o_farBy a_o_attendsBy a_o_coveredBy a_o_cameBy a_o_cameThen a_o_fallsBy a_o_loops a_o_ran a_o_told1 o_status o_top o_bottom o_taped o_size o_token o_from o_end o_value o_faultKind o_faultPlace o_faults o_seen o_toldParts o_depth o_counted o_becameThen o_firstCorner o_drawn o_ranSteps o_isTold o_marks o_at o_trays) H → va_D A (wd_X12_explains E a_o a_o_at a_o_names a_o_sort a_o_trayMany a_o_trays a_o_tape a_o_text a_o_opened a_o_farBy a_o_attendsBy a_o_coveredBy a_o_cameBy a_o_cameThen a_o_fallsBy a_o_loops a_o_ran a_o_told1 o_status o_top o_bottom o_taped o_size o_token o_from o_end o_value o_faultKind o_faultPlace o_faults o_seen o_toldParts o_depth o_counted o_becameThen o_firstCorner o_drawn o_ranSteps o_isTold o_marks o_at o_trays) → va_S A s.heap H locs → lv_has ls 4 [(0, .ref a_o), (1, .int v1), (2, .int v2), (3, .int st16)] → W p l e (rmd 3) s m aa below meth cd H locs 0 0 QQ (F0 m 16 ls [])) (G := (Sum.elim (fun (e16 : Unit) => ∀ (H : Heap) (locs : List Loc) (ls : Array Slot), va_P E.1 vwCl (wd_X12_explains E a_o a_o_at a_o_names a_o_sort a_o_trayMany a_o_trays a_o_tape a_o_text a_o_opened a_o_farBy a_o_attendsBy a_o_coveredBy a_o_cameBy a_o_cameThen a_o_fallsBy a_o_loops a_o_ran a_o_told1 o_status o_top o_bottom o_taped o_size o_token o_from o_end o_value o_faultKind o_faultPlace o_faults o_seen o_toldParts o_depth o_counted o_becameThen o_firstCorner o_drawn o_ranSteps o_isTold o_marks o_at o_trays) H → va_D A (wd_X12_explains E a_o a_o_at a_o_names a_o_sort a_o_trayMany a_o_trays a_o_tape a_o_text a_o_opened a_o_farBy a_o_attendsBy a_o_coveredBy a_o_cameBy a_o_cameThen a_o_fallsBy a_o_loops a_o_ran a_o_told1 o_status o_top o_bottom o_taped o_size o_token o_from o_end o_value o_faultKind o_faultPlace o_faults o_seen o_toldParts o_depth o_counted o_becameThen o_firstCorner o_drawn o_ranSteps o_isTold o_marks o_at o_trays) → va_S A s.heap H locs → lv_has ls 4 [] → W p l e (rmd 3) s m aa below meth cd H locs 0 0 QQ (F0 m 48 ls [])) (fun (e16 : Unit) => ∀ (H : Heap) (locs : List Loc) (ls : Array Slot), va_P E.1 vwCl (wd_X12_explains E a_o a_o_at a_o_names a_o_sort a_o_trayMany a_o_trays a_o_tape a_o_text a_o_opened a_o_farBy a_o_attendsBy a_o_coveredBy a_o_cameBy a_o_cameThen a_o_fallsBy a_o_loops a_o_ran a_o_told1 o_status o_top o_bottom o_taped o_size o_token o_from o_end o_value o_faultKind o_faultPlace o_faults o_seen o_toldParts o_depth o_counted o_becameThen o_firstCorner o_drawn o_ranSteps o_isTold o_marks o_at o_trays) H → va_D A (wd_X12_explains E a_o a_o_at a_o_names a_o_sort a_o_trayMany a_o_trays a_o_tape a_o_text a_o_opened a_o_farBy a_o_attendsBy a_o_coveredBy a_o_cameBy a_o_cameThen a_o_fallsBy a_o_loops a_o_ran a_o_told1 o_status o_top o_bottom o_taped o_size o_token o_from o_end o_value o_faultKind o_faultPlace o_faults o_seen o_toldParts o_depth o_counted o_becameThen o_firstCorner o_drawn o_ranSteps o_isTold o_marks o_at o_trays) → va_S A s.heap H locs → lv_has ls 4 [] → W p l e (rmd 3) s m aa below meth cd H locs 0 0 QQ (F0 m 56 ls [])))) ?_ F 0 e16 hit16 ?_ _ _ _ hP hD hS (lv_sub hl [1, 2, 3, 0] rfl)
    · intro st16 r16 hf hk16 he16 H locs ls hP hD hS hl
      unfold X12_explains_b16 at hf
      refine lv_iload_n hx hb dX12_explains_16 rfl (lv_at hl 3 rfl) ?_
      refine lv_aload_n hx hb dX12_explains_17 rfl (lv_at hl 0 rfl) ?_
      refine va_get (D := E.1) (ci := 12) (v := .ref a_o_at) (C := RX12) (T := TX12) (N := 39) hx hb hts inX12 hown hK hP 0 rfl rfl 0 (by decide) (hts _ fl_X12_7) (fun _ h9 => h9) rfl dX12_explains_18 ?_
      refine lv_iconst (v := 0) hx hb dX12_explains_21 (by decide) ?_
      obtain ⟨hi, hf⟩ := ck hf
      refine r_iald 1 cx hP rfl hi dX12_explains_22 ?_
      refine lv_icmp_ge (tgt := 56) hx hb dX12_explains_23 (by decide) (fun hc => ?_) (fun hc => ?_)
      · have hf := it_t hc hf
        exact he16 _ (Option.some.inj hf).symm _ _ _ hP hD hS (lv_sub hl [] rfl)
      · have hf := it_f hc hf
        refine lv_aload_n hx hb dX12_explains_26 rfl (lv_at hl 0 rfl) ?_
        refine lv_iload_n hx hb dX12_explains_27 rfl (lv_at hl 1 rfl) ?_
        refine lv_iload_n hx hb dX12_explains_28 rfl (lv_at hl 3 rfl) ?_
        obtain ⟨u29, hu29, hf⟩ := bd hf
        refine keepVI (ct_X12_greatAt l E F a_o a_o_at a_o_names a_o_sort a_o_trayMany a_o_trays a_o_tape a_o_text a_o_opened a_o_farBy a_o_attendsBy a_o_coveredBy a_o_cameBy a_o_cameThen a_o_fallsBy a_o_loops a_o_ran a_o_told1 o_status o_top o_bottom o_taped o_size o_token o_from o_end o_value o_faultKind o_faultPlace o_faults o_seen o_toldParts o_depth o_counted o_becameThen o_firstCorner o_drawn o_ranSteps o_isTold o_marks o_at v1 st16 u29 hu29) [0, 1] cal_X12_greatAt cav_X12_greatAt lk_X12_423 cx hP hD hS hl dX12_explains_29 rfl rfl rfl rfl (Nat.le_of_ble_eq_true rfl) ⟨Nat.le_of_ble_eq_true rfl, Nat.le_of_ble_eq_true rfl⟩ rfl (by decide) (fun H locs hP hS => ?_)
        refine lv_i2l (v := (u29.toInt64)) hx hb dX12_explains_32 rfl ?_
        refine lv_aload_n hx hb dX12_explains_33 rfl (lv_at hl 0 rfl) ?_
        refine va_get (D := E.1) (ci := 12) (v := .ref a_o_trays) (C := RX12) (T := TX12) (N := 39) hx hb hts inX12 hown hK hP 0 rfl rfl 7 (by decide) (hts _ fl_X12_27) (fun _ h9 => h9) rfl dX12_explains_34 ?_
        refine lv_bipush (v := 60) hx hb dX12_explains_37 (by decide) ?_
        refine lv_iload_n hx hb dX12_explains_39 rfl (lv_at hl 2 rfl) ?_
        refine lv_imul hx hb dX12_explains_40 ?_
        refine lv_iload_n hx hb dX12_explains_41 rfl (lv_at hl 3 rfl) ?_
        refine lv_iadd hx hb dX12_explains_42 ?_
        obtain ⟨hi, hf⟩ := ck hf
        refine r_lald 2 cx hP rfl hi dX12_explains_43 ?_
        refine W.lcmp hx hb dX12_explains_44 ?_
        refine lv_if_eq (tgt := 50) hx hb dX12_explains_45 (by decide) (fun hc => ?_) (fun hc => ?_)
        · have hf := it_t hc hf
          refine lv_iinc (v := (st16 + 1)) (lv' := [(3, .int (st16 + 1)), (0, .ref a_o), (1, .int v1), (2, .int v2)]) hx hb dX12_explains_50 hl (k := 3) rfl rfl (by decide) rfl (fun ls hl => ?_)
          refine lv_goto (tgt := 16) hx hb dX12_explains_53 (by decide) ?_
          exact hk16 _ (Option.some.inj hf).symm _ _ _ hP hD hS (lv_sub hl [1, 2, 3, 0] rfl)
        · have hf := it_f hc hf
          exact he16 _ (Option.some.inj hf).symm _ _ _ hP hD hS (lv_sub hl [] rfl)
    · rcases e16 with e16 | e16
      · have hf := se_l hf
        refine fun H locs ls hP hD hS hl => ?_
        refine lv_iconst (v := 0) hx hb dX12_explains_48 (by decide) ?_
        obtain rfl := Option.some.inj hf
        subst hq
        exact retZ cx rfl hP hD hS dX12_explains_49
      · have hf := se_r hf
        refine fun H locs ls hP hD hS hl => ?_
        refine lv_iconst (v := 1) hx hb dX12_explains_56 (by decide) ?_
        obtain rfl := Option.some.inj hf
        subst hq
        exact retZ cx rfl hP hD hS dX12_explains_57
  · have hf := it_f hc hf
    refine lv_iconst (v := 0) hx hb dX12_explains_12 (by decide) ?_
    obtain rfl := Option.some.inj hf
    subst hq
    exact retZ cx rfl hP hD hS dX12_explains_13
def X12_explained_j50 (F : Nat) (o_status : Int32) (o_at : Nat → Int32) (o_trayMany : Nat → Int32) (o_trays : Nat → Int64) (v1 : Int32) (v4 : Int32) (k0 : Int32) (k1 : Int32) : Option ((Int32 × Int32) ⊕ ((Int32))) :=
  some (.inl ((k1 + k0), (v4 + 1)))
def X12_explained_b21 (F : Nat) (o_status : Int32) (o_at : Nat → Int32) (o_trayMany : Nat → Int32) (o_trays : Nat → Int64) (v1 : Int32) (st21 : Int32 × Int32) : Option ((Int32 × Int32) ⊕ ((Int32))) :=
  if ix 3 3097 then
  if (jshl 1 (jat o_at 3)) ≤ st21.2 then
  some (.inr st21.1)
  else
  (X12_explains F o_at o_trays st21.2 v1).bind fun u39 =>
  if u39 = 0 then
  X12_explained_j50 F o_status o_at o_trayMany o_trays v1 st21.2 0 st21.1
  else
  X12_explained_j50 F o_status o_at o_trayMany o_trays v1 st21.2 1 st21.1
  else none
def X12_explained (F : Nat) (o_status : Int32) (o_at : Nat → Int32) (o_trayMany : Nat → Int32) (o_trays : Nat → Int64) (v1 : Int32) : Option (Int32 × Int32) :=
  (X12_wrongStanding F o_at o_trayMany o_trays v1).bind fun u2 =>
  if u2 ≤ 0 then
  (iter (X12_explained_b21 F o_status o_at o_trayMany o_trays v1) F (0, 0)).bind (fun (e21 : Int32) =>
    (X12_gives o_status e21).bind fun u60 =>
  some (u60.1, u60.2))
  else
  (X12_refuse o_status u2).bind fun u12 =>
  some (u12.1, u12.2)
abbrev wd_X12_explained (E : vE) (a_o a_o_at a_o_names a_o_sort a_o_trayMany a_o_trays a_o_tape a_o_text a_o_opened a_o_farBy a_o_attendsBy a_o_coveredBy a_o_cameBy a_o_cameThen a_o_fallsBy a_o_loops a_o_ran a_o_told1 : Nat) (o_status : Int32) (o_top : Int64) (o_bottom : Int64) (o_taped : Int32) (o_size : Int32) (o_token : Int32) (o_from : Int32) (o_end : Int32) (o_value : Int32) (o_faultKind : Int32) (o_faultPlace : Int32) (o_faults : Int32) (o_seen : Int32) (o_toldParts : Int32) (o_depth : Int32) (o_counted : Int32) (o_becameThen : Int32) (o_firstCorner : Int32) (o_drawn : Int32) (o_ranSteps : Int32) (o_isTold : Int32) (o_marks : Int32) (o_at : Nat → Int32) (o_trayMany : Nat → Int32) (o_trays : Nat → Int64) : va_W := [(a_o, .inr (12, [.ref a_o_at, .ref a_o_names, .int o_status, .long o_top, .long o_bottom, .ref a_o_sort, .ref a_o_trayMany, .ref a_o_trays, .ref a_o_tape, .ref a_o_text, .int o_taped, .int o_size, .int o_token, .int o_from, .int o_end, .int o_value, .int o_faultKind, .int o_faultPlace, .int o_faults, .int o_seen, .int o_toldParts, .ref a_o_opened, .int o_depth, .int o_counted, .ref a_o_farBy, .int o_becameThen, .ref a_o_attendsBy, .ref a_o_coveredBy, .ref a_o_cameBy, .ref a_o_cameThen, .int o_firstCorner, .ref a_o_fallsBy, .int o_drawn, .int o_ranSteps, .ref a_o_loops, .ref a_o_ran, .ref a_o_told1, .int o_isTold, .int o_marks])), (a_o_at, .inl (E.2.1, 3097, .inl o_at)), (a_o_trayMany, .inl (E.2.1, 4, .inl o_trayMany)), (a_o_trays, .inl (E.2.2.1, 240, .inr (.inl o_trays)))]
set_option maxHeartbeats 4000000 in
set_option maxRecDepth 100000 in
theorem ct_X12_explained (l : Launch) (E : vE) (F : Nat) (a_o a_o_at a_o_names a_o_sort a_o_trayMany a_o_trays a_o_tape a_o_text a_o_opened a_o_farBy a_o_attendsBy a_o_coveredBy a_o_cameBy a_o_cameThen a_o_fallsBy a_o_loops a_o_ran a_o_told1 : Nat) (o_status : Int32) (o_top : Int64) (o_bottom : Int64) (o_taped : Int32) (o_size : Int32) (o_token : Int32) (o_from : Int32) (o_end : Int32) (o_value : Int32) (o_faultKind : Int32) (o_faultPlace : Int32) (o_faults : Int32) (o_seen : Int32) (o_toldParts : Int32) (o_depth : Int32) (o_counted : Int32) (o_becameThen : Int32) (o_firstCorner : Int32) (o_drawn : Int32) (o_ranSteps : Int32) (o_isTold : Int32) (o_marks : Int32) (o_at : Nat → Int32) (o_trayMany : Nat → Int32) (o_trays : Nat → Int64) (v1 : Int32) (u : Int32 × Int32) (hf : X12_explained F o_status o_at o_trayMany o_trays v1 = some u) :
    CtI l yX12_explained cX12_explained 5 (some .int) 4 E [.ref a_o, .int v1] (wd_X12_explained E a_o a_o_at a_o_names a_o_sort a_o_trayMany a_o_trays a_o_tape a_o_text a_o_opened a_o_farBy a_o_attendsBy a_o_coveredBy a_o_cameBy a_o_cameThen a_o_fallsBy a_o_loops a_o_ran a_o_told1 o_status o_top o_bottom o_taped o_size o_token o_from o_end o_value o_faultKind o_faultPlace o_faults o_seen o_toldParts o_depth o_counted o_becameThen o_firstCorner o_drawn o_ranSteps o_isTold o_marks o_at o_trayMany o_trays) (wd_X12_explained E a_o a_o_at a_o_names a_o_sort a_o_trayMany a_o_trays a_o_tape a_o_text a_o_opened a_o_farBy a_o_attendsBy a_o_coveredBy a_o_cameBy a_o_cameThen a_o_fallsBy a_o_loops a_o_ran a_o_told1 u.2 o_top o_bottom o_taped o_size o_token o_from o_end o_value o_faultKind o_faultPlace o_faults o_seen o_toldParts o_depth o_counted o_becameThen o_firstCorner o_drawn o_ranSteps o_isTold o_marks o_at o_trayMany o_trays) u.1 := by
  refine ctI (by decide) (Nat.le_of_ble_eq_true rfl) ?_
  intro p e s m below meth cd A ls aa QQ hq cx hP hD hS hl
  obtain ⟨⟨hx, hb, hml, hown, hts⟩, hr, hlocks, hK, hA, hX⟩ := id cx
  have hl : lv_has ls 5 [(0, .ref a_o), (1, .int v1)] := hl
  unfold X12_explained at hf
  refine lv_aload_n hx hb dX12_explained_0 rfl (lv_at hl 0 rfl) ?_
  refine lv_iload_n hx hb dX12_explained_1 rfl (lv_at hl 1 rfl) ?_
  obtain ⟨u2, hu2, hf⟩ := bd hf
  refine keepVI (ct_X12_wrongStanding l E F a_o a_o_at a_o_names a_o_sort a_o_trayMany a_o_trays a_o_tape a_o_text a_o_opened a_o_farBy a_o_attendsBy a_o_coveredBy a_o_cameBy a_o_cameThen a_o_fallsBy a_o_loops a_o_ran a_o_told1 o_status o_top o_bottom o_taped o_size o_token o_from o_end o_value o_faultKind o_faultPlace o_faults o_seen o_toldParts o_depth o_counted o_becameThen o_firstCorner o_drawn o_ranSteps o_isTold o_marks o_at o_trayMany o_trays v1 u2 hu2) [0, 1, 2, 3] cal_X12_wrongStanding cav_X12_wrongStanding lk_X12_426 cx hP hD hS hl dX12_explained_2 rfl rfl rfl rfl (Nat.le_of_ble_eq_true rfl) ⟨Nat.le_of_ble_eq_true rfl, Nat.le_of_ble_eq_true rfl⟩ rfl (by decide) (fun H locs hP hS => ?_)
  refine lv_istore_n (lv' := [(2, .int u2), (0, .ref a_o), (1, .int v1)]) hx hb dX12_explained_5 rfl hl (by decide) rfl (fun ls hl => ?_)
  refine lv_iload_n hx hb dX12_explained_6 rfl (lv_at hl 0 rfl) ?_
  refine lv_if_le (tgt := 16) hx hb dX12_explained_7 (by decide) (fun hc => ?_) (fun hc => ?_)
  · have hf := it_t hc hf
    refine lv_iconst (v := 0) hx hb dX12_explained_16 (by decide) ?_
    refine lv_istore_n (lv' := [(3, .int 0), (2, .int u2), (0, .ref a_o), (1, .int v1)]) hx hb dX12_explained_17 rfl hl (by decide) rfl (fun ls hl => ?_)
    refine lv_iconst (v := 0) hx hb dX12_explained_18 (by decide) ?_
    refine lv_istore (lv' := [(4, .int 0), (3, .int 0), (2, .int u2), (0, .ref a_o), (1, .int v1)]) hx hb dX12_explained_19 hl (by decide) rfl (fun ls hl => ?_)
    obtain ⟨e21, hit21, hf⟩ := bd hf
    refine iter_W (b := X12_explained_b21 F o_status o_at o_trayMany o_trays v1) (P := fun st21 => ∀ (H : Heap) (locs : List Loc) (ls : Array Slot), va_P E.1 vwCl (wd_X12_explained E a_o a_o_at a_o_names a_o_sort a_o_trayMany a_o_trays a_o_tape a_o_text a_o_opened a_o_farBy a_o_attendsBy a_o_coveredBy a_o_cameBy a_o_cameThen a_o_fallsBy a_o_loops a_o_ran a_o_told1 o_status o_top o_bottom o_taped o_size o_token o_from o_end o_value o_faultKind o_faultPlace o_faults o_seen o_toldParts o_depth o_counted o_becameThen o_firstCorner o_drawn o_ranSteps o_isTold o_marks o_at o_trayMany o_trays) H → va_D A (wd_X12_explained E a_o a_o_at a_o_names a_o_sort a_o_trayMany a_o_trays a_o_tape a_o_text a_o_opened a_o_farBy a_o_attendsBy a_o_coveredBy a_o_cameBy a_o_cameThen a_o_fallsBy a_o_loops a_o_ran a_o_told1 o_status o_top o_bottom o_taped o_size o_token o_from o_end o_value o_faultKind o_faultPlace o_faults o_seen o_toldParts o_depth o_counted o_becameThen o_firstCorner o_drawn o_ranSteps o_isTold o_marks o_at o_trayMany o_trays) → va_S A s.heap H locs → lv_has ls 5 [(0, .ref a_o), (1, .int v1), (3, .int st21.1), (4, .int st21.2)] → W p l e (rmd 4) s m aa below meth cd H locs 0 0 QQ (F0 m 21 ls [])) (G := (fun (e21 : Int32) => ∀ (H : Heap) (locs : List Loc) (ls : Array Slot), va_P E.1 vwCl (wd_X12_explained E a_o a_o_at a_o_names a_o_sort a_o_trayMany a_o_trays a_o_tape a_o_text a_o_opened a_o_farBy a_o_attendsBy a_o_coveredBy a_o_cameBy a_o_cameThen a_o_fallsBy a_o_loops a_o_ran a_o_told1 o_status o_top o_bottom o_taped o_size o_token o_from o_end o_value o_faultKind o_faultPlace o_faults o_seen o_toldParts o_depth o_counted o_becameThen o_firstCorner o_drawn o_ranSteps o_isTold o_marks o_at o_trayMany o_trays) H → va_D A (wd_X12_explained E a_o a_o_at a_o_names a_o_sort a_o_trayMany a_o_trays a_o_tape a_o_text a_o_opened a_o_farBy a_o_attendsBy a_o_coveredBy a_o_cameBy a_o_cameThen a_o_fallsBy a_o_loops a_o_ran a_o_told1 o_status o_top o_bottom o_taped o_size o_token o_from o_end o_value o_faultKind o_faultPlace o_faults o_seen o_toldParts o_depth o_counted o_becameThen o_firstCorner o_drawn o_ranSteps o_isTold o_marks o_at o_trayMany o_trays) → va_S A s.heap H locs → lv_has ls 5 [(0, .ref a_o), (3, .int e21)] → W p l e (rmd 4) s m aa below meth cd H locs 0 0 QQ (F0 m 58 ls []))) ?_ F (0, 0) e21 hit21 ?_ _ _ _ hP hD hS (lv_sub hl [3, 4, 1, 0] rfl)
    · intro st21 r21 hf hk21 he21 H locs ls hP hD hS hl
      have hj50 : ∀ (v4_j50 : Int32) (k0_j50 : Int32) (k1_j50 : Int32) (H : Heap) (locs : List Loc) (ls : Array Slot), X12_explained_j50 F o_status o_at o_trayMany o_trays v1 v4_j50 k0_j50 k1_j50 = some r21 → va_P E.1 vwCl (wd_X12_explained E a_o a_o_at a_o_names a_o_sort a_o_trayMany a_o_trays a_o_tape a_o_text a_o_opened a_o_farBy a_o_attendsBy a_o_coveredBy a_o_cameBy a_o_cameThen a_o_fallsBy a_o_loops a_o_ran a_o_told1 o_status o_top o_bottom o_taped o_size o_token o_from o_end o_value o_faultKind o_faultPlace o_faults o_seen o_toldParts o_depth o_counted o_becameThen o_firstCorner o_drawn o_ranSteps o_isTold o_marks o_at o_trayMany o_trays) H → va_D A (wd_X12_explained E a_o a_o_at a_o_names a_o_sort a_o_trayMany a_o_trays a_o_tape a_o_text a_o_opened a_o_farBy a_o_attendsBy a_o_coveredBy a_o_cameBy a_o_cameThen a_o_fallsBy a_o_loops a_o_ran a_o_told1 o_status o_top o_bottom o_taped o_size o_token o_from o_end o_value o_faultKind o_faultPlace o_faults o_seen o_toldParts o_depth o_counted o_becameThen o_firstCorner o_drawn o_ranSteps o_isTold o_marks o_at o_trayMany o_trays) → va_S A s.heap H locs → lv_has ls 5 [(0, .ref a_o), (1, .int v1), (4, .int v4_j50)] → W p l e (rmd 4) s m aa below meth cd H locs 0 0 QQ (F0 m 50 ls [.int k0_j50, .int k1_j50]) := by
        intro v4_j50 k0_j50 k1_j50 H locs ls hf hP hD hS hl
        unfold X12_explained_j50 at hf
        refine lv_iadd hx hb dX12_explained_50 ?_
        refine lv_istore_n (lv' := [(3, .int (k1_j50 + k0_j50)), (0, .ref a_o), (1, .int v1), (4, .int v4_j50)]) hx hb dX12_explained_51 rfl hl (by decide) rfl (fun ls hl => ?_)
        refine lv_iinc (v := (v4_j50 + 1)) (lv' := [(4, .int (v4_j50 + 1)), (3, .int (k1_j50 + k0_j50)), (0, .ref a_o), (1, .int v1)]) hx hb dX12_explained_52 hl (k := 3) rfl rfl (by decide) rfl (fun ls hl => ?_)
        refine lv_goto (tgt := 21) hx hb dX12_explained_55 (by decide) ?_
        exact hk21 _ (Option.some.inj hf).symm _ _ _ hP hD hS (lv_sub hl [2, 3, 1, 0] rfl)
      unfold X12_explained_b21 at hf
      refine lv_iload hx hb dX12_explained_21 (lv_at hl 3 rfl) ?_
      refine lv_iconst (v := 1) hx hb dX12_explained_23 (by decide) ?_
      refine lv_aload_n hx hb dX12_explained_24 rfl (lv_at hl 0 rfl) ?_
      refine va_get (D := E.1) (ci := 12) (v := .ref a_o_at) (C := RX12) (T := TX12) (N := 39) hx hb hts inX12 hown hK hP 0 rfl rfl 0 (by decide) (hts _ fl_X12_7) (fun _ h9 => h9) rfl dX12_explained_25 ?_
      refine lv_iconst (v := 3) hx hb dX12_explained_28 (by decide) ?_
      obtain ⟨hi, hf⟩ := ck hf
      refine r_iald 1 cx hP rfl hi dX12_explained_29 ?_
      refine r_ishl hx hb dX12_explained_30 ?_
      refine lv_icmp_ge (tgt := 58) hx hb dX12_explained_31 (by decide) (fun hc => ?_) (fun hc => ?_)
      · have hf := it_t hc hf
        exact he21 _ (Option.some.inj hf).symm _ _ _ hP hD hS (lv_sub hl [0, 2] rfl)
      · have hf := it_f hc hf
        refine lv_iload_n hx hb dX12_explained_34 rfl (lv_at hl 2 rfl) ?_
        refine lv_aload_n hx hb dX12_explained_35 rfl (lv_at hl 0 rfl) ?_
        refine lv_iload hx hb dX12_explained_36 (lv_at hl 3 rfl) ?_
        refine lv_iload_n hx hb dX12_explained_38 rfl (lv_at hl 1 rfl) ?_
        obtain ⟨u39, hu39, hf⟩ := bd hf
        refine keepVI (ct_X12_explains l E F a_o a_o_at a_o_names a_o_sort a_o_trayMany a_o_trays a_o_tape a_o_text a_o_opened a_o_farBy a_o_attendsBy a_o_coveredBy a_o_cameBy a_o_cameThen a_o_fallsBy a_o_loops a_o_ran a_o_told1 o_status o_top o_bottom o_taped o_size o_token o_from o_end o_value o_faultKind o_faultPlace o_faults o_seen o_toldParts o_depth o_counted o_becameThen o_firstCorner o_drawn o_ranSteps o_isTold o_marks o_at o_trays st21.2 v1 u39 hu39) [0, 1, 3] cal_X12_explains cav_X12_explains lk_X12_429 cx hP hD hS hl dX12_explained_39 rfl rfl rfl rfl (Nat.le_of_ble_eq_true rfl) ⟨Nat.le_of_ble_eq_true rfl, Nat.le_of_ble_eq_true rfl⟩ rfl (by decide) (fun H locs hP hS => ?_)
        refine lv_if_eq (tgt := 49) hx hb dX12_explained_42 (by decide) (fun hc => ?_) (fun hc => ?_)
        · have hf := it_t hc hf
          refine lv_iconst (v := 0) hx hb dX12_explained_49 (by decide) ?_
          exact hj50 _ _ _ _ _ _ hf hP hD hS (lv_sub hl [0, 1, 3] rfl)
        · have hf := it_f hc hf
          refine lv_iconst (v := 1) hx hb dX12_explained_45 (by decide) ?_
          refine lv_goto (tgt := 50) hx hb dX12_explained_46 (by decide) ?_
          exact hj50 _ _ _ _ _ _ hf hP hD hS (lv_sub hl [0, 1, 3] rfl)
    · refine fun H locs ls hP hD hS hl => ?_
      refine lv_aload_n hx hb dX12_explained_58 rfl (lv_at hl 0 rfl) ?_
      refine lv_iload_n hx hb dX12_explained_59 rfl (lv_at hl 1 rfl) ?_
      obtain ⟨u60, hu60, hf⟩ := bd hf
      refine callVI (wn := (wd_X12_explained E a_o a_o_at a_o_names a_o_sort a_o_trayMany a_o_trays a_o_tape a_o_text a_o_opened a_o_farBy a_o_attendsBy a_o_coveredBy a_o_cameBy a_o_cameThen a_o_fallsBy a_o_loops a_o_ran a_o_told1 u60.2 o_top o_bottom o_taped o_size o_token o_from o_end o_value o_faultKind o_faultPlace o_faults o_seen o_toldParts o_depth o_counted o_becameThen o_firstCorner o_drawn o_ranSteps o_isTold o_marks o_at o_trayMany o_trays)) (n1 := 4) (ct_X12_gives l E a_o a_o_at a_o_names a_o_sort a_o_trayMany a_o_trays a_o_tape a_o_text a_o_opened a_o_farBy a_o_attendsBy a_o_coveredBy a_o_cameBy a_o_cameThen a_o_fallsBy a_o_loops a_o_ran a_o_told1 o_status o_top o_bottom o_taped o_size o_token o_from o_end o_value o_faultKind o_faultPlace o_faults o_seen o_toldParts o_depth o_counted o_becameThen o_firstCorner o_drawn o_ranSteps o_isTold o_marks e21 u60 hu60) [0] cal_X12_gives cav_X12_gives lk_X12_89 cx hP hD hS hl dX12_explained_60 rfl rfl rfl rfl (Nat.le_of_ble_eq_true rfl) ⟨Nat.le_of_ble_eq_true rfl, Nat.le_of_ble_eq_true rfl⟩ rfl (by decide +kernel) rfl [some 0, none, none, none] rfl (by decide +kernel) rfl (fun H locs hP hD hS => ?_)
      obtain rfl := Option.some.inj hf
      subst hq
      exact retI cx hP hD hS dX12_explained_63
  · have hf := it_f hc hf
    refine lv_aload_n hx hb dX12_explained_10 rfl (lv_at hl 1 rfl) ?_
    refine lv_iload_n hx hb dX12_explained_11 rfl (lv_at hl 0 rfl) ?_
    obtain ⟨u12, hu12, hf⟩ := bd hf
    refine callVI (wn := (wd_X12_explained E a_o a_o_at a_o_names a_o_sort a_o_trayMany a_o_trays a_o_tape a_o_text a_o_opened a_o_farBy a_o_attendsBy a_o_coveredBy a_o_cameBy a_o_cameThen a_o_fallsBy a_o_loops a_o_ran a_o_told1 u12.2 o_top o_bottom o_taped o_size o_token o_from o_end o_value o_faultKind o_faultPlace o_faults o_seen o_toldParts o_depth o_counted o_becameThen o_firstCorner o_drawn o_ranSteps o_isTold o_marks o_at o_trayMany o_trays)) (n1 := 4) (ct_X12_refuse l E a_o a_o_at a_o_names a_o_sort a_o_trayMany a_o_trays a_o_tape a_o_text a_o_opened a_o_farBy a_o_attendsBy a_o_coveredBy a_o_cameBy a_o_cameThen a_o_fallsBy a_o_loops a_o_ran a_o_told1 o_status o_top o_bottom o_taped o_size o_token o_from o_end o_value o_faultKind o_faultPlace o_faults o_seen o_toldParts o_depth o_counted o_becameThen o_firstCorner o_drawn o_ranSteps o_isTold o_marks u2 u12 hu12) [0] cal_X12_refuse cav_X12_refuse lk_X12_85 cx hP hD hS hl dX12_explained_12 rfl rfl rfl rfl (Nat.le_of_ble_eq_true rfl) ⟨Nat.le_of_ble_eq_true rfl, Nat.le_of_ble_eq_true rfl⟩ rfl (by decide +kernel) rfl [some 0, none, none, none] rfl (by decide +kernel) rfl (fun H locs hP hD hS => ?_)
    obtain rfl := Option.some.inj hf
    subst hq
    exact retI cx hP hD hS dX12_explained_15
