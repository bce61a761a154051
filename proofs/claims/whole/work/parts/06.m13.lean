def X12_worstAt_j98 (F : Nat) (o_at : Nat → Int32) (o_cameThen : Nat → Int32) (v1 : Int32) (v2 : Int32) (v3 : Int32) (v4 : Int32) : Option ((Int32 × Int32) ⊕ ((Int32))) :=
  some (.inl (v3, (v4 + 1)))
def X12_worstAt_j88 (F : Nat) (o_at : Nat → Int32) (o_cameThen : Nat → Int32) (v1 : Int32) (v2 : Int32) (v3 : Int32) (v4 : Int32) (k0 : Int32) (k1 : Int32) : Option ((Int32 × Int32) ⊕ ((Int32))) :=
  X12_worstAt_j98 F o_at o_cameThen v1 v2 (jmax v3 (k1 + k0)) v4
def X12_worstAt_b16 (F : Nat) (o_at : Nat → Int32) (o_cameThen : Nat → Int32) (v1 : Int32) (v2 : Int32) (st16 : Int32 × Int32) : Option ((Int32 × Int32) ⊕ ((Int32))) :=
  if ix 3 3097 then
  if (jat o_at 3) ≤ st16.2 then
  some (.inr st16.1)
  else
  (X12_isIn v2 st16.2).bind fun u31 =>
  if u31 = 0 then
  (X12_isToCome o_at st16.2).bind fun u40 =>
  if u40 = 0 then
  X12_worstAt_j98 F o_at o_cameThen v1 v2 st16.1 st16.2
  else
  if ix ((256 * v1) + (v2 ||| (jshl 1 st16.2))) 2048 then
  (X12_happeningOf o_at st16.2 (0 : Int32)).bind fun u70 =>
  if u70 = v1 then
  X12_worstAt_j88 F o_at o_cameThen v1 v2 st16.1 st16.2 0 (jat o_cameThen ((256 * v1) + (v2 ||| (jshl 1 st16.2))))
  else
  (X12_happeningOf o_at st16.2 (2 : Int32)).bind fun u85 =>
  X12_worstAt_j88 F o_at o_cameThen v1 v2 st16.1 st16.2 u85 (jat o_cameThen ((256 * v1) + (v2 ||| (jshl 1 st16.2))))
  else none
  else
  X12_worstAt_j98 F o_at o_cameThen v1 v2 st16.1 st16.2
  else none
def X12_worstAt (F : Nat) (o_at : Nat → Int32) (o_cameThen : Nat → Int32) (v1 : Int32) (v2 : Int32) : Option (Int32) :=
  if ix ((256 * v1) + v2) 2048 then
  (iter (X12_worstAt_b16 F o_at o_cameThen v1 v2) F ((jat o_cameThen ((256 * v1) + v2)), 0)).bind (fun (e16 : Int32) =>
    some e16)
  else none
abbrev wd_X12_worstAt (E : vE) (a_o a_o_at a_o_names a_o_sort a_o_trayMany a_o_trays a_o_tape a_o_text a_o_opened a_o_farBy a_o_attendsBy a_o_coveredBy a_o_cameBy a_o_cameThen a_o_fallsBy a_o_loops a_o_ran a_o_told1 : Nat) (o_status : Int32) (o_top : Int64) (o_bottom : Int64) (o_taped : Int32) (o_size : Int32) (o_token : Int32) (o_from : Int32) (o_end : Int32) (o_value : Int32) (o_faultKind : Int32) (o_faultPlace : Int32) (o_faults : Int32) (o_seen : Int32) (o_toldParts : Int32) (o_depth : Int32) (o_counted : Int32) (o_becameThen : Int32) (o_firstCorner : Int32) (o_drawn : Int32) (o_ranSteps : Int32) (o_isTold : Int32) (o_marks : Int32) (o_at : Nat → Int32) (o_cameThen : Nat → Int32) : va_W := [(a_o, .inr (12, [.ref a_o_at, .ref a_o_names, .int o_status, .long o_top, .long o_bottom, .ref a_o_sort, .ref a_o_trayMany, .ref a_o_trays, .ref a_o_tape, .ref a_o_text, .int o_taped, .int o_size, .int o_token, .int o_from, .int o_end, .int o_value, .int o_faultKind, .int o_faultPlace, .int o_faults, .int o_seen, .int o_toldParts, .ref a_o_opened, .int o_depth, .int o_counted, .ref a_o_farBy, .int o_becameThen, .ref a_o_attendsBy, .ref a_o_coveredBy, .ref a_o_cameBy, .ref a_o_cameThen, .int o_firstCorner, .ref a_o_fallsBy, .int o_drawn, .int o_ranSteps, .ref a_o_loops, .ref a_o_ran, .ref a_o_told1, .int o_isTold, .int o_marks])), (a_o_at, .inl (E.2.1, 3097, .inl o_at)), (a_o_cameThen, .inl (E.2.1, 2048, .inl o_cameThen))]
set_option maxHeartbeats 4000000 in
set_option maxRecDepth 100000 in
theorem ct_X12_worstAt (l : Launch) (E : vE) (F : Nat) (a_o a_o_at a_o_names a_o_sort a_o_trayMany a_o_trays a_o_tape a_o_text a_o_opened a_o_farBy a_o_attendsBy a_o_coveredBy a_o_cameBy a_o_cameThen a_o_fallsBy a_o_loops a_o_ran a_o_told1 : Nat) (o_status : Int32) (o_top : Int64) (o_bottom : Int64) (o_taped : Int32) (o_size : Int32) (o_token : Int32) (o_from : Int32) (o_end : Int32) (o_value : Int32) (o_faultKind : Int32) (o_faultPlace : Int32) (o_faults : Int32) (o_seen : Int32) (o_toldParts : Int32) (o_depth : Int32) (o_counted : Int32) (o_becameThen : Int32) (o_firstCorner : Int32) (o_drawn : Int32) (o_ranSteps : Int32) (o_isTold : Int32) (o_marks : Int32) (o_at : Nat → Int32) (o_cameThen : Nat → Int32) (v1 : Int32) (v2 : Int32) (u : Int32) (hf : X12_worstAt F o_at o_cameThen v1 v2 = some u) :
    CtI l yX12_worstAt cX12_worstAt 6 (some .int) 3 E [.ref a_o, .int v1, .int v2] (wd_X12_worstAt E a_o a_o_at a_o_names a_o_sort a_o_trayMany a_o_trays a_o_tape a_o_text a_o_opened a_o_farBy a_o_attendsBy a_o_coveredBy a_o_cameBy a_o_cameThen a_o_fallsBy a_o_loops a_o_ran a_o_told1 o_status o_top o_bottom o_taped o_size o_token o_from o_end o_value o_faultKind o_faultPlace o_faults o_seen o_toldParts o_depth o_counted o_becameThen o_firstCorner o_drawn o_ranSteps o_isTold o_marks o_at o_cameThen) (wd_X12_worstAt E a_o a_o_at a_o_names a_o_sort a_o_trayMany a_o_trays a_o_tape a_o_text a_o_opened a_o_farBy a_o_attendsBy a_o_coveredBy a_o_cameBy a_o_cameThen a_o_fallsBy a_o_loops a_o_ran a_o_told1 o_status o_top o_bottom o_taped o_size o_token o_from o_end o_value o_faultKind o_faultPlace o_faults o_seen o_toldParts o_depth o_counted o_becameThen o_firstCorner o_drawn o_ranSteps o_isTold o_marks o_at o_cameThen) u := by
  refine ctI (by decide) (Nat.le_of_ble_eq_true rfl) ?_
  intro p e s m below meth cd A ls aa QQ hq cx hP hD hS hl
  obtain ⟨⟨hx, hb, hml, hown, hts⟩, hr, hlocks, hK, hA, hX⟩ := id cx
  have hl : lv_has ls 6 [(0, .ref a_o), (1, .int v1), (2, .int v2)] := hl
  unfold X12_worstAt at hf
  refine lv_aload_n hx hb dX12_worstAt_0 rfl (lv_at hl 0 rfl) ?_
  refine va_get (D := E.1) (ci := 12) (v := .ref a_o_cameThen) (C := RX12) (T := TX12) (N := 39) hx hb hts inX12 hown hK hP 0 rfl rfl 29 (by decide) (hts _ fl_X12_60) (fun _ h9 => h9) rfl dX12_worstAt_1 ?_
  refine lv_sipush (v := 256) hx hb dX12_worstAt_4 (by decide) ?_
  refine lv_iload_n hx hb dX12_worstAt_7 rfl (lv_at hl 1 rfl) ?_
  refine lv_imul hx hb dX12_worstAt_8 ?_
  refine lv_iload_n hx hb dX12_worstAt_9 rfl (lv_at hl 2 rfl) ?_
  refine lv_iadd hx hb dX12_worstAt_10 ?_
  obtain ⟨hi, hf⟩ := ck hf
  refine r_iald 2 cx hP rfl hi dX12_worstAt_11 ?_
  refine lv_istore_n (lv' := [(3, .int (jat o_cameThen ((256 * v1) + v2))), (0, .ref a_o), (1, .int v1), (2, .int v2)]) hx hb dX12_worstAt_12 rfl hl (by decide) rfl (fun ls hl => ?_)
  refine lv_iconst (v := 0) hx hb dX12_worstAt_13 (by decide) ?_
  refine lv_istore (lv' := [(4, .int 0), (3, .int (jat o_cameThen ((256 * v1) + v2))), (0, .ref a_o), (1, .int v1), (2, .int v2)]) hx hb dX12_worstAt_14 hl (by decide) rfl (fun ls hl => ?_)
  obtain ⟨e16, hit16, hf⟩ := bd hf
  refine iter_W (b := X12_worstAt_b16 F o_at o_cameThen v1 v2) (P := fun st16 => ∀ (H : Heap) (locs : List Loc) (ls : Array Slot), va_P E.1 vwCl (wd_X12_worstAt E a_o a_o_at a_o_names a_o_sort a_o_trayMany a_o_trays a_o_tape a_o_text a_o_opened a_o_farBy a_o_attendsBy a_o_coveredBy a_o_cameBy a_o_cameThen a_o_fallsBy a_o_loops a_o_ran a_o_told1 o_status o_top o_bottom o_taped o_size o_token o_from o_end o_value o_faultKind o_faultPlace o_faults o_seen o_toldParts o_depth o_counted o_becameThen o_firstCorner o_drawn o_ranSteps o_isTold o_marks o_at o_cameThen) H → va_D A (wd_X12_worstAt E a_o a_o_at a_o_names a_o_sort a_o_trayMany a_o_trays a_o_tape a_o_text a_o_opened a_o_farBy a_o_attendsBy a_o_coveredBy a_o_cameBy a_o_cameThen a_o_fallsBy a_o_loops a_o_ran a_o_told1 o_status o_top o_bottom o_taped o_size o_token o_from o_end o_value o_faultKind o_faultPlace o_faults o_seen o_toldParts o_depth o_counted o_becameThen o_firstCorner o_drawn o_ranSteps o_isTold o_marks o_at o_cameThen) → va_S A s.heap H locs → lv_has ls 6 [(0, .ref a_o), (1, .int v1), (2, .int v2), (3, .int st16.1), (4, .int st16.2)] → W p l e (rmd 3) s m aa below meth cd H locs 0 0 QQ (F0 m 16 ls [])) (G := (fun (e16 : Int32) => ∀ (H : Heap) (locs : List Loc) (ls : Array Slot), va_P E.1 vwCl (wd_X12_worstAt E a_o a_o_at a_o_names a_o_sort a_o_trayMany a_o_trays a_o_tape a_o_text a_o_opened a_o_farBy a_o_attendsBy a_o_coveredBy a_o_cameBy a_o_cameThen a_o_fallsBy a_o_loops a_o_ran a_o_told1 o_status o_top o_bottom o_taped o_size o_token o_from o_end o_value o_faultKind o_faultPlace o_faults o_seen o_toldParts o_depth o_counted o_becameThen o_firstCorner o_drawn o_ranSteps o_isTold o_marks o_at o_cameThen) H → va_D A (wd_X12_worstAt E a_o a_o_at a_o_names a_o_sort a_o_trayMany a_o_trays a_o_tape a_o_text a_o_opened a_o_farBy a_o_attendsBy a_o_coveredBy a_o_cameBy a_o_cameThen a_o_fallsBy a_o_loops a_o_ran a_o_told1 o_status o_top o_bottom o_taped o_size o_token o_from o_end o_value o_faultKind o_faultPlace o_faults o_seen o_toldParts o_depth o_counted o_becameThen o_firstCorner o_drawn o_ranSteps o_isTold o_marks o_at o_cameThen) → va_S A s.heap H locs → lv_has ls 6 [(3, .int e16)] → W p l e (rmd 3) s m aa below meth cd H locs 0 0 QQ (F0 m 104 ls []))) ?_ F ((jat o_cameThen ((256 * v1) + v2)), 0) e16 hit16 ?_ _ _ _ hP hD hS (lv_sub hl [2, 3, 4, 1, 0] rfl)
  · intro st16 r16 hf hk16 he16 H locs ls hP hD hS hl
    have hj98 : ∀ (v3_j98 : Int32) (v4_j98 : Int32) (H : Heap) (locs : List Loc) (ls : Array Slot), X12_worstAt_j98 F o_at o_cameThen v1 v2 v3_j98 v4_j98 = some r16 → va_P E.1 vwCl (wd_X12_worstAt E a_o a_o_at a_o_names a_o_sort a_o_trayMany a_o_trays a_o_tape a_o_text a_o_opened a_o_farBy a_o_attendsBy a_o_coveredBy a_o_cameBy a_o_cameThen a_o_fallsBy a_o_loops a_o_ran a_o_told1 o_status o_top o_bottom o_taped o_size o_token o_from o_end o_value o_faultKind o_faultPlace o_faults o_seen o_toldParts o_depth o_counted o_becameThen o_firstCorner o_drawn o_ranSteps o_isTold o_marks o_at o_cameThen) H → va_D A (wd_X12_worstAt E a_o a_o_at a_o_names a_o_sort a_o_trayMany a_o_trays a_o_tape a_o_text a_o_opened a_o_farBy a_o_attendsBy a_o_coveredBy a_o_cameBy a_o_cameThen a_o_fallsBy a_o_loops a_o_ran a_o_told1 o_status o_top o_bottom o_taped o_size o_token o_from o_end o_value o_faultKind o_faultPlace o_faults o_seen o_toldParts o_depth o_counted o_becameThen o_firstCorner o_drawn o_ranSteps o_isTold o_marks o_at o_cameThen) → va_S A s.heap H locs → lv_has ls 6 [(0, .ref a_o), (1, .int v1), (2, .int v2), (3, .int v3_j98), (4, .int v4_j98)] → W p l e (rmd 3) s m aa below meth cd H locs 0 0 QQ (F0 m 98 ls []) := by
      intro v3_j98 v4_j98 H locs ls hf hP hD hS hl
      unfold X12_worstAt_j98 at hf
      refine lv_iinc (v := (v4_j98 + 1)) (lv' := [(4, .int (v4_j98 + 1)), (0, .ref a_o), (1, .int v1), (2, .int v2), (3, .int v3_j98)]) hx hb dX12_worstAt_98 hl (k := 4) rfl rfl (by decide) rfl (fun ls hl => ?_)
      refine lv_goto (tgt := 16) hx hb dX12_worstAt_101 (by decide) ?_
      exact hk16 _ (Option.some.inj hf).symm _ _ _ hP hD hS (lv_sub hl [1, 2, 3, 4, 0] rfl)
    have hj88 : ∀ (v3_j88 : Int32) (v4_j88 : Int32) (k0_j88 : Int32) (k1_j88 : Int32) (H : Heap) (locs : List Loc) (ls : Array Slot), X12_worstAt_j88 F o_at o_cameThen v1 v2 v3_j88 v4_j88 k0_j88 k1_j88 = some r16 → va_P E.1 vwCl (wd_X12_worstAt E a_o a_o_at a_o_names a_o_sort a_o_trayMany a_o_trays a_o_tape a_o_text a_o_opened a_o_farBy a_o_attendsBy a_o_coveredBy a_o_cameBy a_o_cameThen a_o_fallsBy a_o_loops a_o_ran a_o_told1 o_status o_top o_bottom o_taped o_size o_token o_from o_end o_value o_faultKind o_faultPlace o_faults o_seen o_toldParts o_depth o_counted o_becameThen o_firstCorner o_drawn o_ranSteps o_isTold o_marks o_at o_cameThen) H → va_D A (wd_X12_worstAt E a_o a_o_at a_o_names a_o_sort a_o_trayMany a_o_trays a_o_tape a_o_text a_o_opened a_o_farBy a_o_attendsBy a_o_coveredBy a_o_cameBy a_o_cameThen a_o_fallsBy a_o_loops a_o_ran a_o_told1 o_status o_top o_bottom o_taped o_size o_token o_from o_end o_value o_faultKind o_faultPlace o_faults o_seen o_toldParts o_depth o_counted o_becameThen o_firstCorner o_drawn o_ranSteps o_isTold o_marks o_at o_cameThen) → va_S A s.heap H locs → lv_has ls 6 [(0, .ref a_o), (1, .int v1), (2, .int v2), (3, .int v3_j88), (4, .int v4_j88)] → W p l e (rmd 3) s m aa below meth cd H locs 0 0 QQ (F0 m 88 ls [.int k0_j88, .int k1_j88]) := by
      intro v3_j88 v4_j88 k0_j88 k1_j88 H locs ls hf hP hD hS hl
      unfold X12_worstAt_j88 at hf
      refine lv_iadd hx hb dX12_worstAt_88 ?_
      refine lv_istore (lv' := [(5, .int (k1_j88 + k0_j88)), (0, .ref a_o), (1, .int v1), (2, .int v2), (3, .int v3_j88), (4, .int v4_j88)]) hx hb dX12_worstAt_89 hl (by decide) rfl (fun ls hl => ?_)
      refine lv_iload_n hx hb dX12_worstAt_91 rfl (lv_at hl 4 rfl) ?_
      refine lv_iload hx hb dX12_worstAt_92 (lv_at hl 0 rfl) ?_
      refine r_mmax cx hl lk_X12_441 mt_max (Nat.le_of_ble_eq_true rfl) (Nat.le_of_ble_eq_true rfl) dX12_worstAt_94 ?_
      refine lv_istore_n (lv' := [(3, .int (jmax v3_j88 (k1_j88 + k0_j88))), (5, .int (k1_j88 + k0_j88)), (0, .ref a_o), (1, .int v1), (2, .int v2), (4, .int v4_j88)]) hx hb dX12_worstAt_97 rfl hl (by decide) rfl (fun ls hl => ?_)
      exact hj98 _ _ _ _ _ hf hP hD hS (lv_sub hl [2, 3, 4, 0, 5] rfl)
    unfold X12_worstAt_b16 at hf
    refine lv_iload hx hb dX12_worstAt_16 (lv_at hl 4 rfl) ?_
    refine lv_aload_n hx hb dX12_worstAt_18 rfl (lv_at hl 0 rfl) ?_
    refine va_get (D := E.1) (ci := 12) (v := .ref a_o_at) (C := RX12) (T := TX12) (N := 39) hx hb hts inX12 hown hK hP 0 rfl rfl 0 (by decide) (hts _ fl_X12_7) (fun _ h9 => h9) rfl dX12_worstAt_19 ?_
    refine lv_iconst (v := 3) hx hb dX12_worstAt_22 (by decide) ?_
    obtain ⟨hi, hf⟩ := ck hf
    refine r_iald 1 cx hP rfl hi dX12_worstAt_23 ?_
    refine lv_icmp_ge (tgt := 104) hx hb dX12_worstAt_24 (by decide) (fun hc => ?_) (fun hc => ?_)
    · have hf := it_t hc hf
      exact he16 _ (Option.some.inj hf).symm _ _ _ hP hD hS (lv_sub hl [3] rfl)
    · have hf := it_f hc hf
      refine lv_aload_n hx hb dX12_worstAt_27 rfl (lv_at hl 0 rfl) ?_
      refine lv_iload_n hx hb dX12_worstAt_28 rfl (lv_at hl 2 rfl) ?_
      refine lv_iload hx hb dX12_worstAt_29 (lv_at hl 4 rfl) ?_
      obtain ⟨u31, hu31, hf⟩ := bd hf
      refine keepVI (ct_X12_isIn l E a_o a_o_at a_o_names a_o_sort a_o_trayMany a_o_trays a_o_tape a_o_text a_o_opened a_o_farBy a_o_attendsBy a_o_coveredBy a_o_cameBy a_o_cameThen a_o_fallsBy a_o_loops a_o_ran a_o_told1 o_status o_top o_bottom o_taped o_size o_token o_from o_end o_value o_faultKind o_faultPlace o_faults o_seen o_toldParts o_depth o_counted o_becameThen o_firstCorner o_drawn o_ranSteps o_isTold o_marks v2 st16.2 u31 hu31) [0] cal_X12_isIn cav_X12_isIn lk_X12_327 cx hP hD hS hl dX12_worstAt_31 rfl rfl rfl rfl (Nat.le_of_ble_eq_true rfl) ⟨Nat.le_of_ble_eq_true rfl, Nat.le_of_ble_eq_true rfl⟩ rfl (by decide) (fun H locs hP hS => ?_)
      refine lv_if_ne (tgt := 98) hx hb dX12_worstAt_34 (by decide) (fun hc => ?_) (fun hc => ?_)
      · have hf := it_f hc hf
        exact hj98 _ _ _ _ _ hf hP hD hS (lv_sub hl [0, 1, 2, 3, 4] rfl)
      · have hf := it_t hc hf
        refine lv_aload_n hx hb dX12_worstAt_37 rfl (lv_at hl 0 rfl) ?_
        refine lv_iload hx hb dX12_worstAt_38 (lv_at hl 4 rfl) ?_
        obtain ⟨u40, hu40, hf⟩ := bd hf
        refine keepVI (ct_X12_isToCome l E a_o a_o_at a_o_names a_o_sort a_o_trayMany a_o_trays a_o_tape a_o_text a_o_opened a_o_farBy a_o_attendsBy a_o_coveredBy a_o_cameBy a_o_cameThen a_o_fallsBy a_o_loops a_o_ran a_o_told1 o_status o_top o_bottom o_taped o_size o_token o_from o_end o_value o_faultKind o_faultPlace o_faults o_seen o_toldParts o_depth o_counted o_becameThen o_firstCorner o_drawn o_ranSteps o_isTold o_marks o_at st16.2 u40 hu40) [0, 1] cal_X12_isToCome cav_X12_isToCome lk_X12_333 cx hP hD hS hl dX12_worstAt_40 rfl rfl rfl rfl (Nat.le_of_ble_eq_true rfl) ⟨Nat.le_of_ble_eq_true rfl, Nat.le_of_ble_eq_true rfl⟩ rfl (by decide) (fun H locs hP hS => ?_)
        refine lv_if_ne (tgt := 49) hx hb dX12_worstAt_43 (by decide) (fun hc => ?_) (fun hc => ?_)
        · have hf := it_f hc hf
          refine lv_aload_n hx hb dX12_worstAt_49 rfl (lv_at hl 0 rfl) ?_
          refine va_get (D := E.1) (ci := 12) (v := .ref a_o_cameThen) (C := RX12) (T := TX12) (N := 39) hx hb hts inX12 hown hK hP 0 rfl rfl 29 (by decide) (hts _ fl_X12_60) (fun _ h9 => h9) rfl dX12_worstAt_50 ?_
          refine lv_sipush (v := 256) hx hb dX12_worstAt_53 (by decide) ?_
          refine lv_iload_n hx hb dX12_worstAt_56 rfl (lv_at hl 1 rfl) ?_
          refine lv_imul hx hb dX12_worstAt_57 ?_
          refine lv_iload_n hx hb dX12_worstAt_58 rfl (lv_at hl 2 rfl) ?_
          refine lv_iconst (v := 1) hx hb dX12_worstAt_59 (by decide) ?_
          refine lv_iload hx hb dX12_worstAt_60 (lv_at hl 4 rfl) ?_
          refine r_ishl hx hb dX12_worstAt_62 ?_
          refine lv_ior hx hb dX12_worstAt_63 ?_
          refine lv_iadd hx hb dX12_worstAt_64 ?_
          obtain ⟨hi, hf⟩ := ck hf
          refine r_iald 2 cx hP rfl hi dX12_worstAt_65 ?_
          refine lv_aload_n hx hb dX12_worstAt_66 rfl (lv_at hl 0 rfl) ?_
          refine lv_iload hx hb dX12_worstAt_67 (lv_at hl 4 rfl) ?_
          refine lv_iconst (v := 0) hx hb dX12_worstAt_69 (by decide) ?_
          obtain ⟨u70, hu70, hf⟩ := bd hf
          refine keepVI (ct_X12_happeningOf l E a_o a_o_at a_o_names a_o_sort a_o_trayMany a_o_trays a_o_tape a_o_text a_o_opened a_o_farBy a_o_attendsBy a_o_coveredBy a_o_cameBy a_o_cameThen a_o_fallsBy a_o_loops a_o_ran a_o_told1 o_status o_top o_bottom o_taped o_size o_token o_from o_end o_value o_faultKind o_faultPlace o_faults o_seen o_toldParts o_depth o_counted o_becameThen o_firstCorner o_drawn o_ranSteps o_isTold o_marks o_at st16.2 (0 : Int32) u70 hu70) [0, 1] cal_X12_happeningOf cav_X12_happeningOf lk_X12_278 cx hP hD hS hl dX12_worstAt_70 rfl rfl rfl rfl (Nat.le_of_ble_eq_true rfl) ⟨Nat.le_of_ble_eq_true rfl, Nat.le_of_ble_eq_true rfl⟩ rfl (by decide) (fun H locs hP hS => ?_)
          refine lv_iload_n hx hb dX12_worstAt_73 rfl (lv_at hl 1 rfl) ?_
          refine lv_icmp_ne (tgt := 81) hx hb dX12_worstAt_74 (by decide) (fun hc => ?_) (fun hc => ?_)
          · have hf := it_f hc hf
            refine lv_aload_n hx hb dX12_worstAt_81 rfl (lv_at hl 0 rfl) ?_
            refine lv_iload hx hb dX12_worstAt_82 (lv_at hl 4 rfl) ?_
            refine lv_iconst (v := 2) hx hb dX12_worstAt_84 (by decide) ?_
            obtain ⟨u85, hu85, hf⟩ := bd hf
            refine keepVI (ct_X12_happeningOf l E a_o a_o_at a_o_names a_o_sort a_o_trayMany a_o_trays a_o_tape a_o_text a_o_opened a_o_farBy a_o_attendsBy a_o_coveredBy a_o_cameBy a_o_cameThen a_o_fallsBy a_o_loops a_o_ran a_o_told1 o_status o_top o_bottom o_taped o_size o_token o_from o_end o_value o_faultKind o_faultPlace o_faults o_seen o_toldParts o_depth o_counted o_becameThen o_firstCorner o_drawn o_ranSteps o_isTold o_marks o_at st16.2 (2 : Int32) u85 hu85) [0, 1] cal_X12_happeningOf cav_X12_happeningOf lk_X12_278 cx hP hD hS hl dX12_worstAt_85 rfl rfl rfl rfl (Nat.le_of_ble_eq_true rfl) ⟨Nat.le_of_ble_eq_true rfl, Nat.le_of_ble_eq_true rfl⟩ rfl (by decide) (fun H locs hP hS => ?_)
            exact hj88 _ _ _ _ _ _ _ hf hP hD hS (lv_sub hl [0, 1, 2, 3, 4] rfl)
          · have hf := it_t hc hf
            refine lv_iconst (v := 0) hx hb dX12_worstAt_77 (by decide) ?_
            refine lv_goto (tgt := 88) hx hb dX12_worstAt_78 (by decide) ?_
            exact hj88 _ _ _ _ _ _ _ hf hP hD hS (lv_sub hl [0, 1, 2, 3, 4] rfl)
        · have hf := it_t hc hf
          refine lv_goto (tgt := 98) hx hb dX12_worstAt_46 (by decide) ?_
          exact hj98 _ _ _ _ _ hf hP hD hS (lv_sub hl [0, 1, 2, 3, 4] rfl)
  · refine fun H locs ls hP hD hS hl => ?_
    refine lv_iload_n hx hb dX12_worstAt_104 rfl (lv_at hl 0 rfl) ?_
    obtain rfl := Option.some.inj hf
    subst hq
    exact retI cx hP hD hS dX12_worstAt_105
def X12_leastFrom_j67 (F : Nat) (o_firstCorner : Int32) (o_at : Nat → Int32) (o_cameThen : Nat → Int32) (v1 : Int32) (v2 : Int32) (v3 : Int32) (v4 : Int32) : Option ((Int32 × Int32 × Int32) ⊕ ((Int32 × Int32))) :=
  some (.inl (v3, (v4 + 1), o_firstCorner))
def X12_leastFrom_j40 (F : Nat) (o_firstCorner : Int32) (o_at : Nat → Int32) (o_cameThen : Nat → Int32) (v1 : Int32) (v2 : Int32) (v3 : Int32) (v4 : Int32) : Option ((Int32 × Int32 × Int32) ⊕ ((Int32 × Int32))) :=
  (X12_worstAt F o_at o_cameThen v4 v2).bind fun u44 =>
  if u44 < v3 then
  X12_leastFrom_j67 F v4 o_at o_cameThen v1 v2 u44 v4
  else
  X12_leastFrom_j67 F o_firstCorner o_at o_cameThen v1 v2 v3 v4
def X12_leastFrom_b7 (F : Nat) (o_at : Nat → Int32) (o_cameThen : Nat → Int32) (v1 : Int32) (v2 : Int32) (st7 : Int32 × Int32 × Int32) : Option ((Int32 × Int32 × Int32) ⊕ ((Int32 × Int32))) :=
  if ix 0 3097 then
  if (jat o_at 0) ≤ st7.2.1 then
  some (.inr (st7.1, st7.2.2))
  else
  if st7.2.1 = v1 then
  X12_leastFrom_j40 F st7.2.2 o_at o_cameThen v1 v2 st7.1 st7.2.1
  else
  (X12_roadOf F o_at v1 st7.2.1).bind fun u28 =>
  if u28 < 1000000 then
  X12_leastFrom_j40 F st7.2.2 o_at o_cameThen v1 v2 st7.1 st7.2.1
  else
  X12_leastFrom_j67 F st7.2.2 o_at o_cameThen v1 v2 st7.1 st7.2.1
  else none
def X12_leastFrom (F : Nat) (o_firstCorner : Int32) (o_at : Nat → Int32) (o_cameThen : Nat → Int32) (v1 : Int32) (v2 : Int32) : Option (Int32 × Int32) :=
  (iter (X12_leastFrom_b7 F o_at o_cameThen v1 v2) F (1000000, 0, o_firstCorner)).bind (fun (e7 : Int32 × Int32) =>
    some (e7.1, e7.2))
abbrev wd_X12_leastFrom (E : vE) (a_o a_o_at a_o_names a_o_sort a_o_trayMany a_o_trays a_o_tape a_o_text a_o_opened a_o_farBy a_o_attendsBy a_o_coveredBy a_o_cameBy a_o_cameThen a_o_fallsBy a_o_loops a_o_ran a_o_told1 : Nat) (o_status : Int32) (o_top : Int64) (o_bottom : Int64) (o_taped : Int32) (o_size : Int32) (o_token : Int32) (o_from : Int32) (o_end : Int32) (o_value : Int32) (o_faultKind : Int32) (o_faultPlace : Int32) (o_faults : Int32) (o_seen : Int32) (o_toldParts : Int32) (o_depth : Int32) (o_counted : Int32) (o_becameThen : Int32) (o_firstCorner : Int32) (o_drawn : Int32) (o_ranSteps : Int32) (o_isTold : Int32) (o_marks : Int32) (o_at : Nat → Int32) (o_cameThen : Nat → Int32) : va_W := [(a_o, .inr (12, [.ref a_o_at, .ref a_o_names, .int o_status, .long o_top, .long o_bottom, .ref a_o_sort, .ref a_o_trayMany, .ref a_o_trays, .ref a_o_tape, .ref a_o_text, .int o_taped, .int o_size, .int o_token, .int o_from, .int o_end, .int o_value, .int o_faultKind, .int o_faultPlace, .int o_faults, .int o_seen, .int o_toldParts, .ref a_o_opened, .int o_depth, .int o_counted, .ref a_o_farBy, .int o_becameThen, .ref a_o_attendsBy, .ref a_o_coveredBy, .ref a_o_cameBy, .ref a_o_cameThen, .int o_firstCorner, .ref a_o_fallsBy, .int o_drawn, .int o_ranSteps, .ref a_o_loops, .ref a_o_ran, .ref a_o_told1, .int o_isTold, .int o_marks])), (a_o_at, .inl (E.2.1, 3097, .inl o_at)), (a_o_cameThen, .inl (E.2.1, 2048, .inl o_cameThen))]
set_option maxHeartbeats 4000000 in
set_option maxRecDepth 100000 in
theorem ct_X12_leastFrom (l : Launch) (E : vE) (F : Nat) (a_o a_o_at a_o_names a_o_sort a_o_trayMany a_o_trays a_o_tape a_o_text a_o_opened a_o_farBy a_o_attendsBy a_o_coveredBy a_o_cameBy a_o_cameThen a_o_fallsBy a_o_loops a_o_ran a_o_told1 : Nat) (o_status : Int32) (o_top : Int64) (o_bottom : Int64) (o_taped : Int32) (o_size : Int32) (o_token : Int32) (o_from : Int32) (o_end : Int32) (o_value : Int32) (o_faultKind : Int32) (o_faultPlace : Int32) (o_faults : Int32) (o_seen : Int32) (o_toldParts : Int32) (o_depth : Int32) (o_counted : Int32) (o_becameThen : Int32) (o_firstCorner : Int32) (o_drawn : Int32) (o_ranSteps : Int32) (o_isTold : Int32) (o_marks : Int32) (o_at : Nat → Int32) (o_cameThen : Nat → Int32) (v1 : Int32) (v2 : Int32) (u : Int32 × Int32) (hf : X12_leastFrom F o_firstCorner o_at o_cameThen v1 v2 = some u) :
    CtI l yX12_leastFrom cX12_leastFrom 6 (some .int) 4 E [.ref a_o, .int v1, .int v2] (wd_X12_leastFrom E a_o a_o_at a_o_names a_o_sort a_o_trayMany a_o_trays a_o_tape a_o_text a_o_opened a_o_farBy a_o_attendsBy a_o_coveredBy a_o_cameBy a_o_cameThen a_o_fallsBy a_o_loops a_o_ran a_o_told1 o_status o_top o_bottom o_taped o_size o_token o_from o_end o_value o_faultKind o_faultPlace o_faults o_seen o_toldParts o_depth o_counted o_becameThen o_firstCorner o_drawn o_ranSteps o_isTold o_marks o_at o_cameThen) (wd_X12_leastFrom E a_o a_o_at a_o_names a_o_sort a_o_trayMany a_o_trays a_o_tape a_o_text a_o_opened a_o_farBy a_o_attendsBy a_o_coveredBy a_o_cameBy a_o_cameThen a_o_fallsBy a_o_loops a_o_ran a_o_told1 o_status o_top o_bottom o_taped o_size o_token o_from o_end o_value o_faultKind o_faultPlace o_faults o_seen o_toldParts o_depth o_counted o_becameThen u.2 o_drawn o_ranSteps o_isTold o_marks o_at o_cameThen) u.1 := by
  refine ctI (by decide) (Nat.le_of_ble_eq_true rfl) ?_
  intro p e s m below meth cd A ls aa QQ hq cx hP hD hS hl
  obtain ⟨⟨hx, hb, hml, hown, hts⟩, hr, hlocks, hK, hA, hX⟩ := id cx
  have hl : lv_has ls 6 [(0, .ref a_o), (1, .int v1), (2, .int v2)] := hl
  unfold X12_leastFrom at hf
  refine lv_ldcw (v := 1000000) hx hb hown (hts _ ki_X12_314) dX12_leastFrom_0 ?_
  refine lv_istore_n (lv' := [(3, .int 1000000), (0, .ref a_o), (1, .int v1), (2, .int v2)]) hx hb dX12_leastFrom_3 rfl hl (by decide) rfl (fun ls hl => ?_)
  refine lv_iconst (v := 0) hx hb dX12_leastFrom_4 (by decide) ?_
  refine lv_istore (lv' := [(4, .int 0), (3, .int 1000000), (0, .ref a_o), (1, .int v1), (2, .int v2)]) hx hb dX12_leastFrom_5 hl (by decide) rfl (fun ls hl => ?_)
  obtain ⟨e7, hit7, hf⟩ := bd hf
  refine iter_W (b := X12_leastFrom_b7 F o_at o_cameThen v1 v2) (P := fun st7 => ∀ (H : Heap) (locs : List Loc) (ls : Array Slot), va_P E.1 vwCl (wd_X12_leastFrom E a_o a_o_at a_o_names a_o_sort a_o_trayMany a_o_trays a_o_tape a_o_text a_o_opened a_o_farBy a_o_attendsBy a_o_coveredBy a_o_cameBy a_o_cameThen a_o_fallsBy a_o_loops a_o_ran a_o_told1 o_status o_top o_bottom o_taped o_size o_token o_from o_end o_value o_faultKind o_faultPlace o_faults o_seen o_toldParts o_depth o_counted o_becameThen st7.2.2 o_drawn o_ranSteps o_isTold o_marks o_at o_cameThen) H → va_D A (wd_X12_leastFrom E a_o a_o_at a_o_names a_o_sort a_o_trayMany a_o_trays a_o_tape a_o_text a_o_opened a_o_farBy a_o_attendsBy a_o_coveredBy a_o_cameBy a_o_cameThen a_o_fallsBy a_o_loops a_o_ran a_o_told1 o_status o_top o_bottom o_taped o_size o_token o_from o_end o_value o_faultKind o_faultPlace o_faults o_seen o_toldParts o_depth o_counted o_becameThen st7.2.2 o_drawn o_ranSteps o_isTold o_marks o_at o_cameThen) → va_S A s.heap H locs → lv_has ls 6 [(0, .ref a_o), (1, .int v1), (2, .int v2), (3, .int st7.1), (4, .int st7.2.1)] → W p l e (rmd 4) s m aa below meth cd H locs 0 0 QQ (F0 m 7 ls [])) (G := (fun (e7 : Int32 × Int32) => ∀ (H : Heap) (locs : List Loc) (ls : Array Slot), va_P E.1 vwCl (wd_X12_leastFrom E a_o a_o_at a_o_names a_o_sort a_o_trayMany a_o_trays a_o_tape a_o_text a_o_opened a_o_farBy a_o_attendsBy a_o_coveredBy a_o_cameBy a_o_cameThen a_o_fallsBy a_o_loops a_o_ran a_o_told1 o_status o_top o_bottom o_taped o_size o_token o_from o_end o_value o_faultKind o_faultPlace o_faults o_seen o_toldParts o_depth o_counted o_becameThen e7.2 o_drawn o_ranSteps o_isTold o_marks o_at o_cameThen) H → va_D A (wd_X12_leastFrom E a_o a_o_at a_o_names a_o_sort a_o_trayMany a_o_trays a_o_tape a_o_text a_o_opened a_o_farBy a_o_attendsBy a_o_coveredBy a_o_cameBy a_o_cameThen a_o_fallsBy a_o_loops a_o_ran a_o_told1 o_status o_top o_bottom o_taped o_size o_token o_from o_end o_value o_faultKind o_faultPlace o_faults o_seen o_toldParts o_depth o_counted o_becameThen e7.2 o_drawn o_ranSteps o_isTold o_marks o_at o_cameThen) → va_S A s.heap H locs → lv_has ls 6 [(3, .int e7.1)] → W p l e (rmd 4) s m aa below meth cd H locs 0 0 QQ (F0 m 73 ls []))) ?_ F (1000000, 0, o_firstCorner) e7 hit7 ?_ _ _ _ hP hD hS (lv_sub hl [2, 3, 4, 1, 0] rfl)
  · intro st7 r7 hf hk7 he7 H locs ls hP hD hS hl
    have hj67 : ∀ (v3_j67 : Int32) (v4_j67 : Int32) (o_firstCorner_j67 : Int32) (H : Heap) (locs : List Loc) (ls : Array Slot), X12_leastFrom_j67 F o_firstCorner_j67 o_at o_cameThen v1 v2 v3_j67 v4_j67 = some r7 → va_P E.1 vwCl (wd_X12_leastFrom E a_o a_o_at a_o_names a_o_sort a_o_trayMany a_o_trays a_o_tape a_o_text a_o_opened a_o_farBy a_o_attendsBy a_o_coveredBy a_o_cameBy a_o_cameThen a_o_fallsBy a_o_loops a_o_ran a_o_told1 o_status o_top o_bottom o_taped o_size o_token o_from o_end o_value o_faultKind o_faultPlace o_faults o_seen o_toldParts o_depth o_counted o_becameThen o_firstCorner_j67 o_drawn o_ranSteps o_isTold o_marks o_at o_cameThen) H → va_D A (wd_X12_leastFrom E a_o a_o_at a_o_names a_o_sort a_o_trayMany a_o_trays a_o_tape a_o_text a_o_opened a_o_farBy a_o_attendsBy a_o_coveredBy a_o_cameBy a_o_cameThen a_o_fallsBy a_o_loops a_o_ran a_o_told1 o_status o_top o_bottom o_taped o_size o_token o_from o_end o_value o_faultKind o_faultPlace o_faults o_seen o_toldParts o_depth o_counted o_becameThen o_firstCorner_j67 o_drawn o_ranSteps o_isTold o_marks o_at o_cameThen) → va_S A s.heap H locs → lv_has ls 6 [(0, .ref a_o), (1, .int v1), (2, .int v2), (3, .int v3_j67), (4, .int v4_j67)] → W p l e (rmd 4) s m aa below meth cd H locs 0 0 QQ (F0 m 67 ls []) := by
      intro v3_j67 v4_j67 o_firstCorner_j67 H locs ls hf hP hD hS hl
      unfold X12_leastFrom_j67 at hf
      refine lv_iinc (v := (v4_j67 + 1)) (lv' := [(4, .int (v4_j67 + 1)), (0, .ref a_o), (1, .int v1), (2, .int v2), (3, .int v3_j67)]) hx hb dX12_leastFrom_67 hl (k := 4) rfl rfl (by decide) rfl (fun ls hl => ?_)
      refine lv_goto (tgt := 7) hx hb dX12_leastFrom_70 (by decide) ?_
      exact hk7 _ (Option.some.inj hf).symm _ _ _ hP hD hS (lv_sub hl [1, 2, 3, 4, 0] rfl)
    have hj40 : ∀ (v3_j40 : Int32) (v4_j40 : Int32) (o_firstCorner_j40 : Int32) (H : Heap) (locs : List Loc) (ls : Array Slot), X12_leastFrom_j40 F o_firstCorner_j40 o_at o_cameThen v1 v2 v3_j40 v4_j40 = some r7 → va_P E.1 vwCl (wd_X12_leastFrom E a_o a_o_at a_o_names a_o_sort a_o_trayMany a_o_trays a_o_tape a_o_text a_o_opened a_o_farBy a_o_attendsBy a_o_coveredBy a_o_cameBy a_o_cameThen a_o_fallsBy a_o_loops a_o_ran a_o_told1 o_status o_top o_bottom o_taped o_size o_token o_from o_end o_value o_faultKind o_faultPlace o_faults o_seen o_toldParts o_depth o_counted o_becameThen o_firstCorner_j40 o_drawn o_ranSteps o_isTold o_marks o_at o_cameThen) H → va_D A (wd_X12_leastFrom E a_o a_o_at a_o_names a_o_sort a_o_trayMany a_o_trays a_o_tape a_o_text a_o_opened a_o_farBy a_o_attendsBy a_o_coveredBy a_o_cameBy a_o_cameThen a_o_fallsBy a_o_loops a_o_ran a_o_told1 o_status o_top o_bottom o_taped o_size o_token o_from o_end o_value o_faultKind o_faultPlace o_faults o_seen o_toldParts o_depth o_counted o_becameThen o_firstCorner_j40 o_drawn o_ranSteps o_isTold o_marks o_at o_cameThen) → va_S A s.heap H locs → lv_has ls 6 [(0, .ref a_o), (1, .int v1), (2, .int v2), (3, .int v3_j40), (4, .int v4_j40)] → W p l e (rmd 4) s m aa below meth cd H locs 0 0 QQ (F0 m 40 ls []) := by
      intro v3_j40 v4_j40 o_firstCorner_j40 H locs ls hf hP hD hS hl
      unfold X12_leastFrom_j40 at hf
      refine lv_aload_n hx hb dX12_leastFrom_40 rfl (lv_at hl 0 rfl) ?_
      refine lv_iload hx hb dX12_leastFrom_41 (lv_at hl 4 rfl) ?_
      refine lv_iload_n hx hb dX12_leastFrom_43 rfl (lv_at hl 2 rfl) ?_
      obtain ⟨u44, hu44, hf⟩ := bd hf
      refine keepVI (ct_X12_worstAt l E F a_o a_o_at a_o_names a_o_sort a_o_trayMany a_o_trays a_o_tape a_o_text a_o_opened a_o_farBy a_o_attendsBy a_o_coveredBy a_o_cameBy a_o_cameThen a_o_fallsBy a_o_loops a_o_ran a_o_told1 o_status o_top o_bottom o_taped o_size o_token o_from o_end o_value o_faultKind o_faultPlace o_faults o_seen o_toldParts o_depth o_counted o_becameThen o_firstCorner_j40 o_drawn o_ranSteps o_isTold o_marks o_at o_cameThen v4_j40 v2 u44 hu44) [0, 1, 2] cal_X12_worstAt cav_X12_worstAt lk_X12_450 cx hP hD hS hl dX12_leastFrom_44 rfl rfl rfl rfl (Nat.le_of_ble_eq_true rfl) ⟨Nat.le_of_ble_eq_true rfl, Nat.le_of_ble_eq_true rfl⟩ rfl (by decide) (fun H locs hP hS => ?_)
      refine lv_istore (lv' := [(5, .int u44), (0, .ref a_o), (1, .int v1), (2, .int v2), (3, .int v3_j40), (4, .int v4_j40)]) hx hb dX12_leastFrom_47 hl (by decide) rfl (fun ls hl => ?_)
      refine lv_iload hx hb dX12_leastFrom_49 (lv_at hl 0 rfl) ?_
      refine lv_iload_n hx hb dX12_leastFrom_51 rfl (lv_at hl 4 rfl) ?_
      refine lv_icmp_lt (tgt := 58) hx hb dX12_leastFrom_52 (by decide) (fun hc => ?_) (fun hc => ?_)
      · have hf := it_t hc hf
        refine lv_iload hx hb dX12_leastFrom_58 (lv_at hl 0 rfl) ?_
        refine lv_istore_n (lv' := [(3, .int u44), (5, .int u44), (0, .ref a_o), (1, .int v1), (2, .int v2), (4, .int v4_j40)]) hx hb dX12_leastFrom_60 rfl hl (by decide) rfl (fun ls hl => ?_)
        refine lv_aload_n hx hb dX12_leastFrom_61 rfl (lv_at hl 2 rfl) ?_
        refine lv_iload hx hb dX12_leastFrom_62 (lv_at hl 5 rfl) ?_
        refine va_put (D := E.1) (ci := 12) (v := .int v4_j40) (ty := .int) (C := RX12) (T := TX12) (N := 39) hx hb hts inX12 tyX12 tyX12_ok nmX12 hown hK hP hD hS 0 rfl rfl 30 (by decide) (hts _ fl_X12_453) (fun _ h9 => h9) rfl (by decide +kernel) rfl rfl (Nat.le_of_ble_eq_true rfl) dX12_leastFrom_64 (fun H locs hP hD hS => ?_)
        have hP : va_P E.1 vwCl (wd_X12_leastFrom E a_o a_o_at a_o_names a_o_sort a_o_trayMany a_o_trays a_o_tape a_o_text a_o_opened a_o_farBy a_o_attendsBy a_o_coveredBy a_o_cameBy a_o_cameThen a_o_fallsBy a_o_loops a_o_ran a_o_told1 o_status o_top o_bottom o_taped o_size o_token o_from o_end o_value o_faultKind o_faultPlace o_faults o_seen o_toldParts o_depth o_counted o_becameThen v4_j40 o_drawn o_ranSteps o_isTold o_marks o_at o_cameThen) H := hP
        have hD : va_D A (wd_X12_leastFrom E a_o a_o_at a_o_names a_o_sort a_o_trayMany a_o_trays a_o_tape a_o_text a_o_opened a_o_farBy a_o_attendsBy a_o_coveredBy a_o_cameBy a_o_cameThen a_o_fallsBy a_o_loops a_o_ran a_o_told1 o_status o_top o_bottom o_taped o_size o_token o_from o_end o_value o_faultKind o_faultPlace o_faults o_seen o_toldParts o_depth o_counted o_becameThen v4_j40 o_drawn o_ranSteps o_isTold o_marks o_at o_cameThen) := hD
        exact hj67 _ _ _ _ _ _ hf hP hD hS (lv_sub hl [2, 3, 4, 0, 5] rfl)
      · have hf := it_f hc hf
        refine lv_goto (tgt := 67) hx hb dX12_leastFrom_55 (by decide) ?_
        exact hj67 _ _ _ _ _ _ hf hP hD hS (lv_sub hl [1, 2, 3, 4, 5] rfl)
    unfold X12_leastFrom_b7 at hf
    refine lv_iload hx hb dX12_leastFrom_7 (lv_at hl 4 rfl) ?_
    refine lv_aload_n hx hb dX12_leastFrom_9 rfl (lv_at hl 0 rfl) ?_
    refine va_get (D := E.1) (ci := 12) (v := .ref a_o_at) (C := RX12) (T := TX12) (N := 39) hx hb hts inX12 hown hK hP 0 rfl rfl 0 (by decide) (hts _ fl_X12_7) (fun _ h9 => h9) rfl dX12_leastFrom_10 ?_
    refine lv_iconst (v := 0) hx hb dX12_leastFrom_13 (by decide) ?_
    obtain ⟨hi, hf⟩ := ck hf
    refine r_iald 1 cx hP rfl hi dX12_leastFrom_14 ?_
    refine lv_icmp_ge (tgt := 73) hx hb dX12_leastFrom_15 (by decide) (fun hc => ?_) (fun hc => ?_)
    · have hf := it_t hc hf
      exact he7 _ (Option.some.inj hf).symm _ _ _ hP hD hS (lv_sub hl [3] rfl)
    · have hf := it_f hc hf
      refine lv_iload hx hb dX12_leastFrom_18 (lv_at hl 4 rfl) ?_
      refine lv_iload_n hx hb dX12_leastFrom_20 rfl (lv_at hl 1 rfl) ?_
      refine lv_icmp_eq (tgt := 40) hx hb dX12_leastFrom_21 (by decide) (fun hc => ?_) (fun hc => ?_)
      · have hf := it_t hc hf
        exact hj40 _ _ _ _ _ _ hf hP hD hS (lv_sub hl [0, 1, 2, 3, 4] rfl)
      · have hf := it_f hc hf
        refine lv_aload_n hx hb dX12_leastFrom_24 rfl (lv_at hl 0 rfl) ?_
        refine lv_iload_n hx hb dX12_leastFrom_25 rfl (lv_at hl 1 rfl) ?_
        refine lv_iload hx hb dX12_leastFrom_26 (lv_at hl 4 rfl) ?_
        obtain ⟨u28, hu28, hf⟩ := bd hf
        refine keepVI (ct_X12_roadOf l E F a_o a_o_at a_o_names a_o_sort a_o_trayMany a_o_trays a_o_tape a_o_text a_o_opened a_o_farBy a_o_attendsBy a_o_coveredBy a_o_cameBy a_o_cameThen a_o_fallsBy a_o_loops a_o_ran a_o_told1 o_status o_top o_bottom o_taped o_size o_token o_from o_end o_value o_faultKind o_faultPlace o_faults o_seen o_toldParts o_depth o_counted o_becameThen st7.2.2 o_drawn o_ranSteps o_isTold o_marks o_at v1 st7.2.1 u28 hu28) [0, 1] cal_X12_roadOf cav_X12_roadOf lk_X12_315 cx hP hD hS hl dX12_leastFrom_28 rfl rfl rfl rfl (Nat.le_of_ble_eq_true rfl) ⟨Nat.le_of_ble_eq_true rfl, Nat.le_of_ble_eq_true rfl⟩ rfl (by decide) (fun H locs hP hS => ?_)
        refine lv_ldcw (v := 1000000) hx hb hown (hts _ ki_X12_314) dX12_leastFrom_31 ?_
        refine lv_icmp_lt (tgt := 40) hx hb dX12_leastFrom_34 (by decide) (fun hc => ?_) (fun hc => ?_)
        · have hf := it_t hc hf
          exact hj40 _ _ _ _ _ _ hf hP hD hS (lv_sub hl [0, 1, 2, 3, 4] rfl)
        · have hf := it_f hc hf
          refine lv_goto (tgt := 67) hx hb dX12_leastFrom_37 (by decide) ?_
          exact hj67 _ _ _ _ _ _ hf hP hD hS (lv_sub hl [0, 1, 2, 3, 4] rfl)
  · refine fun H locs ls hP hD hS hl => ?_
    refine lv_iload_n hx hb dX12_leastFrom_73 rfl (lv_at hl 0 rfl) ?_
    obtain rfl := Option.some.inj hf
    subst hq
    exact retI cx hP hD hS dX12_leastFrom_74
def X12_playing_b2 (F : Nat) (o_firstCorner : Int32) (o_at : Nat → Int32) (o_cameBy : Nat → Int32) (v1 : Int32) (v2 : Int32) (st2 : Int32 × (Nat → Int32)) : Option ((Int32 × (Nat → Int32)) ⊕ (((Nat → Int32)))) :=
  if (2048 : Int32) ≤ st2.1 then
  some (.inr st2.2)
  else
  if ix st2.1 2048 then
  some (.inl ((st2.1 + 1), (jput st2.2 st2.1 0)))
  else none
def X12_playing_b46 (F : Nat) (o_at : Nat → Int32) (o_cameThen : Nat → Int32) (v1 : Int32) (v2 : Int32) (v3 : Int32) (v4 : Int32) (st46 : Int32 × Int32 × (Nat → Int32)) : Option ((Int32 × Int32 × (Nat → Int32)) ⊕ ((Int32 × (Nat → Int32)))) :=
  if ix 3 3097 then
  if (jshl 1 (jat o_at 3)) ≤ st46.1 then
  some (.inr (st46.2.1, st46.2.2))
  else
  (X12_leastFrom F st46.2.1 o_at o_cameThen v4 st46.1).bind fun u77 =>
  if ix ((256 * v4) + st46.1) 2048 then
  some (.inl ((st46.1 + 1), u77.2, (jput st46.2.2 ((256 * v4) + st46.1) u77.1)))
  else none
  else none
def X12_playing_b32 (F : Nat) (o_at : Nat → Int32) (o_cameThen : Nat → Int32) (v1 : Int32) (v2 : Int32) (v3 : Int32) (st32 : Int32 × Int32 × (Nat → Int32)) : Option ((Int32 × Int32 × (Nat → Int32)) ⊕ ((Int32 × (Nat → Int32)))) :=
  if ix 0 3097 then
  if (jat o_at 0) ≤ st32.1 then
  some (.inr (st32.2.1, st32.2.2))
  else
  (iter (X12_playing_b46 F o_at o_cameThen v1 v2 v3 st32.1) F (0, st32.2.1, st32.2.2)).bind (fun (e46 : Int32 × (Nat → Int32)) =>
    some (.inl ((st32.1 + 1), e46.1, e46.2)))
  else none
def X12_playing_b96 (F : Nat) (o_firstCorner : Int32) (o_at : Nat → Int32) (o_cameBy : Nat → Int32) (v1 : Int32) (v2 : Int32) (v3 : Int32) (st96 : Int32 × (Nat → Int32)) : Option ((Int32 × (Nat → Int32)) ⊕ (((Nat → Int32)))) :=
  if (2048 : Int32) ≤ st96.1 then
  some (.inr st96.2)
  else
  if ix st96.1 2048 then
  if ix st96.1 2048 then
  some (.inl ((st96.1 + 1), (jput st96.2 st96.1 (jat o_cameBy st96.1))))
  else none
  else none
def X12_playing_b24 (F : Nat) (o_at : Nat → Int32) (v1 : Int32) (v2 : Int32) (st24 : Int32 × Int32 × (Nat → Int32) × (Nat → Int32)) : Option ((Int32 × Int32 × (Nat → Int32) × (Nat → Int32)) ⊕ ((Int32 × (Nat → Int32) × (Nat → Int32)))) :=
  if v2 ≤ st24.1 then
  some (.inr (st24.2.1, st24.2.2.1, st24.2.2.2))
  else
  (iter (X12_playing_b32 F o_at st24.2.2.2 v1 v2 st24.1) F (0, st24.2.1, st24.2.2.1)).bind (fun (e32 : Int32 × (Nat → Int32)) =>
    (iter (X12_playing_b96 F e32.1 o_at e32.2 v1 v2 st24.1) F (0, st24.2.2.2)).bind (fun (e96 : (Nat → Int32)) =>
    some (.inl ((st24.1 + 1), e32.1, e32.2, e96))))
def X12_playing (F : Nat) (o_firstCorner : Int32) (o_at : Nat → Int32) (o_cameBy : Nat → Int32) (o_cameThen : Nat → Int32) (v1 : Int32) (v2 : Int32) : Option (Int32 × Int32 × (Nat → Int32) × (Nat → Int32)) :=
  (iter (X12_playing_b2 F o_firstCorner o_at o_cameBy v1 v2) F (0, o_cameThen)).bind (fun (e2 : (Nat → Int32)) =>
    (iter (X12_playing_b24 F o_at v1 v2) F (1, o_firstCorner, o_cameBy, e2)).bind (fun (e24 : Int32 × (Nat → Int32) × (Nat → Int32)) =>
    if v2 = 0 then
  some (0, e24.1, e24.2.1, e24.2.2)
  else
  (X12_leastFrom F e24.1 o_at e24.2.2 v1 (0 : Int32)).bind fun u141 =>
  some (u141.1, u141.2, e24.2.1, e24.2.2)))
abbrev wd_X12_playing (E : vE) (a_o a_o_at a_o_names a_o_sort a_o_trayMany a_o_trays a_o_tape a_o_text a_o_opened a_o_farBy a_o_attendsBy a_o_coveredBy a_o_cameBy a_o_cameThen a_o_fallsBy a_o_loops a_o_ran a_o_told1 : Nat) (o_status : Int32) (o_top : Int64) (o_bottom : Int64) (o_taped : Int32) (o_size : Int32) (o_token : Int32) (o_from : Int32) (o_end : Int32) (o_value : Int32) (o_faultKind : Int32) (o_faultPlace : Int32) (o_faults : Int32) (o_seen : Int32) (o_toldParts : Int32) (o_depth : Int32) (o_counted : Int32) (o_becameThen : Int32) (o_firstCorner : Int32) (o_drawn : Int32) (o_ranSteps : Int32) (o_isTold : Int32) (o_marks : Int32) (o_at : Nat → Int32) (o_cameBy : Nat → Int32) (o_cameThen : Nat → Int32) : va_W := [(a_o, .inr (12, [.ref a_o_at, .ref a_o_names, .int o_status, .long o_top, .long o_bottom, .ref a_o_sort, .ref a_o_trayMany, .ref a_o_trays, .ref a_o_tape, .ref a_o_text, .int o_taped, .int o_size, .int o_token, .int o_from, .int o_end, .int o_value, .int o_faultKind, .int o_faultPlace, .int o_faults, .int o_seen, .int o_toldParts, .ref a_o_opened, .int o_depth, .int o_counted, .ref a_o_farBy, .int o_becameThen, .ref a_o_attendsBy, .ref a_o_coveredBy, .ref a_o_cameBy, .ref a_o_cameThen, .int o_firstCorner, .ref a_o_fallsBy, .int o_drawn, .int o_ranSteps, .ref a_o_loops, .ref a_o_ran, .ref a_o_told1, .int o_isTold, .int o_marks])), (a_o_at, .inl (E.2.1, 3097, .inl o_at)), (a_o_cameBy, .inl (E.2.1, 2048, .inl o_cameBy)), (a_o_cameThen, .inl (E.2.1, 2048, .inl o_cameThen))]
set_option maxHeartbeats 4000000 in
set_option maxRecDepth 100000 in
theorem ct_X12_playing (l : Launch) (E : vE) (F : Nat) (a_o a_o_at a_o_names a_o_sort a_o_trayMany a_o_trays a_o_tape a_o_text a_o_opened a_o_farBy a_o_attendsBy a_o_coveredBy a_o_cameBy a_o_cameThen a_o_fallsBy a_o_loops a_o_ran a_o_told1 : Nat) (o_status : Int32) (o_top : Int64) (o_bottom : Int64) (o_taped : Int32) (o_size : Int32) (o_token : Int32) (o_from : Int32) (o_end : Int32) (o_value : Int32) (o_faultKind : Int32) (o_faultPlace : Int32) (o_faults : Int32) (o_seen : Int32) (o_toldParts : Int32) (o_depth : Int32) (o_counted : Int32) (o_becameThen : Int32) (o_firstCorner : Int32) (o_drawn : Int32) (o_ranSteps : Int32) (o_isTold : Int32) (o_marks : Int32) (o_at : Nat → Int32) (o_cameBy : Nat → Int32) (o_cameThen : Nat → Int32) (v1 : Int32) (v2 : Int32) (u : Int32 × Int32 × (Nat → Int32) × (Nat → Int32)) (hf : X12_playing F o_firstCorner o_at o_cameBy o_cameThen v1 v2 = some u) :
    CtI l yX12_playing cX12_playing 6 (some .int) 5 E [.ref a_o, .int v1, .int v2] (wd_X12_playing E a_o a_o_at a_o_names a_o_sort a_o_trayMany a_o_trays a_o_tape a_o_text a_o_opened a_o_farBy a_o_attendsBy a_o_coveredBy a_o_cameBy a_o_cameThen a_o_fallsBy a_o_loops a_o_ran a_o_told1 o_status o_top o_bottom o_taped o_size o_token o_from o_end o_value o_faultKind o_faultPlace o_faults o_seen o_toldParts o_depth o_counted o_becameThen o_firstCorner o_drawn o_ranSteps o_isTold o_marks o_at o_cameBy o_cameThen) (wd_X12_playing E a_o a_o_at a_o_names a_o_sort a_o_trayMany a_o_trays a_o_tape a_o_text a_o_opened a_o_farBy a_o_attendsBy a_o_coveredBy a_o_cameBy a_o_cameThen a_o_fallsBy a_o_loops a_o_ran a_o_told1 o_status o_top o_bottom o_taped o_size o_token o_from o_end o_value o_faultKind o_faultPlace o_faults o_seen o_toldParts o_depth o_counted o_becameThen u.2.1 o_drawn o_ranSteps o_isTold o_marks o_at u.2.2.1 u.2.2.2) u.1 := by
  refine ctI (by decide) (Nat.le_of_ble_eq_true rfl) ?_
  intro p e s m below meth cd A ls aa QQ hq cx hP hD hS hl
  obtain ⟨⟨hx, hb, hml, hown, hts⟩, hr, hlocks, hK, hA, hX⟩ := id cx
  have hl : lv_has ls 6 [(0, .ref a_o), (1, .int v1), (2, .int v2)] := hl
  unfold X12_playing at hf
  refine lv_iconst (v := 0) hx hb dX12_playing_0 (by decide) ?_
  refine lv_istore_n (lv' := [(3, .int 0), (0, .ref a_o), (1, .int v1), (2, .int v2)]) hx hb dX12_playing_1 rfl hl (by decide) rfl (fun ls hl => ?_)
  obtain ⟨e2, hit2, hf⟩ := bd hf
  refine iter_W (b := X12_playing_b2 F o_firstCorner o_at o_cameBy v1 v2) (P := fun st2 => ∀ (H : Heap) (locs : List Loc) (ls : Array Slot), va_P E.1 vwCl (wd_X12_playing E a_o a_o_at a_o_names a_o_sort a_o_trayMany a_o_trays a_o_tape a_o_text a_o_opened a_o_farBy a_o_attendsBy a_o_coveredBy a_o_cameBy a_o_cameThen a_o_fallsBy a_o_loops a_o_ran a_o_told1 o_status o_top o_bottom o_taped o_size o_token o_from o_end o_value o_faultKind o_faultPlace o_faults o_seen o_toldParts o_depth o_counted o_becameThen o_firstCorner o_drawn o_ranSteps o_isTold o_marks o_at o_cameBy st2.2) H → va_D A (wd_X12_playing E a_o a_o_at a_o_names a_o_sort a_o_trayMany a_o_trays a_o_tape a_o_text a_o_opened a_o_farBy a_o_attendsBy a_o_coveredBy a_o_cameBy a_o_cameThen a_o_fallsBy a_o_loops a_o_ran a_o_told1 o_status o_top o_bottom o_taped o_size o_token o_from o_end o_value o_faultKind o_faultPlace o_faults o_seen o_toldParts o_depth o_counted o_becameThen o_firstCorner o_drawn o_ranSteps o_isTold o_marks o_at o_cameBy st2.2) → va_S A s.heap H locs → lv_has ls 6 [(0, .ref a_o), (1, .int v1), (2, .int v2), (3, .int st2.1)] → W p l e (rmd 5) s m aa below meth cd H locs 0 0 QQ (F0 m 2 ls [])) (G := (fun (e2 : (Nat → Int32)) => ∀ (H : Heap) (locs : List Loc) (ls : Array Slot), va_P E.1 vwCl (wd_X12_playing E a_o a_o_at a_o_names a_o_sort a_o_trayMany a_o_trays a_o_tape a_o_text a_o_opened a_o_farBy a_o_attendsBy a_o_coveredBy a_o_cameBy a_o_cameThen a_o_fallsBy a_o_loops a_o_ran a_o_told1 o_status o_top o_bottom o_taped o_size o_token o_from o_end o_value o_faultKind o_faultPlace o_faults o_seen o_toldParts o_depth o_counted o_becameThen o_firstCorner o_drawn o_ranSteps o_isTold o_marks o_at o_cameBy e2) H → va_D A (wd_X12_playing E a_o a_o_at a_o_names a_o_sort a_o_trayMany a_o_trays a_o_tape a_o_text a_o_opened a_o_farBy a_o_attendsBy a_o_coveredBy a_o_cameBy a_o_cameThen a_o_fallsBy a_o_loops a_o_ran a_o_told1 o_status o_top o_bottom o_taped o_size o_token o_from o_end o_value o_faultKind o_faultPlace o_faults o_seen o_toldParts o_depth o_counted o_becameThen o_firstCorner o_drawn o_ranSteps o_isTold o_marks o_at o_cameBy e2) → va_S A s.heap H locs → lv_has ls 6 [(0, .ref a_o), (1, .int v1), (2, .int v2)] → W p l e (rmd 5) s m aa below meth cd H locs 0 0 QQ (F0 m 22 ls []))) ?_ F (0, o_cameThen) e2 hit2 ?_ _ _ _ hP hD hS (lv_sub hl [1, 2, 3, 0] rfl)
  · intro st2 r2 hf hk2 he2 H locs ls hP hD hS hl
    unfold X12_playing_b2 at hf
    refine lv_iload_n hx hb dX12_playing_2 rfl (lv_at hl 3 rfl) ?_
    refine lv_sipush (v := 2048) hx hb dX12_playing_3 (by decide) ?_
    refine lv_icmp_ge (tgt := 22) hx hb dX12_playing_6 (by decide) (fun hc => ?_) (fun hc => ?_)
    · have hf := it_t hc hf
      exact he2 _ (Option.some.inj hf).symm _ _ _ hP hD hS (lv_sub hl [0, 1, 2] rfl)
    · have hf := it_f hc hf
      refine lv_aload_n hx hb dX12_playing_9 rfl (lv_at hl 0 rfl) ?_
      refine va_get (D := E.1) (ci := 12) (v := .ref a_o_cameThen) (C := RX12) (T := TX12) (N := 39) hx hb hts inX12 hown hK hP 0 rfl rfl 29 (by decide) (hts _ fl_X12_60) (fun _ h9 => h9) rfl dX12_playing_10 ?_
      refine lv_iload_n hx hb dX12_playing_13 rfl (lv_at hl 3 rfl) ?_
      refine lv_iconst (v := 0) hx hb dX12_playing_14 (by decide) ?_
      obtain ⟨hi, hf⟩ := ck hf
      refine r_iast 3 cx hP hD hS rfl hi dX12_playing_15 (fun H locs hP hD hS => ?_)
      have hP : va_P E.1 vwCl (wd_X12_playing E a_o a_o_at a_o_names a_o_sort a_o_trayMany a_o_trays a_o_tape a_o_text a_o_opened a_o_farBy a_o_attendsBy a_o_coveredBy a_o_cameBy a_o_cameThen a_o_fallsBy a_o_loops a_o_ran a_o_told1 o_status o_top o_bottom o_taped o_size o_token o_from o_end o_value o_faultKind o_faultPlace o_faults o_seen o_toldParts o_depth o_counted o_becameThen o_firstCorner o_drawn o_ranSteps o_isTold o_marks o_at o_cameBy (jput st2.2 st2.1 0)) H := hP
      have hD : va_D A (wd_X12_playing E a_o a_o_at a_o_names a_o_sort a_o_trayMany a_o_trays a_o_tape a_o_text a_o_opened a_o_farBy a_o_attendsBy a_o_coveredBy a_o_cameBy a_o_cameThen a_o_fallsBy a_o_loops a_o_ran a_o_told1 o_status o_top o_bottom o_taped o_size o_token o_from o_end o_value o_faultKind o_faultPlace o_faults o_seen o_toldParts o_depth o_counted o_becameThen o_firstCorner o_drawn o_ranSteps o_isTold o_marks o_at o_cameBy (jput st2.2 st2.1 0)) := hD
      refine lv_iinc (v := (st2.1 + 1)) (lv' := [(3, .int (st2.1 + 1)), (0, .ref a_o), (1, .int v1), (2, .int v2)]) hx hb dX12_playing_16 hl (k := 3) rfl rfl (by decide) rfl (fun ls hl => ?_)
      refine lv_goto (tgt := 2) hx hb dX12_playing_19 (by decide) ?_
      exact hk2 _ (Option.some.inj hf).symm _ _ _ hP hD hS (lv_sub hl [1, 2, 3, 0] rfl)
  · refine fun H locs ls hP hD hS hl => ?_
    refine lv_iconst (v := 1) hx hb dX12_playing_22 (by decide) ?_
    refine lv_istore_n (lv' := [(3, .int 1), (0, .ref a_o), (1, .int v1), (2, .int v2)]) hx hb dX12_playing_23 rfl hl (by decide) rfl (fun ls hl => ?_)
    obtain ⟨e24, hit24, hf⟩ := bd hf
    refine iter_W (b := X12_playing_b24 F o_at v1 v2) (P := fun st24 => ∀ (H : Heap) (locs : List Loc) (ls : Array Slot), va_P E.1 vwCl (wd_X12_playing E a_o a_o_at a_o_names a_o_sort a_o_trayMany a_o_trays a_o_tape a_o_text a_o_opened a_o_farBy a_o_attendsBy a_o_coveredBy a_o_cameBy a_o_cameThen a_o_fallsBy a_o_loops a_o_ran a_o_told1 o_status o_top o_bottom o_taped o_size o_token o_from o_end o_value o_faultKind o_faultPlace o_faults o_seen o_toldParts o_depth o_counted o_becameThen st24.2.1 o_drawn o_ranSteps o_isTold o_marks o_at st24.2.2.1 st24.2.2.2) H → va_D A (wd_X12_playing E a_o a_o_at a_o_names a_o_sort a_o_trayMany a_o_trays a_o_tape a_o_text a_o_opened a_o_farBy a_o_attendsBy a_o_coveredBy a_o_cameBy a_o_cameThen a_o_fallsBy a_o_loops a_o_ran a_o_told1 o_status o_top o_bottom o_taped o_size o_token o_from o_end o_value o_faultKind o_faultPlace o_faults o_seen o_toldParts o_depth o_counted o_becameThen st24.2.1 o_drawn o_ranSteps o_isTold o_marks o_at st24.2.2.1 st24.2.2.2) → va_S A s.heap H locs → lv_has ls 6 [(0, .ref a_o), (1, .int v1), (2, .int v2), (3, .int st24.1)] → W p l e (rmd 5) s m aa below meth cd H locs 0 0 QQ (F0 m 24 ls [])) (G := (fun (e24 : Int32 × (Nat → Int32) × (Nat → Int32)) => ∀ (H : Heap) (locs : List Loc) (ls : Array Slot), va_P E.1 vwCl (wd_X12_playing E a_o a_o_at a_o_names a_o_sort a_o_trayMany a_o_trays a_o_tape a_o_text a_o_opened a_o_farBy a_o_attendsBy a_o_coveredBy a_o_cameBy a_o_cameThen a_o_fallsBy a_o_loops a_o_ran a_o_told1 o_status o_top o_bottom o_taped o_size o_token o_from o_end o_value o_faultKind o_faultPlace o_faults o_seen o_toldParts o_depth o_counted o_becameThen e24.1 o_drawn o_ranSteps o_isTold o_marks o_at e24.2.1 e24.2.2) H → va_D A (wd_X12_playing E a_o a_o_at a_o_names a_o_sort a_o_trayMany a_o_trays a_o_tape a_o_text a_o_opened a_o_farBy a_o_attendsBy a_o_coveredBy a_o_cameBy a_o_cameThen a_o_fallsBy a_o_loops a_o_ran a_o_told1 o_status o_top o_bottom o_taped o_size o_token o_from o_end o_value o_faultKind o_faultPlace o_faults o_seen o_toldParts o_depth o_counted o_becameThen e24.1 o_drawn o_ranSteps o_isTold o_marks o_at e24.2.1 e24.2.2) → va_S A s.heap H locs → lv_has ls 6 [(0, .ref a_o), (1, .int v1), (2, .int v2)] → W p l e (rmd 5) s m aa below meth cd H locs 0 0 QQ (F0 m 130 ls []))) ?_ F (1, o_firstCorner, o_cameBy, e2) e24 hit24 ?_ _ _ _ hP hD hS (lv_sub hl [1, 2, 3, 0] rfl)
    · intro st24 r24 hf hk24 he24 H locs ls hP hD hS hl
      unfold X12_playing_b24 at hf
      refine lv_iload_n hx hb dX12_playing_24 rfl (lv_at hl 3 rfl) ?_
      refine lv_iload_n hx hb dX12_playing_25 rfl (lv_at hl 2 rfl) ?_
      refine lv_icmp_ge (tgt := 130) hx hb dX12_playing_26 (by decide) (fun hc => ?_) (fun hc => ?_)
      · have hf := it_t hc hf
        exact he24 _ (Option.some.inj hf).symm _ _ _ hP hD hS (lv_sub hl [0, 1, 2] rfl)
      · have hf := it_f hc hf
        refine lv_iconst (v := 0) hx hb dX12_playing_29 (by decide) ?_
        refine lv_istore (lv' := [(4, .int 0), (0, .ref a_o), (1, .int v1), (2, .int v2), (3, .int st24.1)]) hx hb dX12_playing_30 hl (by decide) rfl (fun ls hl => ?_)
        obtain ⟨e32, hit32, hf⟩ := bd hf
        refine iter_W (b := X12_playing_b32 F o_at st24.2.2.2 v1 v2 st24.1) (P := fun st32 => ∀ (H : Heap) (locs : List Loc) (ls : Array Slot), va_P E.1 vwCl (wd_X12_playing E a_o a_o_at a_o_names a_o_sort a_o_trayMany a_o_trays a_o_tape a_o_text a_o_opened a_o_farBy a_o_attendsBy a_o_coveredBy a_o_cameBy a_o_cameThen a_o_fallsBy a_o_loops a_o_ran a_o_told1 o_status o_top o_bottom o_taped o_size o_token o_from o_end o_value o_faultKind o_faultPlace o_faults o_seen o_toldParts o_depth o_counted o_becameThen st32.2.1 o_drawn o_ranSteps o_isTold o_marks o_at st32.2.2 st24.2.2.2) H → va_D A (wd_X12_playing E a_o a_o_at a_o_names a_o_sort a_o_trayMany a_o_trays a_o_tape a_o_text a_o_opened a_o_farBy a_o_attendsBy a_o_coveredBy a_o_cameBy a_o_cameThen a_o_fallsBy a_o_loops a_o_ran a_o_told1 o_status o_top o_bottom o_taped o_size o_token o_from o_end o_value o_faultKind o_faultPlace o_faults o_seen o_toldParts o_depth o_counted o_becameThen st32.2.1 o_drawn o_ranSteps o_isTold o_marks o_at st32.2.2 st24.2.2.2) → va_S A s.heap H locs → lv_has ls 6 [(0, .ref a_o), (1, .int v1), (2, .int v2), (3, .int st24.1), (4, .int st32.1)] → W p l e (rmd 5) s m aa below meth cd H locs 0 0 QQ (F0 m 32 ls [])) (G := (fun (e32 : Int32 × (Nat → Int32)) => ∀ (H : Heap) (locs : List Loc) (ls : Array Slot), va_P E.1 vwCl (wd_X12_playing E a_o a_o_at a_o_names a_o_sort a_o_trayMany a_o_trays a_o_tape a_o_text a_o_opened a_o_farBy a_o_attendsBy a_o_coveredBy a_o_cameBy a_o_cameThen a_o_fallsBy a_o_loops a_o_ran a_o_told1 o_status o_top o_bottom o_taped o_size o_token o_from o_end o_value o_faultKind o_faultPlace o_faults o_seen o_toldParts o_depth o_counted o_becameThen e32.1 o_drawn o_ranSteps o_isTold o_marks o_at e32.2 st24.2.2.2) H → va_D A (wd_X12_playing E a_o a_o_at a_o_names a_o_sort a_o_trayMany a_o_trays a_o_tape a_o_text a_o_opened a_o_farBy a_o_attendsBy a_o_coveredBy a_o_cameBy a_o_cameThen a_o_fallsBy a_o_loops a_o_ran a_o_told1 o_status o_top o_bottom o_taped o_size o_token o_from o_end o_value o_faultKind o_faultPlace o_faults o_seen o_toldParts o_depth o_counted o_becameThen e32.1 o_drawn o_ranSteps o_isTold o_marks o_at e32.2 st24.2.2.2) → va_S A s.heap H locs → lv_has ls 6 [(0, .ref a_o), (1, .int v1), (2, .int v2), (3, .int st24.1)] → W p l e (rmd 5) s m aa below meth cd H locs 0 0 QQ (F0 m 93 ls []))) ?_ F (0, st24.2.1, st24.2.2.1) e32 hit32 ?_ _ _ _ hP hD hS (lv_sub hl [1, 2, 3, 4, 0] rfl)
        · intro st32 r32 hf hk32 he32 H locs ls hP hD hS hl
          unfold X12_playing_b32 at hf
          refine lv_iload hx hb dX12_playing_32 (lv_at hl 4 rfl) ?_
          refine lv_aload_n hx hb dX12_playing_34 rfl (lv_at hl 0 rfl) ?_
          refine va_get (D := E.1) (ci := 12) (v := .ref a_o_at) (C := RX12) (T := TX12) (N := 39) hx hb hts inX12 hown hK hP 0 rfl rfl 0 (by decide) (hts _ fl_X12_7) (fun _ h9 => h9) rfl dX12_playing_35 ?_
          refine lv_iconst (v := 0) hx hb dX12_playing_38 (by decide) ?_
          obtain ⟨hi, hf⟩ := ck hf
          refine r_iald 1 cx hP rfl hi dX12_playing_39 ?_
          refine lv_icmp_ge (tgt := 93) hx hb dX12_playing_40 (by decide) (fun hc => ?_) (fun hc => ?_)
          · have hf := it_t hc hf
            exact he32 _ (Option.some.inj hf).symm _ _ _ hP hD hS (lv_sub hl [0, 1, 2, 3] rfl)
          · have hf := it_f hc hf
            refine lv_iconst (v := 0) hx hb dX12_playing_43 (by decide) ?_
            refine lv_istore (lv' := [(5, .int 0), (0, .ref a_o), (1, .int v1), (2, .int v2), (3, .int st24.1), (4, .int st32.1)]) hx hb dX12_playing_44 hl (by decide) rfl (fun ls hl => ?_)
            obtain ⟨e46, hit46, hf⟩ := bd hf
            refine iter_W (b := X12_playing_b46 F o_at st24.2.2.2 v1 v2 st24.1 st32.1) (P := fun st46 => ∀ (H : Heap) (locs : List Loc) (ls : Array Slot), va_P E.1 vwCl (wd_X12_playing E a_o a_o_at a_o_names a_o_sort a_o_trayMany a_o_trays a_o_tape a_o_text a_o_opened a_o_farBy a_o_attendsBy a_o_coveredBy a_o_cameBy a_o_cameThen a_o_fallsBy a_o_loops a_o_ran a_o_told1 o_status o_top o_bottom o_taped o_size o_token o_from o_end o_value o_faultKind o_faultPlace o_faults o_seen o_toldParts o_depth o_counted o_becameThen st46.2.1 o_drawn o_ranSteps o_isTold o_marks o_at st46.2.2 st24.2.2.2) H → va_D A (wd_X12_playing E a_o a_o_at a_o_names a_o_sort a_o_trayMany a_o_trays a_o_tape a_o_text a_o_opened a_o_farBy a_o_attendsBy a_o_coveredBy a_o_cameBy a_o_cameThen a_o_fallsBy a_o_loops a_o_ran a_o_told1 o_status o_top o_bottom o_taped o_size o_token o_from o_end o_value o_faultKind o_faultPlace o_faults o_seen o_toldParts o_depth o_counted o_becameThen st46.2.1 o_drawn o_ranSteps o_isTold o_marks o_at st46.2.2 st24.2.2.2) → va_S A s.heap H locs → lv_has ls 6 [(0, .ref a_o), (1, .int v1), (2, .int v2), (3, .int st24.1), (4, .int st32.1), (5, .int st46.1)] → W p l e (rmd 5) s m aa below meth cd H locs 0 0 QQ (F0 m 46 ls [])) (G := (fun (e46 : Int32 × (Nat → Int32)) => ∀ (H : Heap) (locs : List Loc) (ls : Array Slot), va_P E.1 vwCl (wd_X12_playing E a_o a_o_at a_o_names a_o_sort a_o_trayMany a_o_trays a_o_tape a_o_text a_o_opened a_o_farBy a_o_attendsBy a_o_coveredBy a_o_cameBy a_o_cameThen a_o_fallsBy a_o_loops a_o_ran a_o_told1 o_status o_top o_bottom o_taped o_size o_token o_from o_end o_value o_faultKind o_faultPlace o_faults o_seen o_toldParts o_depth o_counted o_becameThen e46.1 o_drawn o_ranSteps o_isTold o_marks o_at e46.2 st24.2.2.2) H → va_D A (wd_X12_playing E a_o a_o_at a_o_names a_o_sort a_o_trayMany a_o_trays a_o_tape a_o_text a_o_opened a_o_farBy a_o_attendsBy a_o_coveredBy a_o_cameBy a_o_cameThen a_o_fallsBy a_o_loops a_o_ran a_o_told1 o_status o_top o_bottom o_taped o_size o_token o_from o_end o_value o_faultKind o_faultPlace o_faults o_seen o_toldParts o_depth o_counted o_becameThen e46.1 o_drawn o_ranSteps o_isTold o_marks o_at e46.2 st24.2.2.2) → va_S A s.heap H locs → lv_has ls 6 [(0, .ref a_o), (1, .int v1), (2, .int v2), (3, .int st24.1), (4, .int st32.1)] → W p l e (rmd 5) s m aa below meth cd H locs 0 0 QQ (F0 m 87 ls []))) ?_ F (0, st32.2.1, st32.2.2) e46 hit46 ?_ _ _ _ hP hD hS (lv_sub hl [1, 2, 3, 4, 5, 0] rfl)
            · intro st46 r46 hf hk46 he46 H locs ls hP hD hS hl
              unfold X12_playing_b46 at hf
              refine lv_iload hx hb dX12_playing_46 (lv_at hl 5 rfl) ?_
              refine lv_iconst (v := 1) hx hb dX12_playing_48 (by decide) ?_
              refine lv_aload_n hx hb dX12_playing_49 rfl (lv_at hl 0 rfl) ?_
              refine va_get (D := E.1) (ci := 12) (v := .ref a_o_at) (C := RX12) (T := TX12) (N := 39) hx hb hts inX12 hown hK hP 0 rfl rfl 0 (by decide) (hts _ fl_X12_7) (fun _ h9 => h9) rfl dX12_playing_50 ?_
              refine lv_iconst (v := 3) hx hb dX12_playing_53 (by decide) ?_
              obtain ⟨hi, hf⟩ := ck hf
              refine r_iald 1 cx hP rfl hi dX12_playing_54 ?_
              refine r_ishl hx hb dX12_playing_55 ?_
              refine lv_icmp_ge (tgt := 87) hx hb dX12_playing_56 (by decide) (fun hc => ?_) (fun hc => ?_)
              · have hf := it_t hc hf
                exact he46 _ (Option.some.inj hf).symm _ _ _ hP hD hS (lv_sub hl [0, 1, 2, 3, 4] rfl)
              · have hf := it_f hc hf
                refine lv_aload_n hx hb dX12_playing_59 rfl (lv_at hl 0 rfl) ?_
                refine va_get (D := E.1) (ci := 12) (v := .ref a_o_cameBy) (C := RX12) (T := TX12) (N := 39) hx hb hts inX12 hown hK hP 0 rfl rfl 28 (by decide) (hts _ fl_X12_57) (fun _ h9 => h9) rfl dX12_playing_60 ?_
                refine lv_sipush (v := 256) hx hb dX12_playing_63 (by decide) ?_
                refine lv_iload hx hb dX12_playing_66 (lv_at hl 4 rfl) ?_
                refine lv_imul hx hb dX12_playing_68 ?_
                refine lv_iload hx hb dX12_playing_69 (lv_at hl 5 rfl) ?_
                refine lv_iadd hx hb dX12_playing_71 ?_
                refine lv_aload_n hx hb dX12_playing_72 rfl (lv_at hl 0 rfl) ?_
                refine lv_iload hx hb dX12_playing_73 (lv_at hl 4 rfl) ?_
                refine lv_iload hx hb dX12_playing_75 (lv_at hl 5 rfl) ?_
                obtain ⟨u77, hu77, hf⟩ := bd hf
                refine callVI (wn := (wd_X12_playing E a_o a_o_at a_o_names a_o_sort a_o_trayMany a_o_trays a_o_tape a_o_text a_o_opened a_o_farBy a_o_attendsBy a_o_coveredBy a_o_cameBy a_o_cameThen a_o_fallsBy a_o_loops a_o_ran a_o_told1 o_status o_top o_bottom o_taped o_size o_token o_from o_end o_value o_faultKind o_faultPlace o_faults o_seen o_toldParts o_depth o_counted o_becameThen u77.2 o_drawn o_ranSteps o_isTold o_marks o_at st46.2.2 st24.2.2.2)) (n1 := 4) (ct_X12_leastFrom l E F a_o a_o_at a_o_names a_o_sort a_o_trayMany a_o_trays a_o_tape a_o_text a_o_opened a_o_farBy a_o_attendsBy a_o_coveredBy a_o_cameBy a_o_cameThen a_o_fallsBy a_o_loops a_o_ran a_o_told1 o_status o_top o_bottom o_taped o_size o_token o_from o_end o_value o_faultKind o_faultPlace o_faults o_seen o_toldParts o_depth o_counted o_becameThen st46.2.1 o_drawn o_ranSteps o_isTold o_marks o_at st24.2.2.2 st32.1 st46.1 u77 hu77) [0, 1, 3] cal_X12_leastFrom cav_X12_leastFrom lk_X12_456 cx hP hD hS hl dX12_playing_77 rfl rfl rfl rfl (Nat.le_of_ble_eq_true rfl) ⟨Nat.le_of_ble_eq_true rfl, Nat.le_of_ble_eq_true rfl⟩ rfl (by decide +kernel) rfl [some 0, some 1, none, some 2] rfl (by decide +kernel) rfl (fun H locs hP hD hS => ?_)
                obtain ⟨hi, hf⟩ := ck hf
                refine r_iast 2 cx hP hD hS rfl hi dX12_playing_80 (fun H locs hP hD hS => ?_)
                have hP : va_P E.1 vwCl (wd_X12_playing E a_o a_o_at a_o_names a_o_sort a_o_trayMany a_o_trays a_o_tape a_o_text a_o_opened a_o_farBy a_o_attendsBy a_o_coveredBy a_o_cameBy a_o_cameThen a_o_fallsBy a_o_loops a_o_ran a_o_told1 o_status o_top o_bottom o_taped o_size o_token o_from o_end o_value o_faultKind o_faultPlace o_faults o_seen o_toldParts o_depth o_counted o_becameThen u77.2 o_drawn o_ranSteps o_isTold o_marks o_at (jput st46.2.2 ((256 * st32.1) + st46.1) u77.1) st24.2.2.2) H := hP
                have hD : va_D A (wd_X12_playing E a_o a_o_at a_o_names a_o_sort a_o_trayMany a_o_trays a_o_tape a_o_text a_o_opened a_o_farBy a_o_attendsBy a_o_coveredBy a_o_cameBy a_o_cameThen a_o_fallsBy a_o_loops a_o_ran a_o_told1 o_status o_top o_bottom o_taped o_size o_token o_from o_end o_value o_faultKind o_faultPlace o_faults o_seen o_toldParts o_depth o_counted o_becameThen u77.2 o_drawn o_ranSteps o_isTold o_marks o_at (jput st46.2.2 ((256 * st32.1) + st46.1) u77.1) st24.2.2.2) := hD
                refine lv_iinc (v := (st46.1 + 1)) (lv' := [(5, .int (st46.1 + 1)), (0, .ref a_o), (1, .int v1), (2, .int v2), (3, .int st24.1), (4, .int st32.1)]) hx hb dX12_playing_81 hl (k := 5) rfl rfl (by decide) rfl (fun ls hl => ?_)
                refine lv_goto (tgt := 46) hx hb dX12_playing_84 (by decide) ?_
                exact hk46 _ (Option.some.inj hf).symm _ _ _ hP hD hS (lv_sub hl [1, 2, 3, 4, 5, 0] rfl)
            · refine fun H locs ls hP hD hS hl => ?_
              refine lv_iinc (v := (st32.1 + 1)) (lv' := [(4, .int (st32.1 + 1)), (0, .ref a_o), (1, .int v1), (2, .int v2), (3, .int st24.1)]) hx hb dX12_playing_87 hl (k := 4) rfl rfl (by decide) rfl (fun ls hl => ?_)
              refine lv_goto (tgt := 32) hx hb dX12_playing_90 (by decide) ?_
              exact hk32 _ (Option.some.inj hf).symm _ _ _ hP hD hS (lv_sub hl [1, 2, 3, 4, 0] rfl)
        · refine fun H locs ls hP hD hS hl => ?_
          refine lv_iconst (v := 0) hx hb dX12_playing_93 (by decide) ?_
          refine lv_istore (lv' := [(4, .int 0), (0, .ref a_o), (1, .int v1), (2, .int v2), (3, .int st24.1)]) hx hb dX12_playing_94 hl (by decide) rfl (fun ls hl => ?_)
          obtain ⟨e96, hit96, hf⟩ := bd hf
          refine iter_W (b := X12_playing_b96 F e32.1 o_at e32.2 v1 v2 st24.1) (P := fun st96 => ∀ (H : Heap) (locs : List Loc) (ls : Array Slot), va_P E.1 vwCl (wd_X12_playing E a_o a_o_at a_o_names a_o_sort a_o_trayMany a_o_trays a_o_tape a_o_text a_o_opened a_o_farBy a_o_attendsBy a_o_coveredBy a_o_cameBy a_o_cameThen a_o_fallsBy a_o_loops a_o_ran a_o_told1 o_status o_top o_bottom o_taped o_size o_token o_from o_end o_value o_faultKind o_faultPlace o_faults o_seen o_toldParts o_depth o_counted o_becameThen e32.1 o_drawn o_ranSteps o_isTold o_marks o_at e32.2 st96.2) H → va_D A (wd_X12_playing E a_o a_o_at a_o_names a_o_sort a_o_trayMany a_o_trays a_o_tape a_o_text a_o_opened a_o_farBy a_o_attendsBy a_o_coveredBy a_o_cameBy a_o_cameThen a_o_fallsBy a_o_loops a_o_ran a_o_told1 o_status o_top o_bottom o_taped o_size o_token o_from o_end o_value o_faultKind o_faultPlace o_faults o_seen o_toldParts o_depth o_counted o_becameThen e32.1 o_drawn o_ranSteps o_isTold o_marks o_at e32.2 st96.2) → va_S A s.heap H locs → lv_has ls 6 [(0, .ref a_o), (1, .int v1), (2, .int v2), (3, .int st24.1), (4, .int st96.1)] → W p l e (rmd 5) s m aa below meth cd H locs 0 0 QQ (F0 m 96 ls [])) (G := (fun (e96 : (Nat → Int32)) => ∀ (H : Heap) (locs : List Loc) (ls : Array Slot), va_P E.1 vwCl (wd_X12_playing E a_o a_o_at a_o_names a_o_sort a_o_trayMany a_o_trays a_o_tape a_o_text a_o_opened a_o_farBy a_o_attendsBy a_o_coveredBy a_o_cameBy a_o_cameThen a_o_fallsBy a_o_loops a_o_ran a_o_told1 o_status o_top o_bottom o_taped o_size o_token o_from o_end o_value o_faultKind o_faultPlace o_faults o_seen o_toldParts o_depth o_counted o_becameThen e32.1 o_drawn o_ranSteps o_isTold o_marks o_at e32.2 e96) H → va_D A (wd_X12_playing E a_o a_o_at a_o_names a_o_sort a_o_trayMany a_o_trays a_o_tape a_o_text a_o_opened a_o_farBy a_o_attendsBy a_o_coveredBy a_o_cameBy a_o_cameThen a_o_fallsBy a_o_loops a_o_ran a_o_told1 o_status o_top o_bottom o_taped o_size o_token o_from o_end o_value o_faultKind o_faultPlace o_faults o_seen o_toldParts o_depth o_counted o_becameThen e32.1 o_drawn o_ranSteps o_isTold o_marks o_at e32.2 e96) → va_S A s.heap H locs → lv_has ls 6 [(0, .ref a_o), (1, .int v1), (2, .int v2), (3, .int st24.1)] → W p l e (rmd 5) s m aa below meth cd H locs 0 0 QQ (F0 m 124 ls []))) ?_ F (0, st24.2.2.2) e96 hit96 ?_ _ _ _ hP hD hS (lv_sub hl [1, 2, 3, 4, 0] rfl)
          · intro st96 r96 hf hk96 he96 H locs ls hP hD hS hl
            unfold X12_playing_b96 at hf
            refine lv_iload hx hb dX12_playing_96 (lv_at hl 4 rfl) ?_
            refine lv_sipush (v := 2048) hx hb dX12_playing_98 (by decide) ?_
            refine lv_icmp_ge (tgt := 124) hx hb dX12_playing_101 (by decide) (fun hc => ?_) (fun hc => ?_)
            · have hf := it_t hc hf
              exact he96 _ (Option.some.inj hf).symm _ _ _ hP hD hS (lv_sub hl [0, 1, 2, 3] rfl)
            · have hf := it_f hc hf
              refine lv_aload_n hx hb dX12_playing_104 rfl (lv_at hl 0 rfl) ?_
              refine va_get (D := E.1) (ci := 12) (v := .ref a_o_cameThen) (C := RX12) (T := TX12) (N := 39) hx hb hts inX12 hown hK hP 0 rfl rfl 29 (by decide) (hts _ fl_X12_60) (fun _ h9 => h9) rfl dX12_playing_105 ?_
              refine lv_iload hx hb dX12_playing_108 (lv_at hl 4 rfl) ?_
              refine lv_aload_n hx hb dX12_playing_110 rfl (lv_at hl 0 rfl) ?_
              refine va_get (D := E.1) (ci := 12) (v := .ref a_o_cameBy) (C := RX12) (T := TX12) (N := 39) hx hb hts inX12 hown hK hP 0 rfl rfl 28 (by decide) (hts _ fl_X12_57) (fun _ h9 => h9) rfl dX12_playing_111 ?_
              refine lv_iload hx hb dX12_playing_114 (lv_at hl 4 rfl) ?_
              obtain ⟨hi, hf⟩ := ck hf
              refine r_iald 2 cx hP rfl hi dX12_playing_116 ?_
              obtain ⟨hi, hf⟩ := ck hf
              refine r_iast 3 cx hP hD hS rfl hi dX12_playing_117 (fun H locs hP hD hS => ?_)
              have hP : va_P E.1 vwCl (wd_X12_playing E a_o a_o_at a_o_names a_o_sort a_o_trayMany a_o_trays a_o_tape a_o_text a_o_opened a_o_farBy a_o_attendsBy a_o_coveredBy a_o_cameBy a_o_cameThen a_o_fallsBy a_o_loops a_o_ran a_o_told1 o_status o_top o_bottom o_taped o_size o_token o_from o_end o_value o_faultKind o_faultPlace o_faults o_seen o_toldParts o_depth o_counted o_becameThen e32.1 o_drawn o_ranSteps o_isTold o_marks o_at e32.2 (jput st96.2 st96.1 (jat e32.2 st96.1))) H := hP
              have hD : va_D A (wd_X12_playing E a_o a_o_at a_o_names a_o_sort a_o_trayMany a_o_trays a_o_tape a_o_text a_o_opened a_o_farBy a_o_attendsBy a_o_coveredBy a_o_cameBy a_o_cameThen a_o_fallsBy a_o_loops a_o_ran a_o_told1 o_status o_top o_bottom o_taped o_size o_token o_from o_end o_value o_faultKind o_faultPlace o_faults o_seen o_toldParts o_depth o_counted o_becameThen e32.1 o_drawn o_ranSteps o_isTold o_marks o_at e32.2 (jput st96.2 st96.1 (jat e32.2 st96.1))) := hD
              refine lv_iinc (v := (st96.1 + 1)) (lv' := [(4, .int (st96.1 + 1)), (0, .ref a_o), (1, .int v1), (2, .int v2), (3, .int st24.1)]) hx hb dX12_playing_118 hl (k := 4) rfl rfl (by decide) rfl (fun ls hl => ?_)
              refine lv_goto (tgt := 96) hx hb dX12_playing_121 (by decide) ?_
              exact hk96 _ (Option.some.inj hf).symm _ _ _ hP hD hS (lv_sub hl [1, 2, 3, 4, 0] rfl)
          · refine fun H locs ls hP hD hS hl => ?_
            refine lv_iinc (v := (st24.1 + 1)) (lv' := [(3, .int (st24.1 + 1)), (0, .ref a_o), (1, .int v1), (2, .int v2)]) hx hb dX12_playing_124 hl (k := 3) rfl rfl (by decide) rfl (fun ls hl => ?_)
            refine lv_goto (tgt := 24) hx hb dX12_playing_127 (by decide) ?_
            exact hk24 _ (Option.some.inj hf).symm _ _ _ hP hD hS (lv_sub hl [1, 2, 3, 0] rfl)
    · refine fun H locs ls hP hD hS hl => ?_
      refine lv_iload_n hx hb dX12_playing_130 rfl (lv_at hl 2 rfl) ?_
      refine lv_if_ne (tgt := 138) hx hb dX12_playing_131 (by decide) (fun hc => ?_) (fun hc => ?_)
      · have hf := it_f hc hf
        refine lv_aload_n hx hb dX12_playing_138 rfl (lv_at hl 0 rfl) ?_
        refine lv_iload_n hx hb dX12_playing_139 rfl (lv_at hl 1 rfl) ?_
        refine lv_iconst (v := 0) hx hb dX12_playing_140 (by decide) ?_
        obtain ⟨u141, hu141, hf⟩ := bd hf
        refine callVI (wn := (wd_X12_playing E a_o a_o_at a_o_names a_o_sort a_o_trayMany a_o_trays a_o_tape a_o_text a_o_opened a_o_farBy a_o_attendsBy a_o_coveredBy a_o_cameBy a_o_cameThen a_o_fallsBy a_o_loops a_o_ran a_o_told1 o_status o_top o_bottom o_taped o_size o_token o_from o_end o_value o_faultKind o_faultPlace o_faults o_seen o_toldParts o_depth o_counted o_becameThen u141.2 o_drawn o_ranSteps o_isTold o_marks o_at e24.2.1 e24.2.2)) (n1 := 4) (ct_X12_leastFrom l E F a_o a_o_at a_o_names a_o_sort a_o_trayMany a_o_trays a_o_tape a_o_text a_o_opened a_o_farBy a_o_attendsBy a_o_coveredBy a_o_cameBy a_o_cameThen a_o_fallsBy a_o_loops a_o_ran a_o_told1 o_status o_top o_bottom o_taped o_size o_token o_from o_end o_value o_faultKind o_faultPlace o_faults o_seen o_toldParts o_depth o_counted o_becameThen e24.1 o_drawn o_ranSteps o_isTold o_marks o_at e24.2.2 v1 (0 : Int32) u141 hu141) [0, 1, 3] cal_X12_leastFrom cav_X12_leastFrom lk_X12_456 cx hP hD hS hl dX12_playing_141 rfl rfl rfl rfl (Nat.le_of_ble_eq_true rfl) ⟨Nat.le_of_ble_eq_true rfl, Nat.le_of_ble_eq_true rfl⟩ rfl (by decide +kernel) rfl [some 0, some 1, none, some 2] rfl (by decide +kernel) rfl (fun H locs hP hD hS => ?_)
        obtain rfl := Option.some.inj hf
        subst hq
        exact retI cx hP hD hS dX12_playing_144
      · have hf := it_t hc hf
        refine lv_iconst (v := 0) hx hb dX12_playing_134 (by decide) ?_
        refine lv_goto (tgt := 144) hx hb dX12_playing_135 (by decide) ?_
        obtain rfl := Option.some.inj hf
        subst hq
        exact retI cx hP hD hS dX12_playing_144
def X12_game_j33 (F : Nat) (o_status : Int32) (o_firstCorner : Int32) (o_at : Nat → Int32) (o_cameBy : Nat → Int32) (o_cameThen : Nat → Int32) : Option (Int32 × Int32 × Int32 × (Nat → Int32) × (Nat → Int32)) :=
  (X12_refuse o_status (1 : Int32)).bind fun u35 =>
  some (u35.1, u35.2, o_firstCorner, o_cameBy, o_cameThen)
def X12_game (F : Nat) (o_status : Int32) (o_firstCorner : Int32) (o_at : Nat → Int32) (o_cameBy : Nat → Int32) (o_cameThen : Nat → Int32) (v1 : Int32) (v2 : Int32) : Option (Int32 × Int32 × Int32 × (Nat → Int32) × (Nat → Int32)) :=
  (X12_isCorner o_at v1).bind fun u2 =>
  if u2 = 0 then
  X12_game_j33 F o_status o_firstCorner o_at o_cameBy o_cameThen
  else
  (X12_isFrom (v2.toInt64) (0 : Int64) (3 : Int64)).bind fun u14 =>
  if u14 = 0 then
  X12_game_j33 F o_status o_firstCorner o_at o_cameBy o_cameThen
  else
  (X12_playing F o_firstCorner o_at o_cameBy o_cameThen v1 v2).bind fun u24 =>
  (X12_gives o_status u24.1).bind fun u27 =>
  some (u27.1, u27.2, u24.2.1, u24.2.2.1, u24.2.2.2)
abbrev wd_X12_game (E : vE) (a_o a_o_at a_o_names a_o_sort a_o_trayMany a_o_trays a_o_tape a_o_text a_o_opened a_o_farBy a_o_attendsBy a_o_coveredBy a_o_cameBy a_o_cameThen a_o_fallsBy a_o_loops a_o_ran a_o_told1 : Nat) (o_status : Int32) (o_top : Int64) (o_bottom : Int64) (o_taped : Int32) (o_size : Int32) (o_token : Int32) (o_from : Int32) (o_end : Int32) (o_value : Int32) (o_faultKind : Int32) (o_faultPlace : Int32) (o_faults : Int32) (o_seen : Int32) (o_toldParts : Int32) (o_depth : Int32) (o_counted : Int32) (o_becameThen : Int32) (o_firstCorner : Int32) (o_drawn : Int32) (o_ranSteps : Int32) (o_isTold : Int32) (o_marks : Int32) (o_at : Nat → Int32) (o_cameBy : Nat → Int32) (o_cameThen : Nat → Int32) : va_W := [(a_o, .inr (12, [.ref a_o_at, .ref a_o_names, .int o_status, .long o_top, .long o_bottom, .ref a_o_sort, .ref a_o_trayMany, .ref a_o_trays, .ref a_o_tape, .ref a_o_text, .int o_taped, .int o_size, .int o_token, .int o_from, .int o_end, .int o_value, .int o_faultKind, .int o_faultPlace, .int o_faults, .int o_seen, .int o_toldParts, .ref a_o_opened, .int o_depth, .int o_counted, .ref a_o_farBy, .int o_becameThen, .ref a_o_attendsBy, .ref a_o_coveredBy, .ref a_o_cameBy, .ref a_o_cameThen, .int o_firstCorner, .ref a_o_fallsBy, .int o_drawn, .int o_ranSteps, .ref a_o_loops, .ref a_o_ran, .ref a_o_told1, .int o_isTold, .int o_marks])), (a_o_at, .inl (E.2.1, 3097, .inl o_at)), (a_o_cameBy, .inl (E.2.1, 2048, .inl o_cameBy)), (a_o_cameThen, .inl (E.2.1, 2048, .inl o_cameThen))]
set_option maxHeartbeats 4000000 in
set_option maxRecDepth 100000 in
theorem ct_X12_game (l : Launch) (E : vE) (F : Nat) (a_o a_o_at a_o_names a_o_sort a_o_trayMany a_o_trays a_o_tape a_o_text a_o_opened a_o_farBy a_o_attendsBy a_o_coveredBy a_o_cameBy a_o_cameThen a_o_fallsBy a_o_loops a_o_ran a_o_told1 : Nat) (o_status : Int32) (o_top : Int64) (o_bottom : Int64) (o_taped : Int32) (o_size : Int32) (o_token : Int32) (o_from : Int32) (o_end : Int32) (o_value : Int32) (o_faultKind : Int32) (o_faultPlace : Int32) (o_faults : Int32) (o_seen : Int32) (o_toldParts : Int32) (o_depth : Int32) (o_counted : Int32) (o_becameThen : Int32) (o_firstCorner : Int32) (o_drawn : Int32) (o_ranSteps : Int32) (o_isTold : Int32) (o_marks : Int32) (o_at : Nat → Int32) (o_cameBy : Nat → Int32) (o_cameThen : Nat → Int32) (v1 : Int32) (v2 : Int32) (u : Int32 × Int32 × Int32 × (Nat → Int32) × (Nat → Int32)) (hf : X12_game F o_status o_firstCorner o_at o_cameBy o_cameThen v1 v2 = some u) :
    CtI l yX12_game cX12_game 3 (some .int) 6 E [.ref a_o, .int v1, .int v2] (wd_X12_game E a_o a_o_at a_o_names a_o_sort a_o_trayMany a_o_trays a_o_tape a_o_text a_o_opened a_o_farBy a_o_attendsBy a_o_coveredBy a_o_cameBy a_o_cameThen a_o_fallsBy a_o_loops a_o_ran a_o_told1 o_status o_top o_bottom o_taped o_size o_token o_from o_end o_value o_faultKind o_faultPlace o_faults o_seen o_toldParts o_depth o_counted o_becameThen o_firstCorner o_drawn o_ranSteps o_isTold o_marks o_at o_cameBy o_cameThen) (wd_X12_game E a_o a_o_at a_o_names a_o_sort a_o_trayMany a_o_trays a_o_tape a_o_text a_o_opened a_o_farBy a_o_attendsBy a_o_coveredBy a_o_cameBy a_o_cameThen a_o_fallsBy a_o_loops a_o_ran a_o_told1 u.2.1 o_top o_bottom o_taped o_size o_token o_from o_end o_value o_faultKind o_faultPlace o_faults o_seen o_toldParts o_depth o_counted o_becameThen u.2.2.1 o_drawn o_ranSteps o_isTold o_marks o_at u.2.2.2.1 u.2.2.2.2) u.1 := by
  refine ctI (by decide) (Nat.le_of_ble_eq_true rfl) ?_
  intro p e s m below meth cd A ls aa QQ hq cx hP hD hS hl
  obtain ⟨⟨hx, hb, hml, hown, hts⟩, hr, hlocks, hK, hA, hX⟩ := id cx
  have hl : lv_has ls 3 [(0, .ref a_o), (1, .int v1), (2, .int v2)] := hl
  have hj33 : ∀ (o_status_j33 : Int32) (o_firstCorner_j33 : Int32) (o_cameBy_j33 : Nat → Int32) (o_cameThen_j33 : Nat → Int32) (H : Heap) (locs : List Loc) (ls : Array Slot), X12_game_j33 F o_status_j33 o_firstCorner_j33 o_at o_cameBy_j33 o_cameThen_j33 = some u → va_P E.1 vwCl (wd_X12_game E a_o a_o_at a_o_names a_o_sort a_o_trayMany a_o_trays a_o_tape a_o_text a_o_opened a_o_farBy a_o_attendsBy a_o_coveredBy a_o_cameBy a_o_cameThen a_o_fallsBy a_o_loops a_o_ran a_o_told1 o_status_j33 o_top o_bottom o_taped o_size o_token o_from o_end o_value o_faultKind o_faultPlace o_faults o_seen o_toldParts o_depth o_counted o_becameThen o_firstCorner_j33 o_drawn o_ranSteps o_isTold o_marks o_at o_cameBy_j33 o_cameThen_j33) H → va_D A (wd_X12_game E a_o a_o_at a_o_names a_o_sort a_o_trayMany a_o_trays a_o_tape a_o_text a_o_opened a_o_farBy a_o_attendsBy a_o_coveredBy a_o_cameBy a_o_cameThen a_o_fallsBy a_o_loops a_o_ran a_o_told1 o_status_j33 o_top o_bottom o_taped o_size o_token o_from o_end o_value o_faultKind o_faultPlace o_faults o_seen o_toldParts o_depth o_counted o_becameThen o_firstCorner_j33 o_drawn o_ranSteps o_isTold o_marks o_at o_cameBy_j33 o_cameThen_j33) → va_S A s.heap H locs → lv_has ls 3 [(0, .ref a_o)] → W p l e (rmd 6) s m aa below meth cd H locs 0 0 QQ (F0 m 33 ls []) := by
    intro o_status_j33 o_firstCorner_j33 o_cameBy_j33 o_cameThen_j33 H locs ls hf hP hD hS hl
    unfold X12_game_j33 at hf
    refine lv_aload_n hx hb dX12_game_33 rfl (lv_at hl 0 rfl) ?_
    refine lv_iconst (v := 1) hx hb dX12_game_34 (by decide) ?_
    obtain ⟨u35, hu35, hf⟩ := bd hf
    refine callVI (wn := (wd_X12_game E a_o a_o_at a_o_names a_o_sort a_o_trayMany a_o_trays a_o_tape a_o_text a_o_opened a_o_farBy a_o_attendsBy a_o_coveredBy a_o_cameBy a_o_cameThen a_o_fallsBy a_o_loops a_o_ran a_o_told1 u35.2 o_top o_bottom o_taped o_size o_token o_from o_end o_value o_faultKind o_faultPlace o_faults o_seen o_toldParts o_depth o_counted o_becameThen o_firstCorner_j33 o_drawn o_ranSteps o_isTold o_marks o_at o_cameBy_j33 o_cameThen_j33)) (n1 := 4) (ct_X12_refuse l E a_o a_o_at a_o_names a_o_sort a_o_trayMany a_o_trays a_o_tape a_o_text a_o_opened a_o_farBy a_o_attendsBy a_o_coveredBy a_o_cameBy a_o_cameThen a_o_fallsBy a_o_loops a_o_ran a_o_told1 o_status_j33 o_top o_bottom o_taped o_size o_token o_from o_end o_value o_faultKind o_faultPlace o_faults o_seen o_toldParts o_depth o_counted o_becameThen o_firstCorner_j33 o_drawn o_ranSteps o_isTold o_marks (1 : Int32) u35 hu35) [0] cal_X12_refuse cav_X12_refuse lk_X12_85 cx hP hD hS hl dX12_game_35 rfl rfl rfl rfl (Nat.le_of_ble_eq_true rfl) ⟨Nat.le_of_ble_eq_true rfl, Nat.le_of_ble_eq_true rfl⟩ rfl (by decide +kernel) rfl [some 0, none, none, none] rfl (by decide +kernel) rfl (fun H locs hP hD hS => ?_)
    obtain rfl := Option.some.inj hf
    subst hq
    exact retI cx hP hD hS dX12_game_38
  unfold X12_game at hf
  refine lv_aload_n hx hb dX12_game_0 rfl (lv_at hl 0 rfl) ?_
  refine lv_iload_n hx hb dX12_game_1 rfl (lv_at hl 1 rfl) ?_
  obtain ⟨u2, hu2, hf⟩ := bd hf
  refine keepVI (ct_X12_isCorner l E a_o a_o_at a_o_names a_o_sort a_o_trayMany a_o_trays a_o_tape a_o_text a_o_opened a_o_farBy a_o_attendsBy a_o_coveredBy a_o_cameBy a_o_cameThen a_o_fallsBy a_o_loops a_o_ran a_o_told1 o_status o_top o_bottom o_taped o_size o_token o_from o_end o_value o_faultKind o_faultPlace o_faults o_seen o_toldParts o_depth o_counted o_becameThen o_firstCorner o_drawn o_ranSteps o_isTold o_marks o_at v1 u2 hu2) [0, 1] cal_X12_isCorner cav_X12_isCorner lk_X12_311 cx hP hD hS hl dX12_game_2 rfl rfl rfl rfl (Nat.le_of_ble_eq_true rfl) ⟨Nat.le_of_ble_eq_true rfl, Nat.le_of_ble_eq_true rfl⟩ rfl (by decide) (fun H locs hP hS => ?_)
  refine lv_if_eq (tgt := 33) hx hb dX12_game_5 (by decide) (fun hc => ?_) (fun hc => ?_)
  · have hf := it_t hc hf
    exact hj33 _ _ _ _ _ _ _ hf hP hD hS (lv_sub hl [0] rfl)
  · have hf := it_f hc hf
    refine lv_iload_n hx hb dX12_game_8 rfl (lv_at hl 2 rfl) ?_
    refine lv_i2l (v := (v2.toInt64)) hx hb dX12_game_9 rfl ?_
    refine lv_lconst (v := 0) hx hb dX12_game_10 (by decide) ?_
    refine lv_ldc2 (v := 3) hx hb hown (hts _ kl_X12_459) dX12_game_11 ?_
    obtain ⟨u14, hu14, hf⟩ := bd hf
    refine keepSI (ct_X12_isFrom l E (v2.toInt64) (0 : Int64) (3 : Int64) u14 hu14) [] cal_X12_isFrom sta_X12_isFrom lk_X12_359 cx hP hD hS hl dX12_game_14 rfl rfl (Nat.le_of_ble_eq_true rfl) ⟨Nat.le_of_ble_eq_true rfl, Nat.le_of_ble_eq_true rfl⟩ rfl (by decide) (fun H locs hP hS => ?_)
    refine lv_if_eq (tgt := 33) hx hb dX12_game_17 (by decide) (fun hc => ?_) (fun hc => ?_)
    · have hf := it_t hc hf
      exact hj33 _ _ _ _ _ _ _ hf hP hD hS (lv_sub hl [0] rfl)
    · have hf := it_f hc hf
      refine lv_aload_n hx hb dX12_game_20 rfl (lv_at hl 0 rfl) ?_
      refine lv_aload_n hx hb dX12_game_21 rfl (lv_at hl 0 rfl) ?_
      refine lv_iload_n hx hb dX12_game_22 rfl (lv_at hl 1 rfl) ?_
      refine lv_iload_n hx hb dX12_game_23 rfl (lv_at hl 2 rfl) ?_
      obtain ⟨u24, hu24, hf⟩ := bd hf
      refine callVI (wn := (wd_X12_game E a_o a_o_at a_o_names a_o_sort a_o_trayMany a_o_trays a_o_tape a_o_text a_o_opened a_o_farBy a_o_attendsBy a_o_coveredBy a_o_cameBy a_o_cameThen a_o_fallsBy a_o_loops a_o_ran a_o_told1 o_status o_top o_bottom o_taped o_size o_token o_from o_end o_value o_faultKind o_faultPlace o_faults o_seen o_toldParts o_depth o_counted o_becameThen u24.2.1 o_drawn o_ranSteps o_isTold o_marks o_at u24.2.2.1 u24.2.2.2)) (n1 := 4) (ct_X12_playing l E F a_o a_o_at a_o_names a_o_sort a_o_trayMany a_o_trays a_o_tape a_o_text a_o_opened a_o_farBy a_o_attendsBy a_o_coveredBy a_o_cameBy a_o_cameThen a_o_fallsBy a_o_loops a_o_ran a_o_told1 o_status o_top o_bottom o_taped o_size o_token o_from o_end o_value o_faultKind o_faultPlace o_faults o_seen o_toldParts o_depth o_counted o_becameThen o_firstCorner o_drawn o_ranSteps o_isTold o_marks o_at o_cameBy o_cameThen v1 v2 u24 hu24) [0, 1, 2, 3] cal_X12_playing cav_X12_playing lk_X12_461 cx hP hD hS hl dX12_game_24 rfl rfl rfl rfl (Nat.le_of_ble_eq_true rfl) ⟨Nat.le_of_ble_eq_true rfl, Nat.le_of_ble_eq_true rfl⟩ rfl (by decide +kernel) rfl [some 0, some 1, some 2, some 3] rfl (by decide +kernel) rfl (fun H locs hP hD hS => ?_)
      obtain ⟨u27, hu27, hf⟩ := bd hf
      refine callVI (wn := (wd_X12_game E a_o a_o_at a_o_names a_o_sort a_o_trayMany a_o_trays a_o_tape a_o_text a_o_opened a_o_farBy a_o_attendsBy a_o_coveredBy a_o_cameBy a_o_cameThen a_o_fallsBy a_o_loops a_o_ran a_o_told1 u27.2 o_top o_bottom o_taped o_size o_token o_from o_end o_value o_faultKind o_faultPlace o_faults o_seen o_toldParts o_depth o_counted o_becameThen u24.2.1 o_drawn o_ranSteps o_isTold o_marks o_at u24.2.2.1 u24.2.2.2)) (n1 := 4) (ct_X12_gives l E a_o a_o_at a_o_names a_o_sort a_o_trayMany a_o_trays a_o_tape a_o_text a_o_opened a_o_farBy a_o_attendsBy a_o_coveredBy a_o_cameBy a_o_cameThen a_o_fallsBy a_o_loops a_o_ran a_o_told1 o_status o_top o_bottom o_taped o_size o_token o_from o_end o_value o_faultKind o_faultPlace o_faults o_seen o_toldParts o_depth o_counted o_becameThen u24.2.1 o_drawn o_ranSteps o_isTold o_marks u24.1 u27 hu27) [0] cal_X12_gives cav_X12_gives lk_X12_89 cx hP hD hS hl dX12_game_27 rfl rfl rfl rfl (Nat.le_of_ble_eq_true rfl) ⟨Nat.le_of_ble_eq_true rfl, Nat.le_of_ble_eq_true rfl⟩ rfl (by decide +kernel) rfl [some 0, none, none, none] rfl (by decide +kernel) rfl (fun H locs hP hD hS => ?_)
      refine lv_goto (tgt := 38) hx hb dX12_game_30 (by decide) ?_
      obtain rfl := Option.some.inj hf
      subst hq
      exact retI cx hP hD hS dX12_game_38
def X12_moveOf_j20 (F : Nat) (o_status : Int32) (o_firstCorner : Int32) (o_at : Nat → Int32) (o_cameBy : Nat → Int32) (o_cameThen : Nat → Int32) : Option (Int32 × Int32 × Int32 × (Nat → Int32) × (Nat → Int32)) :=
  (X12_refuse o_status (1 : Int32)).bind fun u22 =>
  some (u22.1, u22.2, o_firstCorner, o_cameBy, o_cameThen)
def X12_moveOf (F : Nat) (o_status : Int32) (o_firstCorner : Int32) (o_at : Nat → Int32) (o_cameBy : Nat → Int32) (o_cameThen : Nat → Int32) (v1 : Int32) (v2 : Int32) : Option (Int32 × Int32 × Int32 × (Nat → Int32) × (Nat → Int32)) :=
  (X12_isCorner o_at v1).bind fun u2 =>
  if u2 = 0 then
  X12_moveOf_j20 F o_status o_firstCorner o_at o_cameBy o_cameThen
  else
  (X12_isFrom (v2.toInt64) (1 : Int64) (3 : Int64)).bind fun u14 =>
  if u14 = 0 then
  X12_moveOf_j20 F o_status o_firstCorner o_at o_cameBy o_cameThen
  else
  (X12_playing F o_firstCorner o_at o_cameBy o_cameThen v1 v2).bind fun u29 =>
  (X12_gives o_status u29.2.1).bind fun u38 =>
  some (u38.1, u38.2, u29.2.1, u29.2.2.1, u29.2.2.2)
abbrev wd_X12_moveOf (E : vE) (a_o a_o_at a_o_names a_o_sort a_o_trayMany a_o_trays a_o_tape a_o_text a_o_opened a_o_farBy a_o_attendsBy a_o_coveredBy a_o_cameBy a_o_cameThen a_o_fallsBy a_o_loops a_o_ran a_o_told1 : Nat) (o_status : Int32) (o_top : Int64) (o_bottom : Int64) (o_taped : Int32) (o_size : Int32) (o_token : Int32) (o_from : Int32) (o_end : Int32) (o_value : Int32) (o_faultKind : Int32) (o_faultPlace : Int32) (o_faults : Int32) (o_seen : Int32) (o_toldParts : Int32) (o_depth : Int32) (o_counted : Int32) (o_becameThen : Int32) (o_firstCorner : Int32) (o_drawn : Int32) (o_ranSteps : Int32) (o_isTold : Int32) (o_marks : Int32) (o_at : Nat → Int32) (o_cameBy : Nat → Int32) (o_cameThen : Nat → Int32) : va_W := [(a_o, .inr (12, [.ref a_o_at, .ref a_o_names, .int o_status, .long o_top, .long o_bottom, .ref a_o_sort, .ref a_o_trayMany, .ref a_o_trays, .ref a_o_tape, .ref a_o_text, .int o_taped, .int o_size, .int o_token, .int o_from, .int o_end, .int o_value, .int o_faultKind, .int o_faultPlace, .int o_faults, .int o_seen, .int o_toldParts, .ref a_o_opened, .int o_depth, .int o_counted, .ref a_o_farBy, .int o_becameThen, .ref a_o_attendsBy, .ref a_o_coveredBy, .ref a_o_cameBy, .ref a_o_cameThen, .int o_firstCorner, .ref a_o_fallsBy, .int o_drawn, .int o_ranSteps, .ref a_o_loops, .ref a_o_ran, .ref a_o_told1, .int o_isTold, .int o_marks])), (a_o_at, .inl (E.2.1, 3097, .inl o_at)), (a_o_cameBy, .inl (E.2.1, 2048, .inl o_cameBy)), (a_o_cameThen, .inl (E.2.1, 2048, .inl o_cameThen))]
set_option maxHeartbeats 4000000 in
set_option maxRecDepth 100000 in
theorem ct_X12_moveOf (l : Launch) (E : vE) (F : Nat) (a_o a_o_at a_o_names a_o_sort a_o_trayMany a_o_trays a_o_tape a_o_text a_o_opened a_o_farBy a_o_attendsBy a_o_coveredBy a_o_cameBy a_o_cameThen a_o_fallsBy a_o_loops a_o_ran a_o_told1 : Nat) (o_status : Int32) (o_top : Int64) (o_bottom : Int64) (o_taped : Int32) (o_size : Int32) (o_token : Int32) (o_from : Int32) (o_end : Int32) (o_value : Int32) (o_faultKind : Int32) (o_faultPlace : Int32) (o_faults : Int32) (o_seen : Int32) (o_toldParts : Int32) (o_depth : Int32) (o_counted : Int32) (o_becameThen : Int32) (o_firstCorner : Int32) (o_drawn : Int32) (o_ranSteps : Int32) (o_isTold : Int32) (o_marks : Int32) (o_at : Nat → Int32) (o_cameBy : Nat → Int32) (o_cameThen : Nat → Int32) (v1 : Int32) (v2 : Int32) (u : Int32 × Int32 × Int32 × (Nat → Int32) × (Nat → Int32)) (hf : X12_moveOf F o_status o_firstCorner o_at o_cameBy o_cameThen v1 v2 = some u) :
    CtI l yX12_moveOf cX12_moveOf 3 (some .int) 6 E [.ref a_o, .int v1, .int v2] (wd_X12_moveOf E a_o a_o_at a_o_names a_o_sort a_o_trayMany a_o_trays a_o_tape a_o_text a_o_opened a_o_farBy a_o_attendsBy a_o_coveredBy a_o_cameBy a_o_cameThen a_o_fallsBy a_o_loops a_o_ran a_o_told1 o_status o_top o_bottom o_taped o_size o_token o_from o_end o_value o_faultKind o_faultPlace o_faults o_seen o_toldParts o_depth o_counted o_becameThen o_firstCorner o_drawn o_ranSteps o_isTold o_marks o_at o_cameBy o_cameThen) (wd_X12_moveOf E a_o a_o_at a_o_names a_o_sort a_o_trayMany a_o_trays a_o_tape a_o_text a_o_opened a_o_farBy a_o_attendsBy a_o_coveredBy a_o_cameBy a_o_cameThen a_o_fallsBy a_o_loops a_o_ran a_o_told1 u.2.1 o_top o_bottom o_taped o_size o_token o_from o_end o_value o_faultKind o_faultPlace o_faults o_seen o_toldParts o_depth o_counted o_becameThen u.2.2.1 o_drawn o_ranSteps o_isTold o_marks o_at u.2.2.2.1 u.2.2.2.2) u.1 := by
  refine ctI (by decide) (Nat.le_of_ble_eq_true rfl) ?_
  intro p e s m below meth cd A ls aa QQ hq cx hP hD hS hl
  obtain ⟨⟨hx, hb, hml, hown, hts⟩, hr, hlocks, hK, hA, hX⟩ := id cx
  have hl : lv_has ls 3 [(0, .ref a_o), (1, .int v1), (2, .int v2)] := hl
  have hj20 : ∀ (o_status_j20 : Int32) (o_firstCorner_j20 : Int32) (o_cameBy_j20 : Nat → Int32) (o_cameThen_j20 : Nat → Int32) (H : Heap) (locs : List Loc) (ls : Array Slot), X12_moveOf_j20 F o_status_j20 o_firstCorner_j20 o_at o_cameBy_j20 o_cameThen_j20 = some u → va_P E.1 vwCl (wd_X12_moveOf E a_o a_o_at a_o_names a_o_sort a_o_trayMany a_o_trays a_o_tape a_o_text a_o_opened a_o_farBy a_o_attendsBy a_o_coveredBy a_o_cameBy a_o_cameThen a_o_fallsBy a_o_loops a_o_ran a_o_told1 o_status_j20 o_top o_bottom o_taped o_size o_token o_from o_end o_value o_faultKind o_faultPlace o_faults o_seen o_toldParts o_depth o_counted o_becameThen o_firstCorner_j20 o_drawn o_ranSteps o_isTold o_marks o_at o_cameBy_j20 o_cameThen_j20) H → va_D A (wd_X12_moveOf E a_o a_o_at a_o_names a_o_sort a_o_trayMany a_o_trays a_o_tape a_o_text a_o_opened a_o_farBy a_o_attendsBy a_o_coveredBy a_o_cameBy a_o_cameThen a_o_fallsBy a_o_loops a_o_ran a_o_told1 o_status_j20 o_top o_bottom o_taped o_size o_token o_from o_end o_value o_faultKind o_faultPlace o_faults o_seen o_toldParts o_depth o_counted o_becameThen o_firstCorner_j20 o_drawn o_ranSteps o_isTold o_marks o_at o_cameBy_j20 o_cameThen_j20) → va_S A s.heap H locs → lv_has ls 3 [(0, .ref a_o)] → W p l e (rmd 6) s m aa below meth cd H locs 0 0 QQ (F0 m 20 ls []) := by
    intro o_status_j20 o_firstCorner_j20 o_cameBy_j20 o_cameThen_j20 H locs ls hf hP hD hS hl
    unfold X12_moveOf_j20 at hf
    refine lv_aload_n hx hb dX12_moveOf_20 rfl (lv_at hl 0 rfl) ?_
    refine lv_iconst (v := 1) hx hb dX12_moveOf_21 (by decide) ?_
    obtain ⟨u22, hu22, hf⟩ := bd hf
    refine callVI (wn := (wd_X12_moveOf E a_o a_o_at a_o_names a_o_sort a_o_trayMany a_o_trays a_o_tape a_o_text a_o_opened a_o_farBy a_o_attendsBy a_o_coveredBy a_o_cameBy a_o_cameThen a_o_fallsBy a_o_loops a_o_ran a_o_told1 u22.2 o_top o_bottom o_taped o_size o_token o_from o_end o_value o_faultKind o_faultPlace o_faults o_seen o_toldParts o_depth o_counted o_becameThen o_firstCorner_j20 o_drawn o_ranSteps o_isTold o_marks o_at o_cameBy_j20 o_cameThen_j20)) (n1 := 4) (ct_X12_refuse l E a_o a_o_at a_o_names a_o_sort a_o_trayMany a_o_trays a_o_tape a_o_text a_o_opened a_o_farBy a_o_attendsBy a_o_coveredBy a_o_cameBy a_o_cameThen a_o_fallsBy a_o_loops a_o_ran a_o_told1 o_status_j20 o_top o_bottom o_taped o_size o_token o_from o_end o_value o_faultKind o_faultPlace o_faults o_seen o_toldParts o_depth o_counted o_becameThen o_firstCorner_j20 o_drawn o_ranSteps o_isTold o_marks (1 : Int32) u22 hu22) [0] cal_X12_refuse cav_X12_refuse lk_X12_85 cx hP hD hS hl dX12_moveOf_22 rfl rfl rfl rfl (Nat.le_of_ble_eq_true rfl) ⟨Nat.le_of_ble_eq_true rfl, Nat.le_of_ble_eq_true rfl⟩ rfl (by decide +kernel) rfl [some 0, none, none, none] rfl (by decide +kernel) rfl (fun H locs hP hD hS => ?_)
    obtain rfl := Option.some.inj hf
    subst hq
    exact retI cx hP hD hS dX12_moveOf_25
  unfold X12_moveOf at hf
  refine lv_aload_n hx hb dX12_moveOf_0 rfl (lv_at hl 0 rfl) ?_
  refine lv_iload_n hx hb dX12_moveOf_1 rfl (lv_at hl 1 rfl) ?_
  obtain ⟨u2, hu2, hf⟩ := bd hf
  refine keepVI (ct_X12_isCorner l E a_o a_o_at a_o_names a_o_sort a_o_trayMany a_o_trays a_o_tape a_o_text a_o_opened a_o_farBy a_o_attendsBy a_o_coveredBy a_o_cameBy a_o_cameThen a_o_fallsBy a_o_loops a_o_ran a_o_told1 o_status o_top o_bottom o_taped o_size o_token o_from o_end o_value o_faultKind o_faultPlace o_faults o_seen o_toldParts o_depth o_counted o_becameThen o_firstCorner o_drawn o_ranSteps o_isTold o_marks o_at v1 u2 hu2) [0, 1] cal_X12_isCorner cav_X12_isCorner lk_X12_311 cx hP hD hS hl dX12_moveOf_2 rfl rfl rfl rfl (Nat.le_of_ble_eq_true rfl) ⟨Nat.le_of_ble_eq_true rfl, Nat.le_of_ble_eq_true rfl⟩ rfl (by decide) (fun H locs hP hS => ?_)
  refine lv_if_eq (tgt := 20) hx hb dX12_moveOf_5 (by decide) (fun hc => ?_) (fun hc => ?_)
  · have hf := it_t hc hf
    exact hj20 _ _ _ _ _ _ _ hf hP hD hS (lv_sub hl [0] rfl)
  · have hf := it_f hc hf
    refine lv_iload_n hx hb dX12_moveOf_8 rfl (lv_at hl 2 rfl) ?_
    refine lv_i2l (v := (v2.toInt64)) hx hb dX12_moveOf_9 rfl ?_
    refine lv_lconst (v := 1) hx hb dX12_moveOf_10 (by decide) ?_
    refine lv_ldc2 (v := 3) hx hb hown (hts _ kl_X12_459) dX12_moveOf_11 ?_
    obtain ⟨u14, hu14, hf⟩ := bd hf
    refine keepSI (ct_X12_isFrom l E (v2.toInt64) (1 : Int64) (3 : Int64) u14 hu14) [] cal_X12_isFrom sta_X12_isFrom lk_X12_359 cx hP hD hS hl dX12_moveOf_14 rfl rfl (Nat.le_of_ble_eq_true rfl) ⟨Nat.le_of_ble_eq_true rfl, Nat.le_of_ble_eq_true rfl⟩ rfl (by decide) (fun H locs hP hS => ?_)
    refine lv_if_ne (tgt := 26) hx hb dX12_moveOf_17 (by decide) (fun hc => ?_) (fun hc => ?_)
    · have hf := it_f hc hf
      refine lv_aload_n hx hb dX12_moveOf_26 rfl (lv_at hl 0 rfl) ?_
      refine lv_iload_n hx hb dX12_moveOf_27 rfl (lv_at hl 1 rfl) ?_
      refine lv_iload_n hx hb dX12_moveOf_28 rfl (lv_at hl 2 rfl) ?_
      obtain ⟨u29, hu29, hf⟩ := bd hf
      refine callVI (wn := (wd_X12_moveOf E a_o a_o_at a_o_names a_o_sort a_o_trayMany a_o_trays a_o_tape a_o_text a_o_opened a_o_farBy a_o_attendsBy a_o_coveredBy a_o_cameBy a_o_cameThen a_o_fallsBy a_o_loops a_o_ran a_o_told1 o_status o_top o_bottom o_taped o_size o_token o_from o_end o_value o_faultKind o_faultPlace o_faults o_seen o_toldParts o_depth o_counted o_becameThen u29.2.1 o_drawn o_ranSteps o_isTold o_marks o_at u29.2.2.1 u29.2.2.2)) (n1 := 4) (ct_X12_playing l E F a_o a_o_at a_o_names a_o_sort a_o_trayMany a_o_trays a_o_tape a_o_text a_o_opened a_o_farBy a_o_attendsBy a_o_coveredBy a_o_cameBy a_o_cameThen a_o_fallsBy a_o_loops a_o_ran a_o_told1 o_status o_top o_bottom o_taped o_size o_token o_from o_end o_value o_faultKind o_faultPlace o_faults o_seen o_toldParts o_depth o_counted o_becameThen o_firstCorner o_drawn o_ranSteps o_isTold o_marks o_at o_cameBy o_cameThen v1 v2 u29 hu29) [0, 1, 2, 3] cal_X12_playing cav_X12_playing lk_X12_461 cx hP hD hS hl dX12_moveOf_29 rfl rfl rfl rfl (Nat.le_of_ble_eq_true rfl) ⟨Nat.le_of_ble_eq_true rfl, Nat.le_of_ble_eq_true rfl⟩ rfl (by decide +kernel) rfl [some 0, some 1, some 2, some 3] rfl (by decide +kernel) rfl (fun H locs hP hD hS => ?_)
      refine lv_pop hx hb dX12_moveOf_32 rfl ?_
      refine lv_aload_n hx hb dX12_moveOf_33 rfl (lv_at hl 0 rfl) ?_
      refine lv_aload_n hx hb dX12_moveOf_34 rfl (lv_at hl 0 rfl) ?_
      refine va_get (D := E.1) (ci := 12) (v := .int u29.2.1) (C := RX12) (T := TX12) (N := 39) hx hb hts inX12 hown hK hP 0 rfl rfl 30 (by decide) (hts _ fl_X12_453) (fun _ h9 => h9) rfl dX12_moveOf_35 ?_
      obtain ⟨u38, hu38, hf⟩ := bd hf
      refine callVI (wn := (wd_X12_moveOf E a_o a_o_at a_o_names a_o_sort a_o_trayMany a_o_trays a_o_tape a_o_text a_o_opened a_o_farBy a_o_attendsBy a_o_coveredBy a_o_cameBy a_o_cameThen a_o_fallsBy a_o_loops a_o_ran a_o_told1 u38.2 o_top o_bottom o_taped o_size o_token o_from o_end o_value o_faultKind o_faultPlace o_faults o_seen o_toldParts o_depth o_counted o_becameThen u29.2.1 o_drawn o_ranSteps o_isTold o_marks o_at u29.2.2.1 u29.2.2.2)) (n1 := 4) (ct_X12_gives l E a_o a_o_at a_o_names a_o_sort a_o_trayMany a_o_trays a_o_tape a_o_text a_o_opened a_o_farBy a_o_attendsBy a_o_coveredBy a_o_cameBy a_o_cameThen a_o_fallsBy a_o_loops a_o_ran a_o_told1 o_status o_top o_bottom o_taped o_size o_token o_from o_end o_value o_faultKind o_faultPlace o_faults o_seen o_toldParts o_depth o_counted o_becameThen u29.2.1 o_drawn o_ranSteps o_isTold o_marks u29.2.1 u38 hu38) [0] cal_X12_gives cav_X12_gives lk_X12_89 cx hP hD hS hl dX12_moveOf_38 rfl rfl rfl rfl (Nat.le_of_ble_eq_true rfl) ⟨Nat.le_of_ble_eq_true rfl, Nat.le_of_ble_eq_true rfl⟩ rfl (by decide +kernel) rfl [some 0, none, none, none] rfl (by decide +kernel) rfl (fun H locs hP hD hS => ?_)
      obtain rfl := Option.some.inj hf
      subst hq
      exact retI cx hP hD hS dX12_moveOf_41
    · have hf := it_t hc hf
      exact hj20 _ _ _ _ _ _ _ hf hP hD hS (lv_sub hl [0] rfl)
def X12_falls_j61 (F : Nat) (o_status : Int32) (o_top : Int64) (o_bottom : Int64) (o_at : Nat → Int32) (o_fallsBy : Nat → Int64) (v1 : Int32) (v2 : Int32) (v3 : Int64) (v5 : Int32) (k0 : Int64) (k1 : Int32) : Option ((Int32 × (Nat → Int64)) ⊕ (((Nat → Int64)))) :=
  if ix k1 8 then
  some (.inl ((v5 + 1), (jputL o_fallsBy k1 k0)))
  else none
def X12_falls_b38 (F : Nat) (o_status : Int32) (o_top : Int64) (o_bottom : Int64) (o_at : Nat → Int32) (v1 : Int32) (v2 : Int32) (v3 : Int64) (st38 : Int32 × (Nat → Int64)) : Option ((Int32 × (Nat → Int64)) ⊕ (((Nat → Int64)))) :=
  if (8 : Int32) ≤ st38.1 then
  some (.inr st38.2)
  else
  if st38.1 = 0 then
  X12_falls_j61 F o_status o_top o_bottom o_at st38.2 v1 v2 v3 st38.1 1 st38.1
  else
  X12_falls_j61 F o_status o_top o_bottom o_at st38.2 v1 v2 v3 st38.1 0 st38.1
def X12_falls_j138 (F : Nat) (o_status : Int32) (o_top : Int64) (o_bottom : Int64) (o_at : Nat → Int32) (o_fallsBy : Nat → Int64) (v1 : Int32) (v2 : Int32) (v3 : Int64) (v5 : Int32) (v6 : Int32) (k0 : Int64) (k1 : Int64) (k2 : Int32) : Option ((Int32 × (Nat → Int64)) ⊕ (((Nat → Int64)))) :=
  if ix k2 8 then
  some (.inl ((v6 + (-1)), (jputL o_fallsBy k2 (k1 + k0))))
  else none
def X12_falls_b81 (F : Nat) (o_status : Int32) (o_top : Int64) (o_bottom : Int64) (o_at : Nat → Int32) (v1 : Int32) (v2 : Int32) (v3 : Int64) (v5 : Int32) (st81 : Int32 × (Nat → Int64)) : Option ((Int32 × (Nat → Int64)) ⊕ (((Nat → Int64)))) :=
  if st81.1 < 0 then
  some (.inr st81.2)
  else
  if ix st81.1 8 then
  if ix 7 3097 then
  if st81.1 = 0 then
  X12_falls_j138 F o_status o_top o_bottom o_at st81.2 v1 v2 v3 v5 st81.1 0 ((jat st81.2 st81.1) * (16 - (jat o_at 7)).toInt64) st81.1
  else
  if ix (st81.1 - 1) 8 then
  if ix 7 3097 then
  X12_falls_j138 F o_status o_top o_bottom o_at st81.2 v1 v2 v3 v5 st81.1 ((jat st81.2 (st81.1 - 1)) * (jat o_at 7).toInt64) ((jat st81.2 st81.1) * (16 - (jat o_at 7)).toInt64) st81.1
  else none
  else none
  else none
  else none
def X12_falls_b71 (F : Nat) (o_status : Int32) (o_top : Int64) (o_bottom : Int64) (o_at : Nat → Int32) (v1 : Int32) (v2 : Int32) (st71 : Int64 × Int32 × (Nat → Int64)) : Option ((Int64 × Int32 × (Nat → Int64)) ⊕ ((Int64 × (Nat → Int64)))) :=
  if v2 ≤ st71.2.1 then
  some (.inr (st71.1, st71.2.2))
  else
  (iter (X12_falls_b81 F o_status o_top o_bottom o_at v1 v2 st71.1 st71.2.1) F (7, st71.2.2)).bind (fun (e81 : (Nat → Int64)) =>
    some (.inl ((st71.1 * 16), (st71.2.1 + 1), e81)))
def X12_falls_b164 (F : Nat) (o_status : Int32) (o_top : Int64) (o_bottom : Int64) (o_at : Nat → Int32) (o_fallsBy : Nat → Int64) (v3 : Int64) (st164 : Int64 × Int32) : Option ((Int64 × Int32) ⊕ ((Int64))) :=
  if (8 : Int32) ≤ st164.2 then
  some (.inr st164.1)
  else
  if ix st164.2 8 then
  some (.inl ((st164.1 + (jat o_fallsBy st164.2)), (st164.2 + 1)))
  else none
def X12_falls (F : Nat) (o_status : Int32) (o_top : Int64) (o_bottom : Int64) (o_at : Nat → Int32) (o_fallsBy : Nat → Int64) (v1 : Int32) : Option (Int32 × Int32 × Int64 × Int64 × (Nat → Int64)) :=
  (X12_isFrom (v1.toInt64) (0 : Int64) (7 : Int64)).bind fun u6 =>
  if u6 = 0 then
  (X12_is o_status (1 : Int32)).bind fun u14 =>
  if isZ u14.1 then some (u14.1, u14.2, o_top, o_bottom, o_fallsBy) else none
  else
  if ix 2 3097 then
  (X12_onRoads F o_at).bind fun u25 =>
  (X12_bits F u25).bind fun u28 =>
  (iter (X12_falls_b38 F o_status o_top o_bottom o_at v1 ((jat o_at 2) - u28) 1) F (0, o_fallsBy)).bind (fun (e38 : (Nat → Int64)) =>
    (iter (X12_falls_b71 F o_status o_top o_bottom o_at v1 ((jat o_at 2) - u28)) F (1, 0, e38)).bind (fun (e71 : Int64 × (Nat → Int64)) =>
    (iter (X12_falls_b164 F o_status o_top o_bottom o_at e71.2 e71.1) F (0, v1)).bind (fun (e164 : Int64) =>
    (X12_tellsBy F o_status o_top o_bottom e164 e71.1).bind fun u193 =>
  if isZ u193.1 then some (u193.1, u193.2.1, u193.2.2.1, u193.2.2.2, e71.2) else none)))
  else none
abbrev wd_X12_falls (E : vE) (a_o a_o_at a_o_names a_o_sort a_o_trayMany a_o_trays a_o_tape a_o_text a_o_opened a_o_farBy a_o_attendsBy a_o_coveredBy a_o_cameBy a_o_cameThen a_o_fallsBy a_o_loops a_o_ran a_o_told1 : Nat) (o_status : Int32) (o_top : Int64) (o_bottom : Int64) (o_taped : Int32) (o_size : Int32) (o_token : Int32) (o_from : Int32) (o_end : Int32) (o_value : Int32) (o_faultKind : Int32) (o_faultPlace : Int32) (o_faults : Int32) (o_seen : Int32) (o_toldParts : Int32) (o_depth : Int32) (o_counted : Int32) (o_becameThen : Int32) (o_firstCorner : Int32) (o_drawn : Int32) (o_ranSteps : Int32) (o_isTold : Int32) (o_marks : Int32) (o_at : Nat → Int32) (o_fallsBy : Nat → Int64) : va_W := [(a_o, .inr (12, [.ref a_o_at, .ref a_o_names, .int o_status, .long o_top, .long o_bottom, .ref a_o_sort, .ref a_o_trayMany, .ref a_o_trays, .ref a_o_tape, .ref a_o_text, .int o_taped, .int o_size, .int o_token, .int o_from, .int o_end, .int o_value, .int o_faultKind, .int o_faultPlace, .int o_faults, .int o_seen, .int o_toldParts, .ref a_o_opened, .int o_depth, .int o_counted, .ref a_o_farBy, .int o_becameThen, .ref a_o_attendsBy, .ref a_o_coveredBy, .ref a_o_cameBy, .ref a_o_cameThen, .int o_firstCorner, .ref a_o_fallsBy, .int o_drawn, .int o_ranSteps, .ref a_o_loops, .ref a_o_ran, .ref a_o_told1, .int o_isTold, .int o_marks])), (a_o_at, .inl (E.2.1, 3097, .inl o_at)), (a_o_fallsBy, .inl (E.2.2.1, 8, .inr (.inl o_fallsBy)))]
set_option maxHeartbeats 4000000 in
set_option maxRecDepth 100000 in
theorem ct_X12_falls (l : Launch) (E : vE) (F : Nat) (a_o a_o_at a_o_names a_o_sort a_o_trayMany a_o_trays a_o_tape a_o_text a_o_opened a_o_farBy a_o_attendsBy a_o_coveredBy a_o_cameBy a_o_cameThen a_o_fallsBy a_o_loops a_o_ran a_o_told1 : Nat) (o_status : Int32) (o_top : Int64) (o_bottom : Int64) (o_taped : Int32) (o_size : Int32) (o_token : Int32) (o_from : Int32) (o_end : Int32) (o_value : Int32) (o_faultKind : Int32) (o_faultPlace : Int32) (o_faults : Int32) (o_seen : Int32) (o_toldParts : Int32) (o_depth : Int32) (o_counted : Int32) (o_becameThen : Int32) (o_firstCorner : Int32) (o_drawn : Int32) (o_ranSteps : Int32) (o_isTold : Int32) (o_marks : Int32) (o_at : Nat → Int32) (o_fallsBy : Nat → Int64) (v1 : Int32) (u : Int32 × Int32 × Int64 × Int64 × (Nat → Int64)) (hf : X12_falls F o_status o_top o_bottom o_at o_fallsBy v1 = some u) :
    CtI l yX12_falls cX12_falls 8 (some .boolean) 4 E [.ref a_o, .int v1] (wd_X12_falls E a_o a_o_at a_o_names a_o_sort a_o_trayMany a_o_trays a_o_tape a_o_text a_o_opened a_o_farBy a_o_attendsBy a_o_coveredBy a_o_cameBy a_o_cameThen a_o_fallsBy a_o_loops a_o_ran a_o_told1 o_status o_top o_bottom o_taped o_size o_token o_from o_end o_value o_faultKind o_faultPlace o_faults o_seen o_toldParts o_depth o_counted o_becameThen o_firstCorner o_drawn o_ranSteps o_isTold o_marks o_at o_fallsBy) (wd_X12_falls E a_o a_o_at a_o_names a_o_sort a_o_trayMany a_o_trays a_o_tape a_o_text a_o_opened a_o_farBy a_o_attendsBy a_o_coveredBy a_o_cameBy a_o_cameThen a_o_fallsBy a_o_loops a_o_ran a_o_told1 u.2.1 u.2.2.1 u.2.2.2.1 o_taped o_size o_token o_from o_end o_value o_faultKind o_faultPlace o_faults o_seen o_toldParts o_depth o_counted o_becameThen o_firstCorner o_drawn o_ranSteps o_isTold o_marks o_at u.2.2.2.2) u.1 := by
  refine ctI (by decide) (Nat.le_of_ble_eq_true rfl) ?_
  intro p e s m below meth cd A ls aa QQ hq cx hP hD hS hl
  obtain ⟨⟨hx, hb, hml, hown, hts⟩, hr, hlocks, hK, hA, hX⟩ := id cx
  have hl : lv_has ls 8 [(0, .ref a_o), (1, .int v1)] := hl
  unfold X12_falls at hf
  refine lv_iload_n hx hb dX12_falls_0 rfl (lv_at hl 1 rfl) ?_
  refine lv_i2l (v := (v1.toInt64)) hx hb dX12_falls_1 rfl ?_
  refine lv_lconst (v := 0) hx hb dX12_falls_2 (by decide) ?_
  refine lv_ldc2 (v := 7) hx hb hown (hts _ kl_X12_373) dX12_falls_3 ?_
  obtain ⟨u6, hu6, hf⟩ := bd hf
  refine keepSI (ct_X12_isFrom l E (v1.toInt64) (0 : Int64) (7 : Int64) u6 hu6) [] cal_X12_isFrom sta_X12_isFrom lk_X12_359 cx hP hD hS hl dX12_falls_6 rfl rfl (Nat.le_of_ble_eq_true rfl) ⟨Nat.le_of_ble_eq_true rfl, Nat.le_of_ble_eq_true rfl⟩ rfl (by decide) (fun H locs hP hS => ?_)
  refine lv_if_ne (tgt := 18) hx hb dX12_falls_9 (by decide) (fun hc => ?_) (fun hc => ?_)
  · have hf := it_f hc hf
    refine lv_aload_n hx hb dX12_falls_18 rfl (lv_at hl 0 rfl) ?_
    refine va_get (D := E.1) (ci := 12) (v := .ref a_o_at) (C := RX12) (T := TX12) (N := 39) hx hb hts inX12 hown hK hP 0 rfl rfl 0 (by decide) (hts _ fl_X12_7) (fun _ h9 => h9) rfl dX12_falls_19 ?_
    refine lv_iconst (v := 2) hx hb dX12_falls_22 (by decide) ?_
    obtain ⟨hi, hf⟩ := ck hf
    refine r_iald 1 cx hP rfl hi dX12_falls_23 ?_
    refine lv_aload_n hx hb dX12_falls_24 rfl (lv_at hl 0 rfl) ?_
    obtain ⟨u25, hu25, hf⟩ := bd hf
    refine keepVI (ct_X12_onRoads l E F a_o a_o_at a_o_names a_o_sort a_o_trayMany a_o_trays a_o_tape a_o_text a_o_opened a_o_farBy a_o_attendsBy a_o_coveredBy a_o_cameBy a_o_cameThen a_o_fallsBy a_o_loops a_o_ran a_o_told1 o_status o_top o_bottom o_taped o_size o_token o_from o_end o_value o_faultKind o_faultPlace o_faults o_seen o_toldParts o_depth o_counted o_becameThen o_firstCorner o_drawn o_ranSteps o_isTold o_marks o_at u25 hu25) [0, 1] cal_X12_onRoads cav_X12_onRoads lk_X12_287 cx hP hD hS hl dX12_falls_25 rfl rfl rfl rfl (Nat.le_of_ble_eq_true rfl) ⟨Nat.le_of_ble_eq_true rfl, Nat.le_of_ble_eq_true rfl⟩ rfl (by decide) (fun H locs hP hS => ?_)
    obtain ⟨u28, hu28, hf⟩ := bd hf
    refine keepSI (ct_X12_bits l E F u25 u28 hu28) [] cal_X12_bits sta_X12_bits lk_X12_302 cx hP hD hS hl dX12_falls_28 rfl rfl (Nat.le_of_ble_eq_true rfl) ⟨Nat.le_of_ble_eq_true rfl, Nat.le_of_ble_eq_true rfl⟩ rfl (by decide) (fun H locs hP hS => ?_)
    refine lv_isub hx hb dX12_falls_31 ?_
    refine lv_istore_n (lv' := [(2, .int ((jat o_at 2) - u28)), (0, .ref a_o), (1, .int v1)]) hx hb dX12_falls_32 rfl hl (by decide) rfl (fun ls hl => ?_)
    refine lv_lconst (v := 1) hx hb dX12_falls_33 (by decide) ?_
    refine lv_lstore_n (lv' := [(3, .long 1), (2, .int ((jat o_at 2) - u28)), (0, .ref a_o), (1, .int v1)]) hx hb dX12_falls_34 rfl hl (by decide) rfl (fun ls hl => ?_)
    refine lv_iconst (v := 0) hx hb dX12_falls_35 (by decide) ?_
    refine lv_istore (lv' := [(5, .int 0), (3, .long 1), (2, .int ((jat o_at 2) - u28)), (0, .ref a_o), (1, .int v1)]) hx hb dX12_falls_36 hl (by decide) rfl (fun ls hl => ?_)
    obtain ⟨e38, hit38, hf⟩ := bd hf
    refine iter_W (b := X12_falls_b38 F o_status o_top o_bottom o_at v1 ((jat o_at 2) - u28) 1) (P := fun st38 => ∀ (H : Heap) (locs : List Loc) (ls : Array Slot), va_P E.1 vwCl (wd_X12_falls E a_o a_o_at a_o_names a_o_sort a_o_trayMany a_o_trays a_o_tape a_o_text a_o_opened a_o_farBy a_o_attendsBy a_o_coveredBy a_o_cameBy a_o_cameThen a_o_fallsBy a_o_loops a_o_ran a_o_told1 o_status o_top o_bottom o_taped o_size o_token o_from o_end o_value o_faultKind o_faultPlace o_faults o_seen o_toldParts o_depth o_counted o_becameThen o_firstCorner o_drawn o_ranSteps o_isTold o_marks o_at st38.2) H → va_D A (wd_X12_falls E a_o a_o_at a_o_names a_o_sort a_o_trayMany a_o_trays a_o_tape a_o_text a_o_opened a_o_farBy a_o_attendsBy a_o_coveredBy a_o_cameBy a_o_cameThen a_o_fallsBy a_o_loops a_o_ran a_o_told1 o_status o_top o_bottom o_taped o_size o_token o_from o_end o_value o_faultKind o_faultPlace o_faults o_seen o_toldParts o_depth o_counted o_becameThen o_firstCorner o_drawn o_ranSteps o_isTold o_marks o_at st38.2) → va_S A s.heap H locs → lv_has ls 8 [(0, .ref a_o), (1, .int v1), (2, .int ((jat o_at 2) - u28)), (3, .long 1), (5, .int st38.1)] → W p l e (rmd 4) s m aa below meth cd H locs 0 0 QQ (F0 m 38 ls [])) (G := (fun (e38 : (Nat → Int64)) => ∀ (H : Heap) (locs : List Loc) (ls : Array Slot), va_P E.1 vwCl (wd_X12_falls E a_o a_o_at a_o_names a_o_sort a_o_trayMany a_o_trays a_o_tape a_o_text a_o_opened a_o_farBy a_o_attendsBy a_o_coveredBy a_o_cameBy a_o_cameThen a_o_fallsBy a_o_loops a_o_ran a_o_told1 o_status o_top o_bottom o_taped o_size o_token o_from o_end o_value o_faultKind o_faultPlace o_faults o_seen o_toldParts o_depth o_counted o_becameThen o_firstCorner o_drawn o_ranSteps o_isTold o_marks o_at e38) H → va_D A (wd_X12_falls E a_o a_o_at a_o_names a_o_sort a_o_trayMany a_o_trays a_o_tape a_o_text a_o_opened a_o_farBy a_o_attendsBy a_o_coveredBy a_o_cameBy a_o_cameThen a_o_fallsBy a_o_loops a_o_ran a_o_told1 o_status o_top o_bottom o_taped o_size o_token o_from o_end o_value o_faultKind o_faultPlace o_faults o_seen o_toldParts o_depth o_counted o_becameThen o_firstCorner o_drawn o_ranSteps o_isTold o_marks o_at e38) → va_S A s.heap H locs → lv_has ls 8 [(0, .ref a_o), (1, .int v1), (2, .int ((jat o_at 2) - u28)), (3, .long 1)] → W p l e (rmd 4) s m aa below meth cd H locs 0 0 QQ (F0 m 68 ls []))) ?_ F (0, o_fallsBy) e38 hit38 ?_ _ _ _ hP hD hS (lv_sub hl [3, 4, 2, 1, 0] rfl)
    · intro st38 r38 hf hk38 he38 H locs ls hP hD hS hl
      have hj61 : ∀ (v5_j61 : Int32) (o_fallsBy_j61 : Nat → Int64) (k0_j61 : Int64) (k1_j61 : Int32) (H : Heap) (locs : List Loc) (ls : Array Slot), X12_falls_j61 F o_status o_top o_bottom o_at o_fallsBy_j61 v1 ((jat o_at 2) - u28) 1 v5_j61 k0_j61 k1_j61 = some r38 → va_P E.1 vwCl (wd_X12_falls E a_o a_o_at a_o_names a_o_sort a_o_trayMany a_o_trays a_o_tape a_o_text a_o_opened a_o_farBy a_o_attendsBy a_o_coveredBy a_o_cameBy a_o_cameThen a_o_fallsBy a_o_loops a_o_ran a_o_told1 o_status o_top o_bottom o_taped o_size o_token o_from o_end o_value o_faultKind o_faultPlace o_faults o_seen o_toldParts o_depth o_counted o_becameThen o_firstCorner o_drawn o_ranSteps o_isTold o_marks o_at o_fallsBy_j61) H → va_D A (wd_X12_falls E a_o a_o_at a_o_names a_o_sort a_o_trayMany a_o_trays a_o_tape a_o_text a_o_opened a_o_farBy a_o_attendsBy a_o_coveredBy a_o_cameBy a_o_cameThen a_o_fallsBy a_o_loops a_o_ran a_o_told1 o_status o_top o_bottom o_taped o_size o_token o_from o_end o_value o_faultKind o_faultPlace o_faults o_seen o_toldParts o_depth o_counted o_becameThen o_firstCorner o_drawn o_ranSteps o_isTold o_marks o_at o_fallsBy_j61) → va_S A s.heap H locs → lv_has ls 8 [(0, .ref a_o), (1, .int v1), (2, .int ((jat o_at 2) - u28)), (3, .long 1), (5, .int v5_j61)] → W p l e (rmd 4) s m aa below meth cd H locs 0 0 QQ (F0 m 61 ls [.long k0_j61, .int k1_j61, .ref a_o_fallsBy]) := by
        intro v5_j61 o_fallsBy_j61 k0_j61 k1_j61 H locs ls hf hP hD hS hl
        unfold X12_falls_j61 at hf
        obtain ⟨hi, hf⟩ := ck hf
        refine r_last 2 cx hP hD hS rfl hi dX12_falls_61 (fun H locs hP hD hS => ?_)
        have hP : va_P E.1 vwCl (wd_X12_falls E a_o a_o_at a_o_names a_o_sort a_o_trayMany a_o_trays a_o_tape a_o_text a_o_opened a_o_farBy a_o_attendsBy a_o_coveredBy a_o_cameBy a_o_cameThen a_o_fallsBy a_o_loops a_o_ran a_o_told1 o_status o_top o_bottom o_taped o_size o_token o_from o_end o_value o_faultKind o_faultPlace o_faults o_seen o_toldParts o_depth o_counted o_becameThen o_firstCorner o_drawn o_ranSteps o_isTold o_marks o_at (jputL o_fallsBy_j61 k1_j61 k0_j61)) H := hP
        have hD : va_D A (wd_X12_falls E a_o a_o_at a_o_names a_o_sort a_o_trayMany a_o_trays a_o_tape a_o_text a_o_opened a_o_farBy a_o_attendsBy a_o_coveredBy a_o_cameBy a_o_cameThen a_o_fallsBy a_o_loops a_o_ran a_o_told1 o_status o_top o_bottom o_taped o_size o_token o_from o_end o_value o_faultKind o_faultPlace o_faults o_seen o_toldParts o_depth o_counted o_becameThen o_firstCorner o_drawn o_ranSteps o_isTold o_marks o_at (jputL o_fallsBy_j61 k1_j61 k0_j61)) := hD
        refine lv_iinc (v := (v5_j61 + 1)) (lv' := [(5, .int (v5_j61 + 1)), (0, .ref a_o), (1, .int v1), (2, .int ((jat o_at 2) - u28)), (3, .long 1)]) hx hb dX12_falls_62 hl (k := 4) rfl rfl (by decide) rfl (fun ls hl => ?_)
        refine lv_goto (tgt := 38) hx hb dX12_falls_65 (by decide) ?_
        exact hk38 _ (Option.some.inj hf).symm _ _ _ hP hD hS (lv_sub hl [1, 2, 3, 4, 0] rfl)
      unfold X12_falls_b38 at hf
      refine lv_iload hx hb dX12_falls_38 (lv_at hl 4 rfl) ?_
      refine lv_bipush (v := 8) hx hb dX12_falls_40 (by decide) ?_
      refine lv_icmp_ge (tgt := 68) hx hb dX12_falls_42 (by decide) (fun hc => ?_) (fun hc => ?_)
      · have hf := it_t hc hf
        exact he38 _ (Option.some.inj hf).symm _ _ _ hP hD hS (lv_sub hl [0, 1, 2, 3] rfl)
      · have hf := it_f hc hf
        refine lv_aload_n hx hb dX12_falls_45 rfl (lv_at hl 0 rfl) ?_
        refine va_get (D := E.1) (ci := 12) (v := .ref a_o_fallsBy) (C := RX12) (T := TX12) (N := 39) hx hb hts inX12 hown hK hP 0 rfl rfl 31 (by decide) (hts _ fl_X12_63) (fun _ h9 => h9) rfl dX12_falls_46 ?_
        refine lv_iload hx hb dX12_falls_49 (lv_at hl 4 rfl) ?_
        refine lv_iload hx hb dX12_falls_51 (lv_at hl 4 rfl) ?_
        refine lv_if_ne (tgt := 60) hx hb dX12_falls_53 (by decide) (fun hc => ?_) (fun hc => ?_)
        · have hf := it_f hc hf
          refine lv_lconst (v := 0) hx hb dX12_falls_60 (by decide) ?_
          exact hj61 _ _ _ _ _ _ _ hf hP hD hS (lv_sub hl [0, 1, 2, 3, 4] rfl)
        · have hf := it_t hc hf
          refine lv_lconst (v := 1) hx hb dX12_falls_56 (by decide) ?_
          refine lv_goto (tgt := 61) hx hb dX12_falls_57 (by decide) ?_
          exact hj61 _ _ _ _ _ _ _ hf hP hD hS (lv_sub hl [0, 1, 2, 3, 4] rfl)
    · refine fun H locs ls hP hD hS hl => ?_
      refine lv_iconst (v := 0) hx hb dX12_falls_68 (by decide) ?_
      refine lv_istore (lv' := [(5, .int 0), (0, .ref a_o), (1, .int v1), (2, .int ((jat o_at 2) - u28)), (3, .long 1)]) hx hb dX12_falls_69 hl (by decide) rfl (fun ls hl => ?_)
      obtain ⟨e71, hit71, hf⟩ := bd hf
      refine iter_W (b := X12_falls_b71 F o_status o_top o_bottom o_at v1 ((jat o_at 2) - u28)) (P := fun st71 => ∀ (H : Heap) (locs : List Loc) (ls : Array Slot), va_P E.1 vwCl (wd_X12_falls E a_o a_o_at a_o_names a_o_sort a_o_trayMany a_o_trays a_o_tape a_o_text a_o_opened a_o_farBy a_o_attendsBy a_o_coveredBy a_o_cameBy a_o_cameThen a_o_fallsBy a_o_loops a_o_ran a_o_told1 o_status o_top o_bottom o_taped o_size o_token o_from o_end o_value o_faultKind o_faultPlace o_faults o_seen o_toldParts o_depth o_counted o_becameThen o_firstCorner o_drawn o_ranSteps o_isTold o_marks o_at st71.2.2) H → va_D A (wd_X12_falls E a_o a_o_at a_o_names a_o_sort a_o_trayMany a_o_trays a_o_tape a_o_text a_o_opened a_o_farBy a_o_attendsBy a_o_coveredBy a_o_cameBy a_o_cameThen a_o_fallsBy a_o_loops a_o_ran a_o_told1 o_status o_top o_bottom o_taped o_size o_token o_from o_end o_value o_faultKind o_faultPlace o_faults o_seen o_toldParts o_depth o_counted o_becameThen o_firstCorner o_drawn o_ranSteps o_isTold o_marks o_at st71.2.2) → va_S A s.heap H locs → lv_has ls 8 [(0, .ref a_o), (1, .int v1), (2, .int ((jat o_at 2) - u28)), (3, .long st71.1), (5, .int st71.2.1)] → W p l e (rmd 4) s m aa below meth cd H locs 0 0 QQ (F0 m 71 ls [])) (G := (fun (e71 : Int64 × (Nat → Int64)) => ∀ (H : Heap) (locs : List Loc) (ls : Array Slot), va_P E.1 vwCl (wd_X12_falls E a_o a_o_at a_o_names a_o_sort a_o_trayMany a_o_trays a_o_tape a_o_text a_o_opened a_o_farBy a_o_attendsBy a_o_coveredBy a_o_cameBy a_o_cameThen a_o_fallsBy a_o_loops a_o_ran a_o_told1 o_status o_top o_bottom o_taped o_size o_token o_from o_end o_value o_faultKind o_faultPlace o_faults o_seen o_toldParts o_depth o_counted o_becameThen o_firstCorner o_drawn o_ranSteps o_isTold o_marks o_at e71.2) H → va_D A (wd_X12_falls E a_o a_o_at a_o_names a_o_sort a_o_trayMany a_o_trays a_o_tape a_o_text a_o_opened a_o_farBy a_o_attendsBy a_o_coveredBy a_o_cameBy a_o_cameThen a_o_fallsBy a_o_loops a_o_ran a_o_told1 o_status o_top o_bottom o_taped o_size o_token o_from o_end o_value o_faultKind o_faultPlace o_faults o_seen o_toldParts o_depth o_counted o_becameThen o_firstCorner o_drawn o_ranSteps o_isTold o_marks o_at e71.2) → va_S A s.heap H locs → lv_has ls 8 [(0, .ref a_o), (1, .int v1), (3, .long e71.1)] → W p l e (rmd 4) s m aa below meth cd H locs 0 0 QQ (F0 m 158 ls []))) ?_ F (1, 0, e38) e71 hit71 ?_ _ _ _ hP hD hS (lv_sub hl [1, 2, 3, 4, 0] rfl)
      · intro st71 r71 hf hk71 he71 H locs ls hP hD hS hl
        unfold X12_falls_b71 at hf
        refine lv_iload hx hb dX12_falls_71 (lv_at hl 4 rfl) ?_
        refine lv_iload_n hx hb dX12_falls_73 rfl (lv_at hl 2 rfl) ?_
        refine lv_icmp_ge (tgt := 158) hx hb dX12_falls_74 (by decide) (fun hc => ?_) (fun hc => ?_)
        · have hf := it_t hc hf
          exact he71 _ (Option.some.inj hf).symm _ _ _ hP hD hS (lv_sub hl [0, 1, 3] rfl)
        · have hf := it_f hc hf
          refine lv_bipush (v := 7) hx hb dX12_falls_77 (by decide) ?_
          refine lv_istore (lv' := [(6, .int 7), (0, .ref a_o), (1, .int v1), (2, .int ((jat o_at 2) - u28)), (3, .long st71.1), (5, .int st71.2.1)]) hx hb dX12_falls_79 hl (by decide) rfl (fun ls hl => ?_)
          obtain ⟨e81, hit81, hf⟩ := bd hf
          refine iter_W (b := X12_falls_b81 F o_status o_top o_bottom o_at v1 ((jat o_at 2) - u28) st71.1 st71.2.1) (P := fun st81 => ∀ (H : Heap) (locs : List Loc) (ls : Array Slot), va_P E.1 vwCl (wd_X12_falls E a_o a_o_at a_o_names a_o_sort a_o_trayMany a_o_trays a_o_tape a_o_text a_o_opened a_o_farBy a_o_attendsBy a_o_coveredBy a_o_cameBy a_o_cameThen a_o_fallsBy a_o_loops a_o_ran a_o_told1 o_status o_top o_bottom o_taped o_size o_token o_from o_end o_value o_faultKind o_faultPlace o_faults o_seen o_toldParts o_depth o_counted o_becameThen o_firstCorner o_drawn o_ranSteps o_isTold o_marks o_at st81.2) H → va_D A (wd_X12_falls E a_o a_o_at a_o_names a_o_sort a_o_trayMany a_o_trays a_o_tape a_o_text a_o_opened a_o_farBy a_o_attendsBy a_o_coveredBy a_o_cameBy a_o_cameThen a_o_fallsBy a_o_loops a_o_ran a_o_told1 o_status o_top o_bottom o_taped o_size o_token o_from o_end o_value o_faultKind o_faultPlace o_faults o_seen o_toldParts o_depth o_counted o_becameThen o_firstCorner o_drawn o_ranSteps o_isTold o_marks o_at st81.2) → va_S A s.heap H locs → lv_has ls 8 [(0, .ref a_o), (1, .int v1), (2, .int ((jat o_at 2) - u28)), (3, .long st71.1), (5, .int st71.2.1), (6, .int st81.1)] → W p l e (rmd 4) s m aa below meth cd H locs 0 0 QQ (F0 m 81 ls [])) (G := (fun (e81 : (Nat → Int64)) => ∀ (H : Heap) (locs : List Loc) (ls : Array Slot), va_P E.1 vwCl (wd_X12_falls E a_o a_o_at a_o_names a_o_sort a_o_trayMany a_o_trays a_o_tape a_o_text a_o_opened a_o_farBy a_o_attendsBy a_o_coveredBy a_o_cameBy a_o_cameThen a_o_fallsBy a_o_loops a_o_ran a_o_told1 o_status o_top o_bottom o_taped o_size o_token o_from o_end o_value o_faultKind o_faultPlace o_faults o_seen o_toldParts o_depth o_counted o_becameThen o_firstCorner o_drawn o_ranSteps o_isTold o_marks o_at e81) H → va_D A (wd_X12_falls E a_o a_o_at a_o_names a_o_sort a_o_trayMany a_o_trays a_o_tape a_o_text a_o_opened a_o_farBy a_o_attendsBy a_o_coveredBy a_o_cameBy a_o_cameThen a_o_fallsBy a_o_loops a_o_ran a_o_told1 o_status o_top o_bottom o_taped o_size o_token o_from o_end o_value o_faultKind o_faultPlace o_faults o_seen o_toldParts o_depth o_counted o_becameThen o_firstCorner o_drawn o_ranSteps o_isTold o_marks o_at e81) → va_S A s.heap H locs → lv_has ls 8 [(0, .ref a_o), (1, .int v1), (2, .int ((jat o_at 2) - u28)), (3, .long st71.1), (5, .int st71.2.1)] → W p l e (rmd 4) s m aa below meth cd H locs 0 0 QQ (F0 m 146 ls []))) ?_ F (7, st71.2.2) e81 hit81 ?_ _ _ _ hP hD hS (lv_sub hl [1, 2, 3, 4, 5, 0] rfl)
          · intro st81 r81 hf hk81 he81 H locs ls hP hD hS hl
            have hj138 : ∀ (v6_j138 : Int32) (o_fallsBy_j138 : Nat → Int64) (k0_j138 : Int64) (k1_j138 : Int64) (k2_j138 : Int32) (H : Heap) (locs : List Loc) (ls : Array Slot), X12_falls_j138 F o_status o_top o_bottom o_at o_fallsBy_j138 v1 ((jat o_at 2) - u28) st71.1 st71.2.1 v6_j138 k0_j138 k1_j138 k2_j138 = some r81 → va_P E.1 vwCl (wd_X12_falls E a_o a_o_at a_o_names a_o_sort a_o_trayMany a_o_trays a_o_tape a_o_text a_o_opened a_o_farBy a_o_attendsBy a_o_coveredBy a_o_cameBy a_o_cameThen a_o_fallsBy a_o_loops a_o_ran a_o_told1 o_status o_top o_bottom o_taped o_size o_token o_from o_end o_value o_faultKind o_faultPlace o_faults o_seen o_toldParts o_depth o_counted o_becameThen o_firstCorner o_drawn o_ranSteps o_isTold o_marks o_at o_fallsBy_j138) H → va_D A (wd_X12_falls E a_o a_o_at a_o_names a_o_sort a_o_trayMany a_o_trays a_o_tape a_o_text a_o_opened a_o_farBy a_o_attendsBy a_o_coveredBy a_o_cameBy a_o_cameThen a_o_fallsBy a_o_loops a_o_ran a_o_told1 o_status o_top o_bottom o_taped o_size o_token o_from o_end o_value o_faultKind o_faultPlace o_faults o_seen o_toldParts o_depth o_counted o_becameThen o_firstCorner o_drawn o_ranSteps o_isTold o_marks o_at o_fallsBy_j138) → va_S A s.heap H locs → lv_has ls 8 [(0, .ref a_o), (1, .int v1), (2, .int ((jat o_at 2) - u28)), (3, .long st71.1), (5, .int st71.2.1), (6, .int v6_j138)] → W p l e (rmd 4) s m aa below meth cd H locs 0 0 QQ (F0 m 138 ls [.long k0_j138, .long k1_j138, .int k2_j138, .ref a_o_fallsBy]) := by
              intro v6_j138 o_fallsBy_j138 k0_j138 k1_j138 k2_j138 H locs ls hf hP hD hS hl
              unfold X12_falls_j138 at hf
              refine lv_ladd hx hb dX12_falls_138 ?_
              obtain ⟨hi, hf⟩ := ck hf
              refine r_last 2 cx hP hD hS rfl hi dX12_falls_139 (fun H locs hP hD hS => ?_)
              have hP : va_P E.1 vwCl (wd_X12_falls E a_o a_o_at a_o_names a_o_sort a_o_trayMany a_o_trays a_o_tape a_o_text a_o_opened a_o_farBy a_o_attendsBy a_o_coveredBy a_o_cameBy a_o_cameThen a_o_fallsBy a_o_loops a_o_ran a_o_told1 o_status o_top o_bottom o_taped o_size o_token o_from o_end o_value o_faultKind o_faultPlace o_faults o_seen o_toldParts o_depth o_counted o_becameThen o_firstCorner o_drawn o_ranSteps o_isTold o_marks o_at (jputL o_fallsBy_j138 k2_j138 (k1_j138 + k0_j138))) H := hP
              have hD : va_D A (wd_X12_falls E a_o a_o_at a_o_names a_o_sort a_o_trayMany a_o_trays a_o_tape a_o_text a_o_opened a_o_farBy a_o_attendsBy a_o_coveredBy a_o_cameBy a_o_cameThen a_o_fallsBy a_o_loops a_o_ran a_o_told1 o_status o_top o_bottom o_taped o_size o_token o_from o_end o_value o_faultKind o_faultPlace o_faults o_seen o_toldParts o_depth o_counted o_becameThen o_firstCorner o_drawn o_ranSteps o_isTold o_marks o_at (jputL o_fallsBy_j138 k2_j138 (k1_j138 + k0_j138))) := hD
              refine lv_iinc (v := (v6_j138 + (-1))) (lv' := [(6, .int (v6_j138 + (-1))), (0, .ref a_o), (1, .int v1), (2, .int ((jat o_at 2) - u28)), (3, .long st71.1), (5, .int st71.2.1)]) hx hb dX12_falls_140 hl (k := 5) rfl rfl (by decide) rfl (fun ls hl => ?_)
              refine lv_goto (tgt := 81) hx hb dX12_falls_143 (by decide) ?_
              exact hk81 _ (Option.some.inj hf).symm _ _ _ hP hD hS (lv_sub hl [1, 2, 3, 4, 5, 0] rfl)
            unfold X12_falls_b81 at hf
            refine lv_iload hx hb dX12_falls_81 (lv_at hl 5 rfl) ?_
            refine lv_if_lt (tgt := 146) hx hb dX12_falls_83 (by decide) (fun hc => ?_) (fun hc => ?_)
            · have hf := it_t hc hf
              exact he81 _ (Option.some.inj hf).symm _ _ _ hP hD hS (lv_sub hl [0, 1, 2, 3, 4] rfl)
            · have hf := it_f hc hf
              refine lv_aload_n hx hb dX12_falls_86 rfl (lv_at hl 0 rfl) ?_
              refine va_get (D := E.1) (ci := 12) (v := .ref a_o_fallsBy) (C := RX12) (T := TX12) (N := 39) hx hb hts inX12 hown hK hP 0 rfl rfl 31 (by decide) (hts _ fl_X12_63) (fun _ h9 => h9) rfl dX12_falls_87 ?_
              refine lv_iload hx hb dX12_falls_90 (lv_at hl 5 rfl) ?_
              refine lv_aload_n hx hb dX12_falls_92 rfl (lv_at hl 0 rfl) ?_
              refine va_get (D := E.1) (ci := 12) (v := .ref a_o_fallsBy) (C := RX12) (T := TX12) (N := 39) hx hb hts inX12 hown hK hP 0 rfl rfl 31 (by decide) (hts _ fl_X12_63) (fun _ h9 => h9) rfl dX12_falls_93 ?_
              refine lv_iload hx hb dX12_falls_96 (lv_at hl 5 rfl) ?_
              obtain ⟨hi, hf⟩ := ck hf
              refine r_lald 2 cx hP rfl hi dX12_falls_98 ?_
              refine lv_bipush (v := 16) hx hb dX12_falls_99 (by decide) ?_
              refine lv_aload_n hx hb dX12_falls_101 rfl (lv_at hl 0 rfl) ?_
              refine va_get (D := E.1) (ci := 12) (v := .ref a_o_at) (C := RX12) (T := TX12) (N := 39) hx hb hts inX12 hown hK hP 0 rfl rfl 0 (by decide) (hts _ fl_X12_7) (fun _ h9 => h9) rfl dX12_falls_102 ?_
              refine lv_bipush (v := 7) hx hb dX12_falls_105 (by decide) ?_
              obtain ⟨hi, hf⟩ := ck hf
              refine r_iald 1 cx hP rfl hi dX12_falls_107 ?_
              refine lv_isub hx hb dX12_falls_108 ?_
              refine lv_i2l (v := (16 - (jat o_at 7)).toInt64) hx hb dX12_falls_109 rfl ?_
              refine lv_lmul hx hb dX12_falls_110 ?_
              refine lv_iload hx hb dX12_falls_111 (lv_at hl 5 rfl) ?_
              refine lv_if_ne (tgt := 120) hx hb dX12_falls_113 (by decide) (fun hc => ?_) (fun hc => ?_)
              · have hf := it_f hc hf
                refine lv_aload_n hx hb dX12_falls_120 rfl (lv_at hl 0 rfl) ?_
                refine va_get (D := E.1) (ci := 12) (v := .ref a_o_fallsBy) (C := RX12) (T := TX12) (N := 39) hx hb hts inX12 hown hK hP 0 rfl rfl 31 (by decide) (hts _ fl_X12_63) (fun _ h9 => h9) rfl dX12_falls_121 ?_
                refine lv_iload hx hb dX12_falls_124 (lv_at hl 5 rfl) ?_
                refine lv_iconst (v := 1) hx hb dX12_falls_126 (by decide) ?_
                refine lv_isub hx hb dX12_falls_127 ?_
                obtain ⟨hi, hf⟩ := ck hf
                refine r_lald 2 cx hP rfl hi dX12_falls_128 ?_
                refine lv_aload_n hx hb dX12_falls_129 rfl (lv_at hl 0 rfl) ?_
                refine va_get (D := E.1) (ci := 12) (v := .ref a_o_at) (C := RX12) (T := TX12) (N := 39) hx hb hts inX12 hown hK hP 0 rfl rfl 0 (by decide) (hts _ fl_X12_7) (fun _ h9 => h9) rfl dX12_falls_130 ?_
                refine lv_bipush (v := 7) hx hb dX12_falls_133 (by decide) ?_
                obtain ⟨hi, hf⟩ := ck hf
                refine r_iald 1 cx hP rfl hi dX12_falls_135 ?_
                refine lv_i2l (v := (jat o_at 7).toInt64) hx hb dX12_falls_136 rfl ?_
                refine lv_lmul hx hb dX12_falls_137 ?_
                exact hj138 _ _ _ _ _ _ _ _ hf hP hD hS (lv_sub hl [0, 1, 2, 3, 4, 5] rfl)
              · have hf := it_t hc hf
                refine lv_lconst (v := 0) hx hb dX12_falls_116 (by decide) ?_
                refine lv_goto (tgt := 138) hx hb dX12_falls_117 (by decide) ?_
                exact hj138 _ _ _ _ _ _ _ _ hf hP hD hS (lv_sub hl [0, 1, 2, 3, 4, 5] rfl)
          · refine fun H locs ls hP hD hS hl => ?_
            refine lv_lload_n hx hb dX12_falls_146 rfl (lv_at hl 3 rfl) ?_
            refine lv_ldc2 (v := 16) hx hb hown (hts _ kl_X12_377) dX12_falls_147 ?_
            refine lv_lmul hx hb dX12_falls_150 ?_
            refine lv_lstore_n (lv' := [(3, .long (st71.1 * 16)), (0, .ref a_o), (1, .int v1), (2, .int ((jat o_at 2) - u28)), (5, .int st71.2.1)]) hx hb dX12_falls_151 rfl hl (by decide) rfl (fun ls hl => ?_)
            refine lv_iinc (v := (st71.2.1 + 1)) (lv' := [(5, .int (st71.2.1 + 1)), (3, .long (st71.1 * 16)), (0, .ref a_o), (1, .int v1), (2, .int ((jat o_at 2) - u28))]) hx hb dX12_falls_152 hl (k := 4) rfl rfl (by decide) rfl (fun ls hl => ?_)
            refine lv_goto (tgt := 71) hx hb dX12_falls_155 (by decide) ?_
            exact hk71 _ (Option.some.inj hf).symm _ _ _ hP hD hS (lv_sub hl [2, 3, 4, 1, 0] rfl)
      · refine fun H locs ls hP hD hS hl => ?_
        refine lv_lconst (v := 0) hx hb dX12_falls_158 (by decide) ?_
        refine lv_lstore (lv' := [(5, .long 0), (0, .ref a_o), (1, .int v1), (3, .long e71.1)]) hx hb dX12_falls_159 hl (by decide) rfl (fun ls hl => ?_)
        refine lv_iload_n hx hb dX12_falls_161 rfl (lv_at hl 2 rfl) ?_
        refine lv_istore (lv' := [(7, .int v1), (5, .long 0), (0, .ref a_o), (1, .int v1), (3, .long e71.1)]) hx hb dX12_falls_162 hl (by decide) rfl (fun ls hl => ?_)
        obtain ⟨e164, hit164, hf⟩ := bd hf
        refine iter_W (b := X12_falls_b164 F o_status o_top o_bottom o_at e71.2 e71.1) (P := fun st164 => ∀ (H : Heap) (locs : List Loc) (ls : Array Slot), va_P E.1 vwCl (wd_X12_falls E a_o a_o_at a_o_names a_o_sort a_o_trayMany a_o_trays a_o_tape a_o_text a_o_opened a_o_farBy a_o_attendsBy a_o_coveredBy a_o_cameBy a_o_cameThen a_o_fallsBy a_o_loops a_o_ran a_o_told1 o_status o_top o_bottom o_taped o_size o_token o_from o_end o_value o_faultKind o_faultPlace o_faults o_seen o_toldParts o_depth o_counted o_becameThen o_firstCorner o_drawn o_ranSteps o_isTold o_marks o_at e71.2) H → va_D A (wd_X12_falls E a_o a_o_at a_o_names a_o_sort a_o_trayMany a_o_trays a_o_tape a_o_text a_o_opened a_o_farBy a_o_attendsBy a_o_coveredBy a_o_cameBy a_o_cameThen a_o_fallsBy a_o_loops a_o_ran a_o_told1 o_status o_top o_bottom o_taped o_size o_token o_from o_end o_value o_faultKind o_faultPlace o_faults o_seen o_toldParts o_depth o_counted o_becameThen o_firstCorner o_drawn o_ranSteps o_isTold o_marks o_at e71.2) → va_S A s.heap H locs → lv_has ls 8 [(0, .ref a_o), (3, .long e71.1), (5, .long st164.1), (7, .int st164.2)] → W p l e (rmd 4) s m aa below meth cd H locs 0 0 QQ (F0 m 164 ls [])) (G := (fun (e164 : Int64) => ∀ (H : Heap) (locs : List Loc) (ls : Array Slot), va_P E.1 vwCl (wd_X12_falls E a_o a_o_at a_o_names a_o_sort a_o_trayMany a_o_trays a_o_tape a_o_text a_o_opened a_o_farBy a_o_attendsBy a_o_coveredBy a_o_cameBy a_o_cameThen a_o_fallsBy a_o_loops a_o_ran a_o_told1 o_status o_top o_bottom o_taped o_size o_token o_from o_end o_value o_faultKind o_faultPlace o_faults o_seen o_toldParts o_depth o_counted o_becameThen o_firstCorner o_drawn o_ranSteps o_isTold o_marks o_at e71.2) H → va_D A (wd_X12_falls E a_o a_o_at a_o_names a_o_sort a_o_trayMany a_o_trays a_o_tape a_o_text a_o_opened a_o_farBy a_o_attendsBy a_o_coveredBy a_o_cameBy a_o_cameThen a_o_fallsBy a_o_loops a_o_ran a_o_told1 o_status o_top o_bottom o_taped o_size o_token o_from o_end o_value o_faultKind o_faultPlace o_faults o_seen o_toldParts o_depth o_counted o_becameThen o_firstCorner o_drawn o_ranSteps o_isTold o_marks o_at e71.2) → va_S A s.heap H locs → lv_has ls 8 [(0, .ref a_o), (3, .long e71.1), (5, .long e164)] → W p l e (rmd 4) s m aa below meth cd H locs 0 0 QQ (F0 m 189 ls []))) ?_ F (0, v1) e164 hit164 ?_ _ _ _ hP hD hS (lv_sub hl [2, 4, 1, 0] rfl)
        · intro st164 r164 hf hk164 he164 H locs ls hP hD hS hl
          unfold X12_falls_b164 at hf
          refine lv_iload hx hb dX12_falls_164 (lv_at hl 3 rfl) ?_
          refine lv_bipush (v := 8) hx hb dX12_falls_166 (by decide) ?_
          refine lv_icmp_ge (tgt := 189) hx hb dX12_falls_168 (by decide) (fun hc => ?_) (fun hc => ?_)
          · have hf := it_t hc hf
            exact he164 _ (Option.some.inj hf).symm _ _ _ hP hD hS (lv_sub hl [0, 1, 2] rfl)
          · have hf := it_f hc hf
            refine lv_lload hx hb dX12_falls_171 (lv_at hl 2 rfl) ?_
            refine lv_aload_n hx hb dX12_falls_173 rfl (lv_at hl 0 rfl) ?_
            refine va_get (D := E.1) (ci := 12) (v := .ref a_o_fallsBy) (C := RX12) (T := TX12) (N := 39) hx hb hts inX12 hown hK hP 0 rfl rfl 31 (by decide) (hts _ fl_X12_63) (fun _ h9 => h9) rfl dX12_falls_174 ?_
            refine lv_iload hx hb dX12_falls_177 (lv_at hl 3 rfl) ?_
            obtain ⟨hi, hf⟩ := ck hf
            refine r_lald 2 cx hP rfl hi dX12_falls_179 ?_
            refine lv_ladd hx hb dX12_falls_180 ?_
            refine lv_lstore (lv' := [(5, .long (st164.1 + (jat e71.2 st164.2))), (0, .ref a_o), (3, .long e71.1), (7, .int st164.2)]) hx hb dX12_falls_181 hl (by decide) rfl (fun ls hl => ?_)
            refine lv_iinc (v := (st164.2 + 1)) (lv' := [(7, .int (st164.2 + 1)), (5, .long (st164.1 + (jat e71.2 st164.2))), (0, .ref a_o), (3, .long e71.1)]) hx hb dX12_falls_183 hl (k := 3) rfl rfl (by decide) rfl (fun ls hl => ?_)
            refine lv_goto (tgt := 164) hx hb dX12_falls_186 (by decide) ?_
            exact hk164 _ (Option.some.inj hf).symm _ _ _ hP hD hS (lv_sub hl [2, 3, 1, 0] rfl)
        · refine fun H locs ls hP hD hS hl => ?_
          refine lv_aload_n hx hb dX12_falls_189 rfl (lv_at hl 0 rfl) ?_
          refine lv_lload hx hb dX12_falls_190 (lv_at hl 2 rfl) ?_
          refine lv_lload_n hx hb dX12_falls_192 rfl (lv_at hl 1 rfl) ?_
          obtain ⟨u193, hu193, hf⟩ := bd hf
          refine callVI (wn := (wd_X12_falls E a_o a_o_at a_o_names a_o_sort a_o_trayMany a_o_trays a_o_tape a_o_text a_o_opened a_o_farBy a_o_attendsBy a_o_coveredBy a_o_cameBy a_o_cameThen a_o_fallsBy a_o_loops a_o_ran a_o_told1 u193.2.1 u193.2.2.1 u193.2.2.2 o_taped o_size o_token o_from o_end o_value o_faultKind o_faultPlace o_faults o_seen o_toldParts o_depth o_counted o_becameThen o_firstCorner o_drawn o_ranSteps o_isTold o_marks o_at e71.2)) (n1 := 3) (ct_X12_tellsBy l E F a_o a_o_at a_o_names a_o_sort a_o_trayMany a_o_trays a_o_tape a_o_text a_o_opened a_o_farBy a_o_attendsBy a_o_coveredBy a_o_cameBy a_o_cameThen a_o_fallsBy a_o_loops a_o_ran a_o_told1 o_status o_top o_bottom o_taped o_size o_token o_from o_end o_value o_faultKind o_faultPlace o_faults o_seen o_toldParts o_depth o_counted o_becameThen o_firstCorner o_drawn o_ranSteps o_isTold o_marks e164 e71.1 u193 hu193) [0] cal_X12_tellsBy cav_X12_tellsBy lk_X12_464 cx hP hD hS hl dX12_falls_193 rfl rfl rfl rfl (Nat.le_of_ble_eq_true rfl) ⟨Nat.le_of_ble_eq_true rfl, Nat.le_of_ble_eq_true rfl⟩ rfl (by decide +kernel) rfl [some 0, none, none] rfl (by decide +kernel) rfl (fun H locs hP hD hS => ?_)
          obtain ⟨hz, hf⟩ := ck hf
          obtain rfl := Option.some.inj hf
          subst hq
          exact retZ cx hz hP hD hS dX12_falls_196
  · have hf := it_t hc hf
    refine lv_aload_n hx hb dX12_falls_12 rfl (lv_at hl 0 rfl) ?_
    refine lv_iconst (v := 1) hx hb dX12_falls_13 (by decide) ?_
    obtain ⟨u14, hu14, hf⟩ := bd hf
    refine callVI (wn := (wd_X12_falls E a_o a_o_at a_o_names a_o_sort a_o_trayMany a_o_trays a_o_tape a_o_text a_o_opened a_o_farBy a_o_attendsBy a_o_coveredBy a_o_cameBy a_o_cameThen a_o_fallsBy a_o_loops a_o_ran a_o_told1 u14.2 o_top o_bottom o_taped o_size o_token o_from o_end o_value o_faultKind o_faultPlace o_faults o_seen o_toldParts o_depth o_counted o_becameThen o_firstCorner o_drawn o_ranSteps o_isTold o_marks o_at o_fallsBy)) (n1 := 3) (ct_X12_is l E a_o a_o_at a_o_names a_o_sort a_o_trayMany a_o_trays a_o_tape a_o_text a_o_opened a_o_farBy a_o_attendsBy a_o_coveredBy a_o_cameBy a_o_cameThen a_o_fallsBy a_o_loops a_o_ran a_o_told1 o_status o_top o_bottom o_taped o_size o_token o_from o_end o_value o_faultKind o_faultPlace o_faults o_seen o_toldParts o_depth o_counted o_becameThen o_firstCorner o_drawn o_ranSteps o_isTold o_marks (1 : Int32) u14 hu14) [0] cal_X12_is cav_X12_is lk_X12_92 cx hP hD hS hl dX12_falls_14 rfl rfl rfl rfl (Nat.le_of_ble_eq_true rfl) ⟨Nat.le_of_ble_eq_true rfl, Nat.le_of_ble_eq_true rfl⟩ rfl (by decide +kernel) rfl [some 0, none, none] rfl (by decide +kernel) rfl (fun H locs hP hD hS => ?_)
    obtain ⟨hz, hf⟩ := ck hf
    obtain rfl := Option.some.inj hf
    subst hq
    exact retZ cx hz hP hD hS dX12_falls_17
def X12_copyStanding_b52 (F : Nat) (o_status : Int32) (o_at : Nat → Int32) (o_sort : Nat → Int32) (o_trayMany : Nat → Int32) (v1 : Int32) (st52 : Int32 × (Nat → Int64)) : Option ((Int32 × (Nat → Int64)) ⊕ (((Nat → Int64)))) :=
  if ix 0 3097 then
  if (jat o_at 0) ≤ st52.1 then
  some (.inr st52.2)
  else
  (X12_standingAt F o_at st52.1).bind fun u74 =>
  (X12_bits F u74).bind fun u77 =>
  if ix v1 4 then
  (X12_shrunk (u77.toInt64) (jat o_sort v1)).bind fun u87 =>
  if ix ((60 * v1) + st52.1) 240 then
  some (.inl ((st52.1 + 1), (jputL st52.2 ((60 * v1) + st52.1) u87)))
  else none
  else none
  else none
def X12_copyStanding (F : Nat) (o_status : Int32) (o_at : Nat → Int32) (o_sort : Nat → Int32) (o_trayMany : Nat → Int32) (o_trays : Nat → Int64) (v1 : Int32) : Option (Int32 × Int32 × (Nat → Int64)) :=
  (X12_isTray v1).bind fun u1 =>
  if u1 = 0 then
  (X12_refuse o_status (1 : Int32)).bind fun u9 =>
  some (u9.1, u9.2, o_trays)
  else
  if ix v1 4 then
  if (jat o_trayMany v1) = (-1) then
  (X12_refuse o_status (2 : Int32)).bind fun u25 =>
  some (u25.1, u25.2, o_trays)
  else
  if ix v1 4 then
  if ix 0 3097 then
  if (jat o_at 0) ≤ (jat o_trayMany v1) then
  (iter (X12_copyStanding_b52 F o_status o_at o_sort o_trayMany v1) F (0, o_trays)).bind (fun (e52 : (Nat → Int64)) =>
    if ix 0 3097 then
  (X12_gives o_status (jat o_at 0)).bind fun u104 =>
  some (u104.1, u104.2, e52)
  else none)
  else
  (X12_refuse o_status (3 : Int32)).bind fun u46 =>
  some (u46.1, u46.2, o_trays)
  else none
  else none
  else none
abbrev wd_X12_copyStanding (E : vE) (a_o a_o_at a_o_names a_o_sort a_o_trayMany a_o_trays a_o_tape a_o_text a_o_opened a_o_farBy a_o_attendsBy a_o_coveredBy a_o_cameBy a_o_cameThen a_o_fallsBy a_o_loops a_o_ran a_o_told1 : Nat) (o_status : Int32) (o_top : Int64) (o_bottom : Int64) (o_taped : Int32) (o_size : Int32) (o_token : Int32) (o_from : Int32) (o_end : Int32) (o_value : Int32) (o_faultKind : Int32) (o_faultPlace : Int32) (o_faults : Int32) (o_seen : Int32) (o_toldParts : Int32) (o_depth : Int32) (o_counted : Int32) (o_becameThen : Int32) (o_firstCorner : Int32) (o_drawn : Int32) (o_ranSteps : Int32) (o_isTold : Int32) (o_marks : Int32) (o_at : Nat → Int32) (o_sort : Nat → Int32) (o_trayMany : Nat → Int32) (o_trays : Nat → Int64) : va_W := [(a_o, .inr (12, [.ref a_o_at, .ref a_o_names, .int o_status, .long o_top, .long o_bottom, .ref a_o_sort, .ref a_o_trayMany, .ref a_o_trays, .ref a_o_tape, .ref a_o_text, .int o_taped, .int o_size, .int o_token, .int o_from, .int o_end, .int o_value, .int o_faultKind, .int o_faultPlace, .int o_faults, .int o_seen, .int o_toldParts, .ref a_o_opened, .int o_depth, .int o_counted, .ref a_o_farBy, .int o_becameThen, .ref a_o_attendsBy, .ref a_o_coveredBy, .ref a_o_cameBy, .ref a_o_cameThen, .int o_firstCorner, .ref a_o_fallsBy, .int o_drawn, .int o_ranSteps, .ref a_o_loops, .ref a_o_ran, .ref a_o_told1, .int o_isTold, .int o_marks])), (a_o_at, .inl (E.2.1, 3097, .inl o_at)), (a_o_sort, .inl (E.2.1, 4, .inl o_sort)), (a_o_trayMany, .inl (E.2.1, 4, .inl o_trayMany)), (a_o_trays, .inl (E.2.2.1, 240, .inr (.inl o_trays)))]
set_option maxHeartbeats 4000000 in
set_option maxRecDepth 100000 in
theorem ct_X12_copyStanding (l : Launch) (E : vE) (F : Nat) (a_o a_o_at a_o_names a_o_sort a_o_trayMany a_o_trays a_o_tape a_o_text a_o_opened a_o_farBy a_o_attendsBy a_o_coveredBy a_o_cameBy a_o_cameThen a_o_fallsBy a_o_loops a_o_ran a_o_told1 : Nat) (o_status : Int32) (o_top : Int64) (o_bottom : Int64) (o_taped : Int32) (o_size : Int32) (o_token : Int32) (o_from : Int32) (o_end : Int32) (o_value : Int32) (o_faultKind : Int32) (o_faultPlace : Int32) (o_faults : Int32) (o_seen : Int32) (o_toldParts : Int32) (o_depth : Int32) (o_counted : Int32) (o_becameThen : Int32) (o_firstCorner : Int32) (o_drawn : Int32) (o_ranSteps : Int32) (o_isTold : Int32) (o_marks : Int32) (o_at : Nat → Int32) (o_sort : Nat → Int32) (o_trayMany : Nat → Int32) (o_trays : Nat → Int64) (v1 : Int32) (u : Int32 × Int32 × (Nat → Int64)) (hf : X12_copyStanding F o_status o_at o_sort o_trayMany o_trays v1 = some u) :
    CtI l yX12_copyStanding cX12_copyStanding 3 (some .int) 3 E [.ref a_o, .int v1] (wd_X12_copyStanding E a_o a_o_at a_o_names a_o_sort a_o_trayMany a_o_trays a_o_tape a_o_text a_o_opened a_o_farBy a_o_attendsBy a_o_coveredBy a_o_cameBy a_o_cameThen a_o_fallsBy a_o_loops a_o_ran a_o_told1 o_status o_top o_bottom o_taped o_size o_token o_from o_end o_value o_faultKind o_faultPlace o_faults o_seen o_toldParts o_depth o_counted o_becameThen o_firstCorner o_drawn o_ranSteps o_isTold o_marks o_at o_sort o_trayMany o_trays) (wd_X12_copyStanding E a_o a_o_at a_o_names a_o_sort a_o_trayMany a_o_trays a_o_tape a_o_text a_o_opened a_o_farBy a_o_attendsBy a_o_coveredBy a_o_cameBy a_o_cameThen a_o_fallsBy a_o_loops a_o_ran a_o_told1 u.2.1 o_top o_bottom o_taped o_size o_token o_from o_end o_value o_faultKind o_faultPlace o_faults o_seen o_toldParts o_depth o_counted o_becameThen o_firstCorner o_drawn o_ranSteps o_isTold o_marks o_at o_sort o_trayMany u.2.2) u.1 := by
  refine ctI (by decide) (Nat.le_of_ble_eq_true rfl) ?_
  intro p e s m below meth cd A ls aa QQ hq cx hP hD hS hl
  obtain ⟨⟨hx, hb, hml, hown, hts⟩, hr, hlocks, hK, hA, hX⟩ := id cx
  have hl : lv_has ls 3 [(0, .ref a_o), (1, .int v1)] := hl
  unfold X12_copyStanding at hf
  refine lv_iload_n hx hb dX12_copyStanding_0 rfl (lv_at hl 1 rfl) ?_
  obtain ⟨u1, hu1, hf⟩ := bd hf
  refine keepSI (ct_X12_isTray l E v1 u1 hu1) [] cal_X12_isTray sta_X12_isTray lk_X12_96 cx hP hD hS hl dX12_copyStanding_1 rfl rfl (Nat.le_of_ble_eq_true rfl) ⟨Nat.le_of_ble_eq_true rfl, Nat.le_of_ble_eq_true rfl⟩ rfl (by decide) (fun H locs hP hS => ?_)
  refine lv_if_ne (tgt := 13) hx hb dX12_copyStanding_4 (by decide) (fun hc => ?_) (fun hc => ?_)
  · have hf := it_f hc hf
    refine lv_aload_n hx hb dX12_copyStanding_13 rfl (lv_at hl 0 rfl) ?_
    refine va_get (D := E.1) (ci := 12) (v := .ref a_o_trayMany) (C := RX12) (T := TX12) (N := 39) hx hb hts inX12 hown hK hP 0 rfl rfl 6 (by decide) (hts _ fl_X12_24) (fun _ h9 => h9) rfl dX12_copyStanding_14 ?_
    refine lv_iload_n hx hb dX12_copyStanding_17 rfl (lv_at hl 1 rfl) ?_
    obtain ⟨hi, hf⟩ := ck hf
    refine r_iald 3 cx hP rfl hi dX12_copyStanding_18 ?_
    refine lv_iconst (v := (-1)) hx hb dX12_copyStanding_19 (by decide) ?_
    refine lv_icmp_ne (tgt := 29) hx hb dX12_copyStanding_20 (by decide) (fun hc => ?_) (fun hc => ?_)
    · have hf := it_f hc hf
      refine lv_aload_n hx hb dX12_copyStanding_29 rfl (lv_at hl 0 rfl) ?_
      refine va_get (D := E.1) (ci := 12) (v := .ref a_o_trayMany) (C := RX12) (T := TX12) (N := 39) hx hb hts inX12 hown hK hP 0 rfl rfl 6 (by decide) (hts _ fl_X12_24) (fun _ h9 => h9) rfl dX12_copyStanding_30 ?_
      refine lv_iload_n hx hb dX12_copyStanding_33 rfl (lv_at hl 1 rfl) ?_
      obtain ⟨hi, hf⟩ := ck hf
      refine r_iald 3 cx hP rfl hi dX12_copyStanding_34 ?_
      refine lv_aload_n hx hb dX12_copyStanding_35 rfl (lv_at hl 0 rfl) ?_
      refine va_get (D := E.1) (ci := 12) (v := .ref a_o_at) (C := RX12) (T := TX12) (N := 39) hx hb hts inX12 hown hK hP 0 rfl rfl 0 (by decide) (hts _ fl_X12_7) (fun _ h9 => h9) rfl dX12_copyStanding_36 ?_
      refine lv_iconst (v := 0) hx hb dX12_copyStanding_39 (by decide) ?_
      obtain ⟨hi, hf⟩ := ck hf
      refine r_iald 1 cx hP rfl hi dX12_copyStanding_40 ?_
      refine lv_icmp_ge (tgt := 50) hx hb dX12_copyStanding_41 (by decide) (fun hc => ?_) (fun hc => ?_)
      · have hf := it_t hc hf
        refine lv_iconst (v := 0) hx hb dX12_copyStanding_50 (by decide) ?_
        refine lv_istore_n (lv' := [(2, .int 0), (0, .ref a_o), (1, .int v1)]) hx hb dX12_copyStanding_51 rfl hl (by decide) rfl (fun ls hl => ?_)
        obtain ⟨e52, hit52, hf⟩ := bd hf
        refine iter_W (b := X12_copyStanding_b52 F o_status o_at o_sort o_trayMany v1) (P := fun st52 => ∀ (H : Heap) (locs : List Loc) (ls : Array Slot), va_P E.1 vwCl (wd_X12_copyStanding E a_o a_o_at a_o_names a_o_sort a_o_trayMany a_o_trays a_o_tape a_o_text a_o_opened a_o_farBy a_o_attendsBy a_o_coveredBy a_o_cameBy a_o_cameThen a_o_fallsBy a_o_loops a_o_ran a_o_told1 o_status o_top o_bottom o_taped o_size o_token o_from o_end o_value o_faultKind o_faultPlace o_faults o_seen o_toldParts o_depth o_counted o_becameThen o_firstCorner o_drawn o_ranSteps o_isTold o_marks o_at o_sort o_trayMany st52.2) H → va_D A (wd_X12_copyStanding E a_o a_o_at a_o_names a_o_sort a_o_trayMany a_o_trays a_o_tape a_o_text a_o_opened a_o_farBy a_o_attendsBy a_o_coveredBy a_o_cameBy a_o_cameThen a_o_fallsBy a_o_loops a_o_ran a_o_told1 o_status o_top o_bottom o_taped o_size o_token o_from o_end o_value o_faultKind o_faultPlace o_faults o_seen o_toldParts o_depth o_counted o_becameThen o_firstCorner o_drawn o_ranSteps o_isTold o_marks o_at o_sort o_trayMany st52.2) → va_S A s.heap H locs → lv_has ls 3 [(0, .ref a_o), (1, .int v1), (2, .int st52.1)] → W p l e (rmd 3) s m aa below meth cd H locs 0 0 QQ (F0 m 52 ls [])) (G := (fun (e52 : (Nat → Int64)) => ∀ (H : Heap) (locs : List Loc) (ls : Array Slot), va_P E.1 vwCl (wd_X12_copyStanding E a_o a_o_at a_o_names a_o_sort a_o_trayMany a_o_trays a_o_tape a_o_text a_o_opened a_o_farBy a_o_attendsBy a_o_coveredBy a_o_cameBy a_o_cameThen a_o_fallsBy a_o_loops a_o_ran a_o_told1 o_status o_top o_bottom o_taped o_size o_token o_from o_end o_value o_faultKind o_faultPlace o_faults o_seen o_toldParts o_depth o_counted o_becameThen o_firstCorner o_drawn o_ranSteps o_isTold o_marks o_at o_sort o_trayMany e52) H → va_D A (wd_X12_copyStanding E a_o a_o_at a_o_names a_o_sort a_o_trayMany a_o_trays a_o_tape a_o_text a_o_opened a_o_farBy a_o_attendsBy a_o_coveredBy a_o_cameBy a_o_cameThen a_o_fallsBy a_o_loops a_o_ran a_o_told1 o_status o_top o_bottom o_taped o_size o_token o_from o_end o_value o_faultKind o_faultPlace o_faults o_seen o_toldParts o_depth o_counted o_becameThen o_firstCorner o_drawn o_ranSteps o_isTold o_marks o_at o_sort o_trayMany e52) → va_S A s.heap H locs → lv_has ls 3 [(0, .ref a_o)] → W p l e (rmd 3) s m aa below meth cd H locs 0 0 QQ (F0 m 97 ls []))) ?_ F (0, o_trays) e52 hit52 ?_ _ _ _ hP hD hS (lv_sub hl [1, 2, 0] rfl)
        · intro st52 r52 hf hk52 he52 H locs ls hP hD hS hl
          unfold X12_copyStanding_b52 at hf
          refine lv_iload_n hx hb dX12_copyStanding_52 rfl (lv_at hl 2 rfl) ?_
          refine lv_aload_n hx hb dX12_copyStanding_53 rfl (lv_at hl 0 rfl) ?_
          refine va_get (D := E.1) (ci := 12) (v := .ref a_o_at) (C := RX12) (T := TX12) (N := 39) hx hb hts inX12 hown hK hP 0 rfl rfl 0 (by decide) (hts _ fl_X12_7) (fun _ h9 => h9) rfl dX12_copyStanding_54 ?_
          refine lv_iconst (v := 0) hx hb dX12_copyStanding_57 (by decide) ?_
          obtain ⟨hi, hf⟩ := ck hf
          refine r_iald 1 cx hP rfl hi dX12_copyStanding_58 ?_
          refine lv_icmp_ge (tgt := 97) hx hb dX12_copyStanding_59 (by decide) (fun hc => ?_) (fun hc => ?_)
          · have hf := it_t hc hf
            exact he52 _ (Option.some.inj hf).symm _ _ _ hP hD hS (lv_sub hl [0] rfl)
          · have hf := it_f hc hf
            refine lv_aload_n hx hb dX12_copyStanding_62 rfl (lv_at hl 0 rfl) ?_
            refine va_get (D := E.1) (ci := 12) (v := .ref a_o_trays) (C := RX12) (T := TX12) (N := 39) hx hb hts inX12 hown hK hP 0 rfl rfl 7 (by decide) (hts _ fl_X12_27) (fun _ h9 => h9) rfl dX12_copyStanding_63 ?_
            refine lv_bipush (v := 60) hx hb dX12_copyStanding_66 (by decide) ?_
            refine lv_iload_n hx hb dX12_copyStanding_68 rfl (lv_at hl 1 rfl) ?_
            refine lv_imul hx hb dX12_copyStanding_69 ?_
            refine lv_iload_n hx hb dX12_copyStanding_70 rfl (lv_at hl 2 rfl) ?_
            refine lv_iadd hx hb dX12_copyStanding_71 ?_
            refine lv_aload_n hx hb dX12_copyStanding_72 rfl (lv_at hl 0 rfl) ?_
            refine lv_iload_n hx hb dX12_copyStanding_73 rfl (lv_at hl 2 rfl) ?_
            obtain ⟨u74, hu74, hf⟩ := bd hf
            refine keepVI (ct_X12_standingAt l E F a_o a_o_at a_o_names a_o_sort a_o_trayMany a_o_trays a_o_tape a_o_text a_o_opened a_o_farBy a_o_attendsBy a_o_coveredBy a_o_cameBy a_o_cameThen a_o_fallsBy a_o_loops a_o_ran a_o_told1 o_status o_top o_bottom o_taped o_size o_token o_from o_end o_value o_faultKind o_faultPlace o_faults o_seen o_toldParts o_depth o_counted o_becameThen o_firstCorner o_drawn o_ranSteps o_isTold o_marks o_at st52.1 u74 hu74) [0, 1] cal_X12_standingAt cav_X12_standingAt lk_X12_299 cx hP hD hS hl dX12_copyStanding_74 rfl rfl rfl rfl (Nat.le_of_ble_eq_true rfl) ⟨Nat.le_of_ble_eq_true rfl, Nat.le_of_ble_eq_true rfl⟩ rfl (by decide) (fun H locs hP hS => ?_)
            obtain ⟨u77, hu77, hf⟩ := bd hf
            refine keepSI (ct_X12_bits l E F u74 u77 hu77) [] cal_X12_bits sta_X12_bits lk_X12_302 cx hP hD hS hl dX12_copyStanding_77 rfl rfl (Nat.le_of_ble_eq_true rfl) ⟨Nat.le_of_ble_eq_true rfl, Nat.le_of_ble_eq_true rfl⟩ rfl (by decide) (fun H locs hP hS => ?_)
            refine lv_i2l (v := (u77.toInt64)) hx hb dX12_copyStanding_80 rfl ?_
            refine lv_aload_n hx hb dX12_copyStanding_81 rfl (lv_at hl 0 rfl) ?_
            refine va_get (D := E.1) (ci := 12) (v := .ref a_o_sort) (C := RX12) (T := TX12) (N := 39) hx hb hts inX12 hown hK hP 0 rfl rfl 5 (by decide) (hts _ fl_X12_21) (fun _ h9 => h9) rfl dX12_copyStanding_82 ?_
            refine lv_iload_n hx hb dX12_copyStanding_85 rfl (lv_at hl 1 rfl) ?_
            obtain ⟨hi, hf⟩ := ck hf
            refine r_iald 2 cx hP rfl hi dX12_copyStanding_86 ?_
            obtain ⟨u87, hu87, hf⟩ := bd hf
            refine keepSL (ct_X12_shrunk l E (u77.toInt64) (jat o_sort v1) u87 hu87) [] cal_X12_shrunk sta_X12_shrunk lk_X12_103 cx hP hD hS hl dX12_copyStanding_87 rfl rfl (Nat.le_of_ble_eq_true rfl) ⟨Nat.le_of_ble_eq_true rfl, Nat.le_of_ble_eq_true rfl⟩ rfl (by decide) (fun H locs hP hS => ?_)
            obtain ⟨hi, hf⟩ := ck hf
            refine r_last 4 cx hP hD hS rfl hi dX12_copyStanding_90 (fun H locs hP hD hS => ?_)
            have hP : va_P E.1 vwCl (wd_X12_copyStanding E a_o a_o_at a_o_names a_o_sort a_o_trayMany a_o_trays a_o_tape a_o_text a_o_opened a_o_farBy a_o_attendsBy a_o_coveredBy a_o_cameBy a_o_cameThen a_o_fallsBy a_o_loops a_o_ran a_o_told1 o_status o_top o_bottom o_taped o_size o_token o_from o_end o_value o_faultKind o_faultPlace o_faults o_seen o_toldParts o_depth o_counted o_becameThen o_firstCorner o_drawn o_ranSteps o_isTold o_marks o_at o_sort o_trayMany (jputL st52.2 ((60 * v1) + st52.1) u87)) H := hP
            have hD : va_D A (wd_X12_copyStanding E a_o a_o_at a_o_names a_o_sort a_o_trayMany a_o_trays a_o_tape a_o_text a_o_opened a_o_farBy a_o_attendsBy a_o_coveredBy a_o_cameBy a_o_cameThen a_o_fallsBy a_o_loops a_o_ran a_o_told1 o_status o_top o_bottom o_taped o_size o_token o_from o_end o_value o_faultKind o_faultPlace o_faults o_seen o_toldParts o_depth o_counted o_becameThen o_firstCorner o_drawn o_ranSteps o_isTold o_marks o_at o_sort o_trayMany (jputL st52.2 ((60 * v1) + st52.1) u87)) := hD
            refine lv_iinc (v := (st52.1 + 1)) (lv' := [(2, .int (st52.1 + 1)), (0, .ref a_o), (1, .int v1)]) hx hb dX12_copyStanding_91 hl (k := 2) rfl rfl (by decide) rfl (fun ls hl => ?_)
            refine lv_goto (tgt := 52) hx hb dX12_copyStanding_94 (by decide) ?_
            exact hk52 _ (Option.some.inj hf).symm _ _ _ hP hD hS (lv_sub hl [1, 2, 0] rfl)
        · refine fun H locs ls hP hD hS hl => ?_
          refine lv_aload_n hx hb dX12_copyStanding_97 rfl (lv_at hl 0 rfl) ?_
          refine lv_aload_n hx hb dX12_copyStanding_98 rfl (lv_at hl 0 rfl) ?_
          refine va_get (D := E.1) (ci := 12) (v := .ref a_o_at) (C := RX12) (T := TX12) (N := 39) hx hb hts inX12 hown hK hP 0 rfl rfl 0 (by decide) (hts _ fl_X12_7) (fun _ h9 => h9) rfl dX12_copyStanding_99 ?_
          refine lv_iconst (v := 0) hx hb dX12_copyStanding_102 (by decide) ?_
          obtain ⟨hi, hf⟩ := ck hf
          refine r_iald 1 cx hP rfl hi dX12_copyStanding_103 ?_
          obtain ⟨u104, hu104, hf⟩ := bd hf
          refine callVI (wn := (wd_X12_copyStanding E a_o a_o_at a_o_names a_o_sort a_o_trayMany a_o_trays a_o_tape a_o_text a_o_opened a_o_farBy a_o_attendsBy a_o_coveredBy a_o_cameBy a_o_cameThen a_o_fallsBy a_o_loops a_o_ran a_o_told1 u104.2 o_top o_bottom o_taped o_size o_token o_from o_end o_value o_faultKind o_faultPlace o_faults o_seen o_toldParts o_depth o_counted o_becameThen o_firstCorner o_drawn o_ranSteps o_isTold o_marks o_at o_sort o_trayMany e52)) (n1 := 5) (ct_X12_gives l E a_o a_o_at a_o_names a_o_sort a_o_trayMany a_o_trays a_o_tape a_o_text a_o_opened a_o_farBy a_o_attendsBy a_o_coveredBy a_o_cameBy a_o_cameThen a_o_fallsBy a_o_loops a_o_ran a_o_told1 o_status o_top o_bottom o_taped o_size o_token o_from o_end o_value o_faultKind o_faultPlace o_faults o_seen o_toldParts o_depth o_counted o_becameThen o_firstCorner o_drawn o_ranSteps o_isTold o_marks (jat o_at 0) u104 hu104) [0] cal_X12_gives cav_X12_gives lk_X12_89 cx hP hD hS hl dX12_copyStanding_104 rfl rfl rfl rfl (Nat.le_of_ble_eq_true rfl) ⟨Nat.le_of_ble_eq_true rfl, Nat.le_of_ble_eq_true rfl⟩ rfl (by decide +kernel) rfl [some 0, none, none, none, none] rfl (by decide +kernel) rfl (fun H locs hP hD hS => ?_)
          obtain rfl := Option.some.inj hf
          subst hq
          exact retI cx hP hD hS dX12_copyStanding_107
      · have hf := it_f hc hf
        refine lv_aload_n hx hb dX12_copyStanding_44 rfl (lv_at hl 0 rfl) ?_
        refine lv_iconst (v := 3) hx hb dX12_copyStanding_45 (by decide) ?_
        obtain ⟨u46, hu46, hf⟩ := bd hf
        refine callVI (wn := (wd_X12_copyStanding E a_o a_o_at a_o_names a_o_sort a_o_trayMany a_o_trays a_o_tape a_o_text a_o_opened a_o_farBy a_o_attendsBy a_o_coveredBy a_o_cameBy a_o_cameThen a_o_fallsBy a_o_loops a_o_ran a_o_told1 u46.2 o_top o_bottom o_taped o_size o_token o_from o_end o_value o_faultKind o_faultPlace o_faults o_seen o_toldParts o_depth o_counted o_becameThen o_firstCorner o_drawn o_ranSteps o_isTold o_marks o_at o_sort o_trayMany o_trays)) (n1 := 5) (ct_X12_refuse l E a_o a_o_at a_o_names a_o_sort a_o_trayMany a_o_trays a_o_tape a_o_text a_o_opened a_o_farBy a_o_attendsBy a_o_coveredBy a_o_cameBy a_o_cameThen a_o_fallsBy a_o_loops a_o_ran a_o_told1 o_status o_top o_bottom o_taped o_size o_token o_from o_end o_value o_faultKind o_faultPlace o_faults o_seen o_toldParts o_depth o_counted o_becameThen o_firstCorner o_drawn o_ranSteps o_isTold o_marks (3 : Int32) u46 hu46) [0] cal_X12_refuse cav_X12_refuse lk_X12_85 cx hP hD hS hl dX12_copyStanding_46 rfl rfl rfl rfl (Nat.le_of_ble_eq_true rfl) ⟨Nat.le_of_ble_eq_true rfl, Nat.le_of_ble_eq_true rfl⟩ rfl (by decide +kernel) rfl [some 0, none, none, none, none] rfl (by decide +kernel) rfl (fun H locs hP hD hS => ?_)
        obtain rfl := Option.some.inj hf
        subst hq
        exact retI cx hP hD hS dX12_copyStanding_49
    · have hf := it_t hc hf
      refine lv_aload_n hx hb dX12_copyStanding_23 rfl (lv_at hl 0 rfl) ?_
      refine lv_iconst (v := 2) hx hb dX12_copyStanding_24 (by decide) ?_
      obtain ⟨u25, hu25, hf⟩ := bd hf
      refine callVI (wn := (wd_X12_copyStanding E a_o a_o_at a_o_names a_o_sort a_o_trayMany a_o_trays a_o_tape a_o_text a_o_opened a_o_farBy a_o_attendsBy a_o_coveredBy a_o_cameBy a_o_cameThen a_o_fallsBy a_o_loops a_o_ran a_o_told1 u25.2 o_top o_bottom o_taped o_size o_token o_from o_end o_value o_faultKind o_faultPlace o_faults o_seen o_toldParts o_depth o_counted o_becameThen o_firstCorner o_drawn o_ranSteps o_isTold o_marks o_at o_sort o_trayMany o_trays)) (n1 := 5) (ct_X12_refuse l E a_o a_o_at a_o_names a_o_sort a_o_trayMany a_o_trays a_o_tape a_o_text a_o_opened a_o_farBy a_o_attendsBy a_o_coveredBy a_o_cameBy a_o_cameThen a_o_fallsBy a_o_loops a_o_ran a_o_told1 o_status o_top o_bottom o_taped o_size o_token o_from o_end o_value o_faultKind o_faultPlace o_faults o_seen o_toldParts o_depth o_counted o_becameThen o_firstCorner o_drawn o_ranSteps o_isTold o_marks (2 : Int32) u25 hu25) [0] cal_X12_refuse cav_X12_refuse lk_X12_85 cx hP hD hS hl dX12_copyStanding_25 rfl rfl rfl rfl (Nat.le_of_ble_eq_true rfl) ⟨Nat.le_of_ble_eq_true rfl, Nat.le_of_ble_eq_true rfl⟩ rfl (by decide +kernel) rfl [some 0, none, none, none, none] rfl (by decide +kernel) rfl (fun H locs hP hD hS => ?_)
      obtain rfl := Option.some.inj hf
      subst hq
      exact retI cx hP hD hS dX12_copyStanding_28
  · have hf := it_t hc hf
    refine lv_aload_n hx hb dX12_copyStanding_7 rfl (lv_at hl 0 rfl) ?_
    refine lv_iconst (v := 1) hx hb dX12_copyStanding_8 (by decide) ?_
    obtain ⟨u9, hu9, hf⟩ := bd hf
    refine callVI (wn := (wd_X12_copyStanding E a_o a_o_at a_o_names a_o_sort a_o_trayMany a_o_trays a_o_tape a_o_text a_o_opened a_o_farBy a_o_attendsBy a_o_coveredBy a_o_cameBy a_o_cameThen a_o_fallsBy a_o_loops a_o_ran a_o_told1 u9.2 o_top o_bottom o_taped o_size o_token o_from o_end o_value o_faultKind o_faultPlace o_faults o_seen o_toldParts o_depth o_counted o_becameThen o_firstCorner o_drawn o_ranSteps o_isTold o_marks o_at o_sort o_trayMany o_trays)) (n1 := 5) (ct_X12_refuse l E a_o a_o_at a_o_names a_o_sort a_o_trayMany a_o_trays a_o_tape a_o_text a_o_opened a_o_farBy a_o_attendsBy a_o_coveredBy a_o_cameBy a_o_cameThen a_o_fallsBy a_o_loops a_o_ran a_o_told1 o_status o_top o_bottom o_taped o_size o_token o_from o_end o_value o_faultKind o_faultPlace o_faults o_seen o_toldParts o_depth o_counted o_becameThen o_firstCorner o_drawn o_ranSteps o_isTold o_marks (1 : Int32) u9 hu9) [0] cal_X12_refuse cav_X12_refuse lk_X12_85 cx hP hD hS hl dX12_copyStanding_9 rfl rfl rfl rfl (Nat.le_of_ble_eq_true rfl) ⟨Nat.le_of_ble_eq_true rfl, Nat.le_of_ble_eq_true rfl⟩ rfl (by decide +kernel) rfl [some 0, none, none, none, none] rfl (by decide +kernel) rfl (fun H locs hP hD hS => ?_)
    obtain rfl := Option.some.inj hf
    subst hq
    exact retI cx hP hD hS dX12_copyStanding_12
