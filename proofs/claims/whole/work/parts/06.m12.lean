def X12_sure_j59 (F : Nat) (o_status : Int32) (o_at : Nat → Int32) (o_trayMany : Nat → Int32) (o_trays : Nat → Int64) (v1 : Int32) (v3 : Int32) (v4 : Int32) : Option ((Int32 × Int32) ⊕ ((Int32))) :=
  some (.inl (v3, (v4 + 1)))
def X12_sure_j58 (F : Nat) (o_status : Int32) (o_at : Nat → Int32) (o_trayMany : Nat → Int32) (o_trays : Nat → Int64) (v1 : Int32) (v4 : Int32) (k0 : Int32) : Option ((Int32 × Int32) ⊕ ((Int32))) :=
  X12_sure_j59 F o_status o_at o_trayMany o_trays v1 k0 v4
def X12_sure_b21 (F : Nat) (o_status : Int32) (o_at : Nat → Int32) (o_trayMany : Nat → Int32) (o_trays : Nat → Int64) (v1 : Int32) (st21 : Int32 × Int32) : Option ((Int32 × Int32) ⊕ ((Int32))) :=
  if ix 3 3097 then
  if (jshl 1 (jat o_at 3)) ≤ st21.2 then
  some (.inr st21.1)
  else
  (X12_explains F o_at o_trays st21.2 v1).bind fun u38 =>
  if u38 = 0 then
  X12_sure_j59 F o_status o_at o_trayMany o_trays v1 st21.1 st21.2
  else
  if st21.1 = (-1) then
  X12_sure_j58 F o_status o_at o_trayMany o_trays v1 st21.2 st21.2
  else
  X12_sure_j58 F o_status o_at o_trayMany o_trays v1 st21.2 (st21.1 &&& st21.2)
  else none
def X12_sure (F : Nat) (o_status : Int32) (o_at : Nat → Int32) (o_trayMany : Nat → Int32) (o_trays : Nat → Int64) (v1 : Int32) : Option (Int32 × Int32) :=
  (X12_wrongStanding F o_at o_trayMany o_trays v1).bind fun u2 =>
  if u2 ≤ 0 then
  (iter (X12_sure_b21 F o_status o_at o_trayMany o_trays v1) F ((-1), 0)).bind (fun (e21 : Int32) =>
    (X12_orNone o_status e21).bind fun u67 =>
  some (u67.1, u67.2))
  else
  (X12_refuse o_status u2).bind fun u12 =>
  some (u12.1, u12.2)
abbrev wd_X12_sure (E : vE) (a_o a_o_at a_o_names a_o_sort a_o_trayMany a_o_trays a_o_tape a_o_text a_o_opened a_o_farBy a_o_attendsBy a_o_coveredBy a_o_cameBy a_o_cameThen a_o_fallsBy a_o_loops a_o_ran a_o_told1 : Nat) (o_status : Int32) (o_top : Int64) (o_bottom : Int64) (o_taped : Int32) (o_size : Int32) (o_token : Int32) (o_from : Int32) (o_end : Int32) (o_value : Int32) (o_faultKind : Int32) (o_faultPlace : Int32) (o_faults : Int32) (o_seen : Int32) (o_toldParts : Int32) (o_depth : Int32) (o_counted : Int32) (o_becameThen : Int32) (o_firstCorner : Int32) (o_drawn : Int32) (o_ranSteps : Int32) (o_isTold : Int32) (o_marks : Int32) (o_at : Nat → Int32) (o_trayMany : Nat → Int32) (o_trays : Nat → Int64) : va_W := [(a_o, .inr (12, [.ref a_o_at, .ref a_o_names, .int o_status, .long o_top, .long o_bottom, .ref a_o_sort, .ref a_o_trayMany, .ref a_o_trays, .ref a_o_tape, .ref a_o_text, .int o_taped, .int o_size, .int o_token, .int o_from, .int o_end, .int o_value, .int o_faultKind, .int o_faultPlace, .int o_faults, .int o_seen, .int o_toldParts, .ref a_o_opened, .int o_depth, .int o_counted, .ref a_o_farBy, .int o_becameThen, .ref a_o_attendsBy, .ref a_o_coveredBy, .ref a_o_cameBy, .ref a_o_cameThen, .int o_firstCorner, .ref a_o_fallsBy, .int o_drawn, .int o_ranSteps, .ref a_o_loops, .ref a_o_ran, .ref a_o_told1, .int o_isTold, .int o_marks])), (a_o_at, .inl (E.2.1, 3097, .inl o_at)), (a_o_trayMany, .inl (E.2.1, 4, .inl o_trayMany)), (a_o_trays, .inl (E.2.2.1, 240, .inr (.inl o_trays)))]
set_option maxHeartbeats 4000000 in
set_option maxRecDepth 100000 in
theorem ct_X12_sure (l : Launch) (E : vE) (F : Nat) (a_o a_o_at a_o_names a_o_sort a_o_trayMany a_o_trays a_o_tape a_o_text a_o_opened a_o_farBy a_o_attendsBy a_o_coveredBy a_o_cameBy a_o_cameThen a_o_fallsBy a_o_loops a_o_ran a_o_told1 : Nat) (o_status : Int32) (o_top : Int64) (o_bottom : Int64) (o_taped : Int32) (o_size : Int32) (o_token : Int32) (o_from : Int32) (o_end : Int32) (o_value : Int32) (o_faultKind : Int32) (o_faultPlace : Int32) (o_faults : Int32) (o_seen : Int32) (o_toldParts : Int32) (o_depth : Int32) (o_counted : Int32) (o_becameThen : Int32) (o_firstCorner : Int32) (o_drawn : Int32) (o_ranSteps : Int32) (o_isTold : Int32) (o_marks : Int32) (o_at : Nat → Int32) (o_trayMany : Nat → Int32) (o_trays : Nat → Int64) (v1 : Int32) (u : Int32 × Int32) (hf : X12_sure F o_status o_at o_trayMany o_trays v1 = some u) :
    CtI l yX12_sure cX12_sure 5 (some .int) 4 E [.ref a_o, .int v1] (wd_X12_sure E a_o a_o_at a_o_names a_o_sort a_o_trayMany a_o_trays a_o_tape a_o_text a_o_opened a_o_farBy a_o_attendsBy a_o_coveredBy a_o_cameBy a_o_cameThen a_o_fallsBy a_o_loops a_o_ran a_o_told1 o_status o_top o_bottom o_taped o_size o_token o_from o_end o_value o_faultKind o_faultPlace o_faults o_seen o_toldParts o_depth o_counted o_becameThen o_firstCorner o_drawn o_ranSteps o_isTold o_marks o_at o_trayMany o_trays) (wd_X12_sure E a_o a_o_at a_o_names a_o_sort a_o_trayMany a_o_trays a_o_tape a_o_text a_o_opened a_o_farBy a_o_attendsBy a_o_coveredBy a_o_cameBy a_o_cameThen a_o_fallsBy a_o_loops a_o_ran a_o_told1 u.2 o_top o_bottom o_taped o_size o_token o_from o_end o_value o_faultKind o_faultPlace o_faults o_seen o_toldParts o_depth o_counted o_becameThen o_firstCorner o_drawn o_ranSteps o_isTold o_marks o_at o_trayMany o_trays) u.1 := by
  refine ctI (by decide) (Nat.le_of_ble_eq_true rfl) ?_
  intro p e s m below meth cd A ls aa QQ hq cx hP hD hS hl
  obtain ⟨⟨hx, hb, hml, hown, hts⟩, hr, hlocks, hK, hA, hX⟩ := id cx
  have hl : lv_has ls 5 [(0, .ref a_o), (1, .int v1)] := hl
  unfold X12_sure at hf
  refine lv_aload_n hx hb dX12_sure_0 rfl (lv_at hl 0 rfl) ?_
  refine lv_iload_n hx hb dX12_sure_1 rfl (lv_at hl 1 rfl) ?_
  obtain ⟨u2, hu2, hf⟩ := bd hf
  refine keepVI (ct_X12_wrongStanding l E F a_o a_o_at a_o_names a_o_sort a_o_trayMany a_o_trays a_o_tape a_o_text a_o_opened a_o_farBy a_o_attendsBy a_o_coveredBy a_o_cameBy a_o_cameThen a_o_fallsBy a_o_loops a_o_ran a_o_told1 o_status o_top o_bottom o_taped o_size o_token o_from o_end o_value o_faultKind o_faultPlace o_faults o_seen o_toldParts o_depth o_counted o_becameThen o_firstCorner o_drawn o_ranSteps o_isTold o_marks o_at o_trayMany o_trays v1 u2 hu2) [0, 1, 2, 3] cal_X12_wrongStanding cav_X12_wrongStanding lk_X12_426 cx hP hD hS hl dX12_sure_2 rfl rfl rfl rfl (Nat.le_of_ble_eq_true rfl) ⟨Nat.le_of_ble_eq_true rfl, Nat.le_of_ble_eq_true rfl⟩ rfl (by decide) (fun H locs hP hS => ?_)
  refine lv_istore_n (lv' := [(2, .int u2), (0, .ref a_o), (1, .int v1)]) hx hb dX12_sure_5 rfl hl (by decide) rfl (fun ls hl => ?_)
  refine lv_iload_n hx hb dX12_sure_6 rfl (lv_at hl 0 rfl) ?_
  refine lv_if_le (tgt := 16) hx hb dX12_sure_7 (by decide) (fun hc => ?_) (fun hc => ?_)
  · have hf := it_t hc hf
    refine lv_iconst (v := (-1)) hx hb dX12_sure_16 (by decide) ?_
    refine lv_istore_n (lv' := [(3, .int (-1)), (2, .int u2), (0, .ref a_o), (1, .int v1)]) hx hb dX12_sure_17 rfl hl (by decide) rfl (fun ls hl => ?_)
    refine lv_iconst (v := 0) hx hb dX12_sure_18 (by decide) ?_
    refine lv_istore (lv' := [(4, .int 0), (3, .int (-1)), (2, .int u2), (0, .ref a_o), (1, .int v1)]) hx hb dX12_sure_19 hl (by decide) rfl (fun ls hl => ?_)
    obtain ⟨e21, hit21, hf⟩ := bd hf
    refine iter_W (b := X12_sure_b21 F o_status o_at o_trayMany o_trays v1) (P := fun st21 => ∀ (H : Heap) (locs : List Loc) (ls : Array Slot), va_P E.1 vwCl (wd_X12_sure E a_o a_o_at a_o_names a_o_sort a_o_trayMany a_o_trays a_o_tape a_o_text a_o_opened a_o_farBy a_o_attendsBy a_o_coveredBy a_o_cameBy a_o_cameThen a_o_fallsBy a_o_loops a_o_ran a_o_told1 o_status o_top o_bottom o_taped o_size o_token o_from o_end o_value o_faultKind o_faultPlace o_faults o_seen o_toldParts o_depth o_counted o_becameThen o_firstCorner o_drawn o_ranSteps o_isTold o_marks o_at o_trayMany o_trays) H → va_D A (wd_X12_sure E a_o a_o_at a_o_names a_o_sort a_o_trayMany a_o_trays a_o_tape a_o_text a_o_opened a_o_farBy a_o_attendsBy a_o_coveredBy a_o_cameBy a_o_cameThen a_o_fallsBy a_o_loops a_o_ran a_o_told1 o_status o_top o_bottom o_taped o_size o_token o_from o_end o_value o_faultKind o_faultPlace o_faults o_seen o_toldParts o_depth o_counted o_becameThen o_firstCorner o_drawn o_ranSteps o_isTold o_marks o_at o_trayMany o_trays) → va_S A s.heap H locs → lv_has ls 5 [(0, .ref a_o), (1, .int v1), (3, .int st21.1), (4, .int st21.2)] → W p l e (rmd 4) s m aa below meth cd H locs 0 0 QQ (F0 m 21 ls [])) (G := (fun (e21 : Int32) => ∀ (H : Heap) (locs : List Loc) (ls : Array Slot), va_P E.1 vwCl (wd_X12_sure E a_o a_o_at a_o_names a_o_sort a_o_trayMany a_o_trays a_o_tape a_o_text a_o_opened a_o_farBy a_o_attendsBy a_o_coveredBy a_o_cameBy a_o_cameThen a_o_fallsBy a_o_loops a_o_ran a_o_told1 o_status o_top o_bottom o_taped o_size o_token o_from o_end o_value o_faultKind o_faultPlace o_faults o_seen o_toldParts o_depth o_counted o_becameThen o_firstCorner o_drawn o_ranSteps o_isTold o_marks o_at o_trayMany o_trays) H → va_D A (wd_X12_sure E a_o a_o_at a_o_names a_o_sort a_o_trayMany a_o_trays a_o_tape a_o_text a_o_opened a_o_farBy a_o_attendsBy a_o_coveredBy a_o_cameBy a_o_cameThen a_o_fallsBy a_o_loops a_o_ran a_o_told1 o_status o_top o_bottom o_taped o_size o_token o_from o_end o_value o_faultKind o_faultPlace o_faults o_seen o_toldParts o_depth o_counted o_becameThen o_firstCorner o_drawn o_ranSteps o_isTold o_marks o_at o_trayMany o_trays) → va_S A s.heap H locs → lv_has ls 5 [(0, .ref a_o), (3, .int e21)] → W p l e (rmd 4) s m aa below meth cd H locs 0 0 QQ (F0 m 65 ls []))) ?_ F ((-1), 0) e21 hit21 ?_ _ _ _ hP hD hS (lv_sub hl [3, 4, 1, 0] rfl)
    · intro st21 r21 hf hk21 he21 H locs ls hP hD hS hl
      have hj59 : ∀ (v3_j59 : Int32) (v4_j59 : Int32) (H : Heap) (locs : List Loc) (ls : Array Slot), X12_sure_j59 F o_status o_at o_trayMany o_trays v1 v3_j59 v4_j59 = some r21 → va_P E.1 vwCl (wd_X12_sure E a_o a_o_at a_o_names a_o_sort a_o_trayMany a_o_trays a_o_tape a_o_text a_o_opened a_o_farBy a_o_attendsBy a_o_coveredBy a_o_cameBy a_o_cameThen a_o_fallsBy a_o_loops a_o_ran a_o_told1 o_status o_top o_bottom o_taped o_size o_token o_from o_end o_value o_faultKind o_faultPlace o_faults o_seen o_toldParts o_depth o_counted o_becameThen o_firstCorner o_drawn o_ranSteps o_isTold o_marks o_at o_trayMany o_trays) H → va_D A (wd_X12_sure E a_o a_o_at a_o_names a_o_sort a_o_trayMany a_o_trays a_o_tape a_o_text a_o_opened a_o_farBy a_o_attendsBy a_o_coveredBy a_o_cameBy a_o_cameThen a_o_fallsBy a_o_loops a_o_ran a_o_told1 o_status o_top o_bottom o_taped o_size o_token o_from o_end o_value o_faultKind o_faultPlace o_faults o_seen o_toldParts o_depth o_counted o_becameThen o_firstCorner o_drawn o_ranSteps o_isTold o_marks o_at o_trayMany o_trays) → va_S A s.heap H locs → lv_has ls 5 [(0, .ref a_o), (1, .int v1), (3, .int v3_j59), (4, .int v4_j59)] → W p l e (rmd 4) s m aa below meth cd H locs 0 0 QQ (F0 m 59 ls []) := by
        intro v3_j59 v4_j59 H locs ls hf hP hD hS hl
        unfold X12_sure_j59 at hf
        refine lv_iinc (v := (v4_j59 + 1)) (lv' := [(4, .int (v4_j59 + 1)), (0, .ref a_o), (1, .int v1), (3, .int v3_j59)]) hx hb dX12_sure_59 hl (k := 3) rfl rfl (by decide) rfl (fun ls hl => ?_)
        refine lv_goto (tgt := 21) hx hb dX12_sure_62 (by decide) ?_
        exact hk21 _ (Option.some.inj hf).symm _ _ _ hP hD hS (lv_sub hl [1, 2, 3, 0] rfl)
      have hj58 : ∀ (v4_j58 : Int32) (k0_j58 : Int32) (H : Heap) (locs : List Loc) (ls : Array Slot), X12_sure_j58 F o_status o_at o_trayMany o_trays v1 v4_j58 k0_j58 = some r21 → va_P E.1 vwCl (wd_X12_sure E a_o a_o_at a_o_names a_o_sort a_o_trayMany a_o_trays a_o_tape a_o_text a_o_opened a_o_farBy a_o_attendsBy a_o_coveredBy a_o_cameBy a_o_cameThen a_o_fallsBy a_o_loops a_o_ran a_o_told1 o_status o_top o_bottom o_taped o_size o_token o_from o_end o_value o_faultKind o_faultPlace o_faults o_seen o_toldParts o_depth o_counted o_becameThen o_firstCorner o_drawn o_ranSteps o_isTold o_marks o_at o_trayMany o_trays) H → va_D A (wd_X12_sure E a_o a_o_at a_o_names a_o_sort a_o_trayMany a_o_trays a_o_tape a_o_text a_o_opened a_o_farBy a_o_attendsBy a_o_coveredBy a_o_cameBy a_o_cameThen a_o_fallsBy a_o_loops a_o_ran a_o_told1 o_status o_top o_bottom o_taped o_size o_token o_from o_end o_value o_faultKind o_faultPlace o_faults o_seen o_toldParts o_depth o_counted o_becameThen o_firstCorner o_drawn o_ranSteps o_isTold o_marks o_at o_trayMany o_trays) → va_S A s.heap H locs → lv_has ls 5 [(0, .ref a_o), (1, .int v1), (4, .int v4_j58)] → W p l e (rmd 4) s m aa below meth cd H locs 0 0 QQ (F0 m 58 ls [.int k0_j58]) := by
        intro v4_j58 k0_j58 H locs ls hf hP hD hS hl
        unfold X12_sure_j58 at hf
        refine lv_istore_n (lv' := [(3, .int k0_j58), (0, .ref a_o), (1, .int v1), (4, .int v4_j58)]) hx hb dX12_sure_58 rfl hl (by decide) rfl (fun ls hl => ?_)
        exact hj59 _ _ _ _ _ hf hP hD hS (lv_sub hl [1, 2, 0, 3] rfl)
      unfold X12_sure_b21 at hf
      refine lv_iload hx hb dX12_sure_21 (lv_at hl 3 rfl) ?_
      refine lv_iconst (v := 1) hx hb dX12_sure_23 (by decide) ?_
      refine lv_aload_n hx hb dX12_sure_24 rfl (lv_at hl 0 rfl) ?_
      refine va_get (D := E.1) (ci := 12) (v := .ref a_o_at) (C := RX12) (T := TX12) (N := 39) hx hb hts inX12 hown hK hP 0 rfl rfl 0 (by decide) (hts _ fl_X12_7) (fun _ h9 => h9) rfl dX12_sure_25 ?_
      refine lv_iconst (v := 3) hx hb dX12_sure_28 (by decide) ?_
      obtain ⟨hi, hf⟩ := ck hf
      refine r_iald 1 cx hP rfl hi dX12_sure_29 ?_
      refine r_ishl hx hb dX12_sure_30 ?_
      refine lv_icmp_ge (tgt := 65) hx hb dX12_sure_31 (by decide) (fun hc => ?_) (fun hc => ?_)
      · have hf := it_t hc hf
        exact he21 _ (Option.some.inj hf).symm _ _ _ hP hD hS (lv_sub hl [0, 2] rfl)
      · have hf := it_f hc hf
        refine lv_aload_n hx hb dX12_sure_34 rfl (lv_at hl 0 rfl) ?_
        refine lv_iload hx hb dX12_sure_35 (lv_at hl 3 rfl) ?_
        refine lv_iload_n hx hb dX12_sure_37 rfl (lv_at hl 1 rfl) ?_
        obtain ⟨u38, hu38, hf⟩ := bd hf
        refine keepVI (ct_X12_explains l E F a_o a_o_at a_o_names a_o_sort a_o_trayMany a_o_trays a_o_tape a_o_text a_o_opened a_o_farBy a_o_attendsBy a_o_coveredBy a_o_cameBy a_o_cameThen a_o_fallsBy a_o_loops a_o_ran a_o_told1 o_status o_top o_bottom o_taped o_size o_token o_from o_end o_value o_faultKind o_faultPlace o_faults o_seen o_toldParts o_depth o_counted o_becameThen o_firstCorner o_drawn o_ranSteps o_isTold o_marks o_at o_trays st21.2 v1 u38 hu38) [0, 1, 3] cal_X12_explains cav_X12_explains lk_X12_429 cx hP hD hS hl dX12_sure_38 rfl rfl rfl rfl (Nat.le_of_ble_eq_true rfl) ⟨Nat.le_of_ble_eq_true rfl, Nat.le_of_ble_eq_true rfl⟩ rfl (by decide) (fun H locs hP hS => ?_)
        refine lv_if_eq (tgt := 59) hx hb dX12_sure_41 (by decide) (fun hc => ?_) (fun hc => ?_)
        · have hf := it_t hc hf
          exact hj59 _ _ _ _ _ hf hP hD hS (lv_sub hl [0, 1, 2, 3] rfl)
        · have hf := it_f hc hf
          refine lv_iload_n hx hb dX12_sure_44 rfl (lv_at hl 2 rfl) ?_
          refine lv_iconst (v := (-1)) hx hb dX12_sure_45 (by decide) ?_
          refine lv_icmp_ne (tgt := 54) hx hb dX12_sure_46 (by decide) (fun hc => ?_) (fun hc => ?_)
          · have hf := it_f hc hf
            refine lv_iload_n hx hb dX12_sure_54 rfl (lv_at hl 2 rfl) ?_
            refine lv_iload hx hb dX12_sure_55 (lv_at hl 3 rfl) ?_
            refine lv_iand hx hb dX12_sure_57 ?_
            exact hj58 _ _ _ _ _ hf hP hD hS (lv_sub hl [0, 1, 3] rfl)
          · have hf := it_t hc hf
            refine lv_iload hx hb dX12_sure_49 (lv_at hl 3 rfl) ?_
            refine lv_goto (tgt := 58) hx hb dX12_sure_51 (by decide) ?_
            exact hj58 _ _ _ _ _ hf hP hD hS (lv_sub hl [0, 1, 3] rfl)
    · refine fun H locs ls hP hD hS hl => ?_
      refine lv_aload_n hx hb dX12_sure_65 rfl (lv_at hl 0 rfl) ?_
      refine lv_iload_n hx hb dX12_sure_66 rfl (lv_at hl 1 rfl) ?_
      obtain ⟨u67, hu67, hf⟩ := bd hf
      refine callVI (wn := (wd_X12_sure E a_o a_o_at a_o_names a_o_sort a_o_trayMany a_o_trays a_o_tape a_o_text a_o_opened a_o_farBy a_o_attendsBy a_o_coveredBy a_o_cameBy a_o_cameThen a_o_fallsBy a_o_loops a_o_ran a_o_told1 u67.2 o_top o_bottom o_taped o_size o_token o_from o_end o_value o_faultKind o_faultPlace o_faults o_seen o_toldParts o_depth o_counted o_becameThen o_firstCorner o_drawn o_ranSteps o_isTold o_marks o_at o_trayMany o_trays)) (n1 := 4) (ct_X12_orNone l E a_o a_o_at a_o_names a_o_sort a_o_trayMany a_o_trays a_o_tape a_o_text a_o_opened a_o_farBy a_o_attendsBy a_o_coveredBy a_o_cameBy a_o_cameThen a_o_fallsBy a_o_loops a_o_ran a_o_told1 o_status o_top o_bottom o_taped o_size o_token o_from o_end o_value o_faultKind o_faultPlace o_faults o_seen o_toldParts o_depth o_counted o_becameThen o_firstCorner o_drawn o_ranSteps o_isTold o_marks e21 u67 hu67) [0] cal_X12_orNone cav_X12_orNone lk_X12_324 cx hP hD hS hl dX12_sure_67 rfl rfl rfl rfl (Nat.le_of_ble_eq_true rfl) ⟨Nat.le_of_ble_eq_true rfl, Nat.le_of_ble_eq_true rfl⟩ rfl (by decide +kernel) rfl [some 0, none, none, none] rfl (by decide +kernel) rfl (fun H locs hP hD hS => ?_)
      obtain rfl := Option.some.inj hf
      subst hq
      exact retI cx hP hD hS dX12_sure_70
  · have hf := it_f hc hf
    refine lv_aload_n hx hb dX12_sure_10 rfl (lv_at hl 1 rfl) ?_
    refine lv_iload_n hx hb dX12_sure_11 rfl (lv_at hl 0 rfl) ?_
    obtain ⟨u12, hu12, hf⟩ := bd hf
    refine callVI (wn := (wd_X12_sure E a_o a_o_at a_o_names a_o_sort a_o_trayMany a_o_trays a_o_tape a_o_text a_o_opened a_o_farBy a_o_attendsBy a_o_coveredBy a_o_cameBy a_o_cameThen a_o_fallsBy a_o_loops a_o_ran a_o_told1 u12.2 o_top o_bottom o_taped o_size o_token o_from o_end o_value o_faultKind o_faultPlace o_faults o_seen o_toldParts o_depth o_counted o_becameThen o_firstCorner o_drawn o_ranSteps o_isTold o_marks o_at o_trayMany o_trays)) (n1 := 4) (ct_X12_refuse l E a_o a_o_at a_o_names a_o_sort a_o_trayMany a_o_trays a_o_tape a_o_text a_o_opened a_o_farBy a_o_attendsBy a_o_coveredBy a_o_cameBy a_o_cameThen a_o_fallsBy a_o_loops a_o_ran a_o_told1 o_status o_top o_bottom o_taped o_size o_token o_from o_end o_value o_faultKind o_faultPlace o_faults o_seen o_toldParts o_depth o_counted o_becameThen o_firstCorner o_drawn o_ranSteps o_isTold o_marks u2 u12 hu12) [0] cal_X12_refuse cav_X12_refuse lk_X12_85 cx hP hD hS hl dX12_sure_12 rfl rfl rfl rfl (Nat.le_of_ble_eq_true rfl) ⟨Nat.le_of_ble_eq_true rfl, Nat.le_of_ble_eq_true rfl⟩ rfl (by decide +kernel) rfl [some 0, none, none, none] rfl (by decide +kernel) rfl (fun H locs hP hD hS => ?_)
    obtain rfl := Option.some.inj hf
    subst hq
    exact retI cx hP hD hS dX12_sure_15
def X12_wrongLaws_b49 (F : Nat) (o_trayMany : Nat → Int32) (o_trays : Nat → Int64) (v1 : Int32) (v2 : Int32) (st49 : Int32) : Option ((Int32) ⊕ ((Unit) ⊕ (Unit))) :=
  if v2 ≤ st49 then
  some (.inr (.inr (())))
  else
  if ix ((60 * v1) + (3 * st49)) 240 then
  (X12_isFrom (jat o_trays ((60 * v1) + (3 * st49))) (1 : Int64) (4 : Int64)).bind fun u75 =>
  if u75 = 0 then
  some (.inr (.inl (())))
  else
  if ix (((60 * v1) + (3 * st49)) + 1) 240 then
  (X12_isFrom (jat o_trays (((60 * v1) + (3 * st49)) + 1)) (0 : Int64) (99 : Int64)).bind fun u94 =>
  if u94 = 0 then
  some (.inr (.inl (())))
  else
  if ix (((60 * v1) + (3 * st49)) + 2) 240 then
  (X12_isFrom (jat o_trays (((60 * v1) + (3 * st49)) + 2)) (0 : Int64) (1 : Int64)).bind fun u111 =>
  if u111 = 0 then
  some (.inr (.inl (())))
  else
  some (.inl (st49 + 1))
  else none
  else none
  else none
def X12_wrongLaws (F : Nat) (o_trayMany : Nat → Int32) (o_trays : Nat → Int64) (v1 : Int32) (v2 : Int32) : Option (Int32) :=
  (X12_isTray v1).bind fun u1 =>
  if u1 = 0 then
  some 1
  else
  (X12_isFrom (v2.toInt64) (0 : Int64) (20 : Int64)).bind fun u13 =>
  if u13 = 0 then
  some 1
  else
  if ix v1 4 then
  if (jat o_trayMany v1) = (-1) then
  some 2
  else
  if ix v1 4 then
  if (3 * v2) ≤ (jat o_trayMany v1) then
  (iter (X12_wrongLaws_b49 F o_trayMany o_trays v1 v2) F 0).bind (Sum.elim (fun (e49 : Unit) =>
    some 5) (fun (e49 : Unit) =>
    some 0))
  else
  some 3
  else none
  else none
abbrev wd_X12_wrongLaws (E : vE) (a_o a_o_at a_o_names a_o_sort a_o_trayMany a_o_trays a_o_tape a_o_text a_o_opened a_o_farBy a_o_attendsBy a_o_coveredBy a_o_cameBy a_o_cameThen a_o_fallsBy a_o_loops a_o_ran a_o_told1 : Nat) (o_status : Int32) (o_top : Int64) (o_bottom : Int64) (o_taped : Int32) (o_size : Int32) (o_token : Int32) (o_from : Int32) (o_end : Int32) (o_value : Int32) (o_faultKind : Int32) (o_faultPlace : Int32) (o_faults : Int32) (o_seen : Int32) (o_toldParts : Int32) (o_depth : Int32) (o_counted : Int32) (o_becameThen : Int32) (o_firstCorner : Int32) (o_drawn : Int32) (o_ranSteps : Int32) (o_isTold : Int32) (o_marks : Int32) (o_trayMany : Nat → Int32) (o_trays : Nat → Int64) : va_W := [(a_o, .inr (12, [.ref a_o_at, .ref a_o_names, .int o_status, .long o_top, .long o_bottom, .ref a_o_sort, .ref a_o_trayMany, .ref a_o_trays, .ref a_o_tape, .ref a_o_text, .int o_taped, .int o_size, .int o_token, .int o_from, .int o_end, .int o_value, .int o_faultKind, .int o_faultPlace, .int o_faults, .int o_seen, .int o_toldParts, .ref a_o_opened, .int o_depth, .int o_counted, .ref a_o_farBy, .int o_becameThen, .ref a_o_attendsBy, .ref a_o_coveredBy, .ref a_o_cameBy, .ref a_o_cameThen, .int o_firstCorner, .ref a_o_fallsBy, .int o_drawn, .int o_ranSteps, .ref a_o_loops, .ref a_o_ran, .ref a_o_told1, .int o_isTold, .int o_marks])), (a_o_trayMany, .inl (E.2.1, 4, .inl o_trayMany)), (a_o_trays, .inl (E.2.2.1, 240, .inr (.inl o_trays)))]
set_option maxHeartbeats 4000000 in
set_option maxRecDepth 100000 in
theorem ct_X12_wrongLaws (l : Launch) (E : vE) (F : Nat) (a_o a_o_at a_o_names a_o_sort a_o_trayMany a_o_trays a_o_tape a_o_text a_o_opened a_o_farBy a_o_attendsBy a_o_coveredBy a_o_cameBy a_o_cameThen a_o_fallsBy a_o_loops a_o_ran a_o_told1 : Nat) (o_status : Int32) (o_top : Int64) (o_bottom : Int64) (o_taped : Int32) (o_size : Int32) (o_token : Int32) (o_from : Int32) (o_end : Int32) (o_value : Int32) (o_faultKind : Int32) (o_faultPlace : Int32) (o_faults : Int32) (o_seen : Int32) (o_toldParts : Int32) (o_depth : Int32) (o_counted : Int32) (o_becameThen : Int32) (o_firstCorner : Int32) (o_drawn : Int32) (o_ranSteps : Int32) (o_isTold : Int32) (o_marks : Int32) (o_trayMany : Nat → Int32) (o_trays : Nat → Int64) (v1 : Int32) (v2 : Int32) (u : Int32) (hf : X12_wrongLaws F o_trayMany o_trays v1 v2 = some u) :
    CtI l yX12_wrongLaws cX12_wrongLaws 5 (some .int) 1 E [.ref a_o, .int v1, .int v2] (wd_X12_wrongLaws E a_o a_o_at a_o_names a_o_sort a_o_trayMany a_o_trays a_o_tape a_o_text a_o_opened a_o_farBy a_o_attendsBy a_o_coveredBy a_o_cameBy a_o_cameThen a_o_fallsBy a_o_loops a_o_ran a_o_told1 o_status o_top o_bottom o_taped o_size o_token o_from o_end o_value o_faultKind o_faultPlace o_faults o_seen o_toldParts o_depth o_counted o_becameThen o_firstCorner o_drawn o_ranSteps o_isTold o_marks o_trayMany o_trays) (wd_X12_wrongLaws E a_o a_o_at a_o_names a_o_sort a_o_trayMany a_o_trays a_o_tape a_o_text a_o_opened a_o_farBy a_o_attendsBy a_o_coveredBy a_o_cameBy a_o_cameThen a_o_fallsBy a_o_loops a_o_ran a_o_told1 o_status o_top o_bottom o_taped o_size o_token o_from o_end o_value o_faultKind o_faultPlace o_faults o_seen o_toldParts o_depth o_counted o_becameThen o_firstCorner o_drawn o_ranSteps o_isTold o_marks o_trayMany o_trays) u := by
  refine ctI (by decide) (Nat.le_of_ble_eq_true rfl) ?_
  intro p e s m below meth cd A ls aa QQ hq cx hP hD hS hl
  obtain ⟨⟨hx, hb, hml, hown, hts⟩, hr, hlocks, hK, hA, hX⟩ := id cx
  have hl : lv_has ls 5 [(0, .ref a_o), (1, .int v1), (2, .int v2)] := hl
  unfold X12_wrongLaws at hf
  refine lv_iload_n hx hb dX12_wrongLaws_0 rfl (lv_at hl 1 rfl) ?_
  obtain ⟨u1, hu1, hf⟩ := bd hf
  refine keepSI (ct_X12_isTray l E v1 u1 hu1) [] cal_X12_isTray sta_X12_isTray lk_X12_96 cx hP hD hS hl dX12_wrongLaws_1 rfl rfl (Nat.le_of_ble_eq_true rfl) ⟨Nat.le_of_ble_eq_true rfl, Nat.le_of_ble_eq_true rfl⟩ rfl (by decide) (fun H locs hP hS => ?_)
  refine lv_if_eq (tgt := 19) hx hb dX12_wrongLaws_4 (by decide) (fun hc => ?_) (fun hc => ?_)
  · have hf := it_t hc hf
    refine lv_iconst (v := 1) hx hb dX12_wrongLaws_19 (by decide) ?_
    obtain rfl := Option.some.inj hf
    subst hq
    exact retI cx hP hD hS dX12_wrongLaws_20
  · have hf := it_f hc hf
    refine lv_iload_n hx hb dX12_wrongLaws_7 rfl (lv_at hl 2 rfl) ?_
    refine lv_i2l (v := (v2.toInt64)) hx hb dX12_wrongLaws_8 rfl ?_
    refine lv_lconst (v := 0) hx hb dX12_wrongLaws_9 (by decide) ?_
    refine lv_ldc2 (v := 20) hx hb hown (hts _ kl_X12_432) dX12_wrongLaws_10 ?_
    obtain ⟨u13, hu13, hf⟩ := bd hf
    refine keepSI (ct_X12_isFrom l E (v2.toInt64) (0 : Int64) (20 : Int64) u13 hu13) [] cal_X12_isFrom sta_X12_isFrom lk_X12_359 cx hP hD hS hl dX12_wrongLaws_13 rfl rfl (Nat.le_of_ble_eq_true rfl) ⟨Nat.le_of_ble_eq_true rfl, Nat.le_of_ble_eq_true rfl⟩ rfl (by decide) (fun H locs hP hS => ?_)
    refine lv_if_ne (tgt := 21) hx hb dX12_wrongLaws_16 (by decide) (fun hc => ?_) (fun hc => ?_)
    · have hf := it_f hc hf
      refine lv_aload_n hx hb dX12_wrongLaws_21 rfl (lv_at hl 0 rfl) ?_
      refine va_get (D := E.1) (ci := 12) (v := .ref a_o_trayMany) (C := RX12) (T := TX12) (N := 39) hx hb hts inX12 hown hK hP 0 rfl rfl 6 (by decide) (hts _ fl_X12_24) (fun _ h9 => h9) rfl dX12_wrongLaws_22 ?_
      refine lv_iload_n hx hb dX12_wrongLaws_25 rfl (lv_at hl 1 rfl) ?_
      obtain ⟨hi, hf⟩ := ck hf
      refine r_iald 1 cx hP rfl hi dX12_wrongLaws_26 ?_
      refine lv_iconst (v := (-1)) hx hb dX12_wrongLaws_27 (by decide) ?_
      refine lv_icmp_ne (tgt := 33) hx hb dX12_wrongLaws_28 (by decide) (fun hc => ?_) (fun hc => ?_)
      · have hf := it_f hc hf
        refine lv_aload_n hx hb dX12_wrongLaws_33 rfl (lv_at hl 0 rfl) ?_
        refine va_get (D := E.1) (ci := 12) (v := .ref a_o_trayMany) (C := RX12) (T := TX12) (N := 39) hx hb hts inX12 hown hK hP 0 rfl rfl 6 (by decide) (hts _ fl_X12_24) (fun _ h9 => h9) rfl dX12_wrongLaws_34 ?_
        refine lv_iload_n hx hb dX12_wrongLaws_37 rfl (lv_at hl 1 rfl) ?_
        obtain ⟨hi, hf⟩ := ck hf
        refine r_iald 1 cx hP rfl hi dX12_wrongLaws_38 ?_
        refine lv_iconst (v := 3) hx hb dX12_wrongLaws_39 (by decide) ?_
        refine lv_iload_n hx hb dX12_wrongLaws_40 rfl (lv_at hl 2 rfl) ?_
        refine lv_imul hx hb dX12_wrongLaws_41 ?_
        refine lv_icmp_ge (tgt := 47) hx hb dX12_wrongLaws_42 (by decide) (fun hc => ?_) (fun hc => ?_)
        · have hf := it_t hc hf
          refine lv_iconst (v := 0) hx hb dX12_wrongLaws_47 (by decide) ?_
          refine lv_istore_n (lv' := [(3, .int 0), (0, .ref a_o), (1, .int v1), (2, .int v2)]) hx hb dX12_wrongLaws_48 rfl hl (by decide) rfl (fun ls hl => ?_)
          obtain ⟨e49, hit49, hf⟩ := bd hf
          refine iter_W (b := X12_wrongLaws_b49 F o_trayMany o_trays v1 v2) (P := fun st49 => ∀ (H : Heap) (locs : List Loc) (ls : Array Slot), va_P E.1 vwCl (wd_X12_wrongLaws E a_o a_o_at a_o_names a_o_sort a_o_trayMany a_o_trays a_o_tape a_o_text a_o_opened a_o_farBy a_o_attendsBy a_o_coveredBy a_o_cameBy a_o_cameThen a_o_fallsBy a_o_loops a_o_ran a_o_told1 o_status o_top o_bottom o_taped o_size o_token o_from o_end o_value o_faultKind o_faultPlace o_faults o_seen o_toldParts o_depth o_counted o_becameThen o_firstCorner o_drawn o_ranSteps o_isTold o_marks o_trayMany o_trays) H → va_D A (wd_X12_wrongLaws E a_o a_o_at a_o_names a_o_sort a_o_trayMany a_o_trays a_o_tape a_o_text a_o_opened a_o_farBy a_o_attendsBy a_o_coveredBy a_o_cameBy a_o_cameThen a_o_fallsBy a_o_loops a_o_ran a_o_told1 o_status o_top o_bottom o_taped o_size o_token o_from o_end o_value o_faultKind o_faultPlace o_faults o_seen o_toldParts o_depth o_counted o_becameThen o_firstCorner o_drawn o_ranSteps o_isTold o_marks o_trayMany o_trays) → va_S A s.heap H locs → lv_has ls 5 [(0, .ref a_o), (1, .int v1), (2, .int v2), (3, .int st49)] → W p l e (rmd 1) s m aa below meth cd H locs 0 0 QQ (F0 m 49 ls [])) (G := (Sum.elim (fun (e49 : Unit) => ∀ (H : Heap) (locs : List Loc) (ls : Array Slot), va_P E.1 vwCl (wd_X12_wrongLaws E a_o a_o_at a_o_names a_o_sort a_o_trayMany a_o_trays a_o_tape a_o_text a_o_opened a_o_farBy a_o_attendsBy a_o_coveredBy a_o_cameBy a_o_cameThen a_o_fallsBy a_o_loops a_o_ran a_o_told1 o_status o_top o_bottom o_taped o_size o_token o_from o_end o_value o_faultKind o_faultPlace o_faults o_seen o_toldParts o_depth o_counted o_becameThen o_firstCorner o_drawn o_ranSteps o_isTold o_marks o_trayMany o_trays) H → va_D A (wd_X12_wrongLaws E a_o a_o_at a_o_names a_o_sort a_o_trayMany a_o_trays a_o_tape a_o_text a_o_opened a_o_farBy a_o_attendsBy a_o_coveredBy a_o_cameBy a_o_cameThen a_o_fallsBy a_o_loops a_o_ran a_o_told1 o_status o_top o_bottom o_taped o_size o_token o_from o_end o_value o_faultKind o_faultPlace o_faults o_seen o_toldParts o_depth o_counted o_becameThen o_firstCorner o_drawn o_ranSteps o_isTold o_marks o_trayMany o_trays) → va_S A s.heap H locs → lv_has ls 5 [] → W p l e (rmd 1) s m aa below meth cd H locs 0 0 QQ (F0 m 117 ls [])) (fun (e49 : Unit) => ∀ (H : Heap) (locs : List Loc) (ls : Array Slot), va_P E.1 vwCl (wd_X12_wrongLaws E a_o a_o_at a_o_names a_o_sort a_o_trayMany a_o_trays a_o_tape a_o_text a_o_opened a_o_farBy a_o_attendsBy a_o_coveredBy a_o_cameBy a_o_cameThen a_o_fallsBy a_o_loops a_o_ran a_o_told1 o_status o_top o_bottom o_taped o_size o_token o_from o_end o_value o_faultKind o_faultPlace o_faults o_seen o_toldParts o_depth o_counted o_becameThen o_firstCorner o_drawn o_ranSteps o_isTold o_marks o_trayMany o_trays) H → va_D A (wd_X12_wrongLaws E a_o a_o_at a_o_names a_o_sort a_o_trayMany a_o_trays a_o_tape a_o_text a_o_opened a_o_farBy a_o_attendsBy a_o_coveredBy a_o_cameBy a_o_cameThen a_o_fallsBy a_o_loops a_o_ran a_o_told1 o_status o_top o_bottom o_taped o_size o_token o_from o_end o_value o_faultKind o_faultPlace o_faults o_seen o_toldParts o_depth o_counted o_becameThen o_firstCorner o_drawn o_ranSteps o_isTold o_marks o_trayMany o_trays) → va_S A s.heap H locs → lv_has ls 5 [] → W p l e (rmd 1) s m aa below meth cd H locs 0 0 QQ (F0 m 125 ls [])))) ?_ F 0 e49 hit49 ?_ _ _ _ hP hD hS (lv_sub hl [1, 2, 3, 0] rfl)
          · intro st49 r49 hf hk49 he49 H locs ls hP hD hS hl
            unfold X12_wrongLaws_b49 at hf
            refine lv_iload_n hx hb dX12_wrongLaws_49 rfl (lv_at hl 3 rfl) ?_
            refine lv_iload_n hx hb dX12_wrongLaws_50 rfl (lv_at hl 2 rfl) ?_
            refine lv_icmp_ge (tgt := 125) hx hb dX12_wrongLaws_51 (by decide) (fun hc => ?_) (fun hc => ?_)
            · have hf := it_t hc hf
              exact he49 _ (Option.some.inj hf).symm _ _ _ hP hD hS (lv_sub hl [] rfl)
            · have hf := it_f hc hf
              refine lv_bipush (v := 60) hx hb dX12_wrongLaws_54 (by decide) ?_
              refine lv_iload_n hx hb dX12_wrongLaws_56 rfl (lv_at hl 1 rfl) ?_
              refine lv_imul hx hb dX12_wrongLaws_57 ?_
              refine lv_iconst (v := 3) hx hb dX12_wrongLaws_58 (by decide) ?_
              refine lv_iload_n hx hb dX12_wrongLaws_59 rfl (lv_at hl 3 rfl) ?_
              refine lv_imul hx hb dX12_wrongLaws_60 ?_
              refine lv_iadd hx hb dX12_wrongLaws_61 ?_
              refine lv_istore (lv' := [(4, .int ((60 * v1) + (3 * st49))), (0, .ref a_o), (1, .int v1), (2, .int v2), (3, .int st49)]) hx hb dX12_wrongLaws_62 hl (by decide) rfl (fun ls hl => ?_)
              refine lv_aload_n hx hb dX12_wrongLaws_64 rfl (lv_at hl 1 rfl) ?_
              refine va_get (D := E.1) (ci := 12) (v := .ref a_o_trays) (C := RX12) (T := TX12) (N := 39) hx hb hts inX12 hown hK hP 0 rfl rfl 7 (by decide) (hts _ fl_X12_27) (fun _ h9 => h9) rfl dX12_wrongLaws_65 ?_
              refine lv_iload hx hb dX12_wrongLaws_68 (lv_at hl 0 rfl) ?_
              obtain ⟨hi, hf⟩ := ck hf
              refine r_lald 2 cx hP rfl hi dX12_wrongLaws_70 ?_
              refine lv_lconst (v := 1) hx hb dX12_wrongLaws_71 (by decide) ?_
              refine lv_ldc2 (v := 4) hx hb hown (hts _ kl_X12_369) dX12_wrongLaws_72 ?_
              obtain ⟨u75, hu75, hf⟩ := bd hf
              refine keepSI (ct_X12_isFrom l E (jat o_trays ((60 * v1) + (3 * st49))) (1 : Int64) (4 : Int64) u75 hu75) [] cal_X12_isFrom sta_X12_isFrom lk_X12_359 cx hP hD hS hl dX12_wrongLaws_75 rfl rfl (Nat.le_of_ble_eq_true rfl) ⟨Nat.le_of_ble_eq_true rfl, Nat.le_of_ble_eq_true rfl⟩ rfl (by decide) (fun H locs hP hS => ?_)
              refine lv_if_eq (tgt := 117) hx hb dX12_wrongLaws_78 (by decide) (fun hc => ?_) (fun hc => ?_)
              · have hf := it_t hc hf
                exact he49 _ (Option.some.inj hf).symm _ _ _ hP hD hS (lv_sub hl [] rfl)
              · have hf := it_f hc hf
                refine lv_aload_n hx hb dX12_wrongLaws_81 rfl (lv_at hl 1 rfl) ?_
                refine va_get (D := E.1) (ci := 12) (v := .ref a_o_trays) (C := RX12) (T := TX12) (N := 39) hx hb hts inX12 hown hK hP 0 rfl rfl 7 (by decide) (hts _ fl_X12_27) (fun _ h9 => h9) rfl dX12_wrongLaws_82 ?_
                refine lv_iload hx hb dX12_wrongLaws_85 (lv_at hl 0 rfl) ?_
                refine lv_iconst (v := 1) hx hb dX12_wrongLaws_87 (by decide) ?_
                refine lv_iadd hx hb dX12_wrongLaws_88 ?_
                obtain ⟨hi, hf⟩ := ck hf
                refine r_lald 2 cx hP rfl hi dX12_wrongLaws_89 ?_
                refine lv_lconst (v := 0) hx hb dX12_wrongLaws_90 (by decide) ?_
                refine lv_ldc2 (v := 99) hx hb hown (hts _ kl_X12_357) dX12_wrongLaws_91 ?_
                obtain ⟨u94, hu94, hf⟩ := bd hf
                refine keepSI (ct_X12_isFrom l E (jat o_trays (((60 * v1) + (3 * st49)) + 1)) (0 : Int64) (99 : Int64) u94 hu94) [] cal_X12_isFrom sta_X12_isFrom lk_X12_359 cx hP hD hS hl dX12_wrongLaws_94 rfl rfl (Nat.le_of_ble_eq_true rfl) ⟨Nat.le_of_ble_eq_true rfl, Nat.le_of_ble_eq_true rfl⟩ rfl (by decide) (fun H locs hP hS => ?_)
                refine lv_if_eq (tgt := 117) hx hb dX12_wrongLaws_97 (by decide) (fun hc => ?_) (fun hc => ?_)
                · have hf := it_t hc hf
                  exact he49 _ (Option.some.inj hf).symm _ _ _ hP hD hS (lv_sub hl [] rfl)
                · have hf := it_f hc hf
                  refine lv_aload_n hx hb dX12_wrongLaws_100 rfl (lv_at hl 1 rfl) ?_
                  refine va_get (D := E.1) (ci := 12) (v := .ref a_o_trays) (C := RX12) (T := TX12) (N := 39) hx hb hts inX12 hown hK hP 0 rfl rfl 7 (by decide) (hts _ fl_X12_27) (fun _ h9 => h9) rfl dX12_wrongLaws_101 ?_
                  refine lv_iload hx hb dX12_wrongLaws_104 (lv_at hl 0 rfl) ?_
                  refine lv_iconst (v := 2) hx hb dX12_wrongLaws_106 (by decide) ?_
                  refine lv_iadd hx hb dX12_wrongLaws_107 ?_
                  obtain ⟨hi, hf⟩ := ck hf
                  refine r_lald 2 cx hP rfl hi dX12_wrongLaws_108 ?_
                  refine lv_lconst (v := 0) hx hb dX12_wrongLaws_109 (by decide) ?_
                  refine lv_lconst (v := 1) hx hb dX12_wrongLaws_110 (by decide) ?_
                  obtain ⟨u111, hu111, hf⟩ := bd hf
                  refine keepSI (ct_X12_isFrom l E (jat o_trays (((60 * v1) + (3 * st49)) + 2)) (0 : Int64) (1 : Int64) u111 hu111) [] cal_X12_isFrom sta_X12_isFrom lk_X12_359 cx hP hD hS hl dX12_wrongLaws_111 rfl rfl (Nat.le_of_ble_eq_true rfl) ⟨Nat.le_of_ble_eq_true rfl, Nat.le_of_ble_eq_true rfl⟩ rfl (by decide) (fun H locs hP hS => ?_)
                  refine lv_if_ne (tgt := 119) hx hb dX12_wrongLaws_114 (by decide) (fun hc => ?_) (fun hc => ?_)
                  · have hf := it_f hc hf
                    refine lv_iinc (v := (st49 + 1)) (lv' := [(3, .int (st49 + 1)), (4, .int ((60 * v1) + (3 * st49))), (0, .ref a_o), (1, .int v1), (2, .int v2)]) hx hb dX12_wrongLaws_119 hl (k := 4) rfl rfl (by decide) rfl (fun ls hl => ?_)
                    refine lv_goto (tgt := 49) hx hb dX12_wrongLaws_122 (by decide) ?_
                    exact hk49 _ (Option.some.inj hf).symm _ _ _ hP hD hS (lv_sub hl [2, 3, 4, 0] rfl)
                  · have hf := it_t hc hf
                    exact he49 _ (Option.some.inj hf).symm _ _ _ hP hD hS (lv_sub hl [] rfl)
          · rcases e49 with e49 | e49
            · have hf := se_l hf
              refine fun H locs ls hP hD hS hl => ?_
              refine lv_iconst (v := 5) hx hb dX12_wrongLaws_117 (by decide) ?_
              obtain rfl := Option.some.inj hf
              subst hq
              exact retI cx hP hD hS dX12_wrongLaws_118
            · have hf := se_r hf
              refine fun H locs ls hP hD hS hl => ?_
              refine lv_iconst (v := 0) hx hb dX12_wrongLaws_125 (by decide) ?_
              obtain rfl := Option.some.inj hf
              subst hq
              exact retI cx hP hD hS dX12_wrongLaws_126
        · have hf := it_f hc hf
          refine lv_iconst (v := 3) hx hb dX12_wrongLaws_45 (by decide) ?_
          obtain rfl := Option.some.inj hf
          subst hq
          exact retI cx hP hD hS dX12_wrongLaws_46
      · have hf := it_t hc hf
        refine lv_iconst (v := 2) hx hb dX12_wrongLaws_31 (by decide) ?_
        obtain rfl := Option.some.inj hf
        subst hq
        exact retI cx hP hD hS dX12_wrongLaws_32
    · have hf := it_t hc hf
      refine lv_iconst (v := 1) hx hb dX12_wrongLaws_19 (by decide) ?_
      obtain rfl := Option.some.inj hf
      subst hq
      exact retI cx hP hD hS dX12_wrongLaws_20
def X12_isLaw_j75 (F : Nat) (o_trays : Nat → Int64) (v1 : Int32) (v2 : Int32) (v3 : Int32) (v4 : Int32) (v5 : Int32) (k0 : Int32) (k1 : Int32) : Option ((Int32) ⊕ ((Unit) ⊕ (Unit))) :=
  if k1 = k0 then
  some (.inl (v5 + 1))
  else
  some (.inr (.inl (())))
def X12_isLaw_j52 (F : Nat) (o_trays : Nat → Int64) (v1 : Int32) (v2 : Int32) (v3 : Int32) (v4 : Int32) (v5 : Int32) (v6 : Int32) (k0 : Int32) : Option ((Int32) ⊕ ((Unit) ⊕ (Unit))) :=
  if ix (v6 + 2) 240 then
  if (lg_cmp (jat o_trays (v6 + 2)) 1) = 0 then
  X12_isLaw_j75 F o_trays v1 v2 v3 v4 v5 1 k0
  else
  X12_isLaw_j75 F o_trays v1 v2 v3 v4 v5 0 k0
  else none
def X12_isLaw_b3 (F : Nat) (o_trays : Nat → Int64) (v1 : Int32) (v2 : Int32) (v3 : Int32) (v4 : Int32) (st3 : Int32) : Option ((Int32) ⊕ ((Unit) ⊕ (Unit))) :=
  if v4 ≤ st3 then
  some (.inr (.inr (())))
  else
  if ix (((60 * v3) + (3 * st3)) + 1) 240 then
  if ix ((60 * v3) + (3 * st3)) 240 then
  if (lg_cmp ((jat o_trays (((60 * v3) + (3 * st3)) + 1)) * (v2.toInt64)) ((jat o_trays ((60 * v3) + (3 * st3))) * (v1.toInt64))) < 0 then
  X12_isLaw_j52 F o_trays v1 v2 v3 v4 st3 ((60 * v3) + (3 * st3)) 0
  else
  X12_isLaw_j52 F o_trays v1 v2 v3 v4 st3 ((60 * v3) + (3 * st3)) 1
  else none
  else none
def X12_isLaw (F : Nat) (o_trays : Nat → Int64) (v1 : Int32) (v2 : Int32) (v3 : Int32) (v4 : Int32) : Option (Int32) :=
  (iter (X12_isLaw_b3 F o_trays v1 v2 v3 v4) F 0).bind (Sum.elim (fun (e3 : Unit) =>
    some 0) (fun (e3 : Unit) =>
    some 1))
abbrev wd_X12_isLaw (E : vE) (a_o a_o_at a_o_names a_o_sort a_o_trayMany a_o_trays a_o_tape a_o_text a_o_opened a_o_farBy a_o_attendsBy a_o_coveredBy a_o_cameBy a_o_cameThen a_o_fallsBy a_o_loops a_o_ran a_o_told1 : Nat) (o_status : Int32) (o_top : Int64) (o_bottom : Int64) (o_taped : Int32) (o_size : Int32) (o_token : Int32) (o_from : Int32) (o_end : Int32) (o_value : Int32) (o_faultKind : Int32) (o_faultPlace : Int32) (o_faults : Int32) (o_seen : Int32) (o_toldParts : Int32) (o_depth : Int32) (o_counted : Int32) (o_becameThen : Int32) (o_firstCorner : Int32) (o_drawn : Int32) (o_ranSteps : Int32) (o_isTold : Int32) (o_marks : Int32) (o_trays : Nat → Int64) : va_W := [(a_o, .inr (12, [.ref a_o_at, .ref a_o_names, .int o_status, .long o_top, .long o_bottom, .ref a_o_sort, .ref a_o_trayMany, .ref a_o_trays, .ref a_o_tape, .ref a_o_text, .int o_taped, .int o_size, .int o_token, .int o_from, .int o_end, .int o_value, .int o_faultKind, .int o_faultPlace, .int o_faults, .int o_seen, .int o_toldParts, .ref a_o_opened, .int o_depth, .int o_counted, .ref a_o_farBy, .int o_becameThen, .ref a_o_attendsBy, .ref a_o_coveredBy, .ref a_o_cameBy, .ref a_o_cameThen, .int o_firstCorner, .ref a_o_fallsBy, .int o_drawn, .int o_ranSteps, .ref a_o_loops, .ref a_o_ran, .ref a_o_told1, .int o_isTold, .int o_marks])), (a_o_trays, .inl (E.2.2.1, 240, .inr (.inl o_trays)))]
set_option maxHeartbeats 4000000 in
set_option maxRecDepth 100000 in
theorem ct_X12_isLaw (l : Launch) (E : vE) (F : Nat) (a_o a_o_at a_o_names a_o_sort a_o_trayMany a_o_trays a_o_tape a_o_text a_o_opened a_o_farBy a_o_attendsBy a_o_coveredBy a_o_cameBy a_o_cameThen a_o_fallsBy a_o_loops a_o_ran a_o_told1 : Nat) (o_status : Int32) (o_top : Int64) (o_bottom : Int64) (o_taped : Int32) (o_size : Int32) (o_token : Int32) (o_from : Int32) (o_end : Int32) (o_value : Int32) (o_faultKind : Int32) (o_faultPlace : Int32) (o_faults : Int32) (o_seen : Int32) (o_toldParts : Int32) (o_depth : Int32) (o_counted : Int32) (o_becameThen : Int32) (o_firstCorner : Int32) (o_drawn : Int32) (o_ranSteps : Int32) (o_isTold : Int32) (o_marks : Int32) (o_trays : Nat → Int64) (v1 : Int32) (v2 : Int32) (v3 : Int32) (v4 : Int32) (u : Int32) (hf : X12_isLaw F o_trays v1 v2 v3 v4 = some u) :
    CtI l yX12_isLaw cX12_isLaw 8 (some .boolean) 0 E [.ref a_o, .int v1, .int v2, .int v3, .int v4] (wd_X12_isLaw E a_o a_o_at a_o_names a_o_sort a_o_trayMany a_o_trays a_o_tape a_o_text a_o_opened a_o_farBy a_o_attendsBy a_o_coveredBy a_o_cameBy a_o_cameThen a_o_fallsBy a_o_loops a_o_ran a_o_told1 o_status o_top o_bottom o_taped o_size o_token o_from o_end o_value o_faultKind o_faultPlace o_faults o_seen o_toldParts o_depth o_counted o_becameThen o_firstCorner o_drawn o_ranSteps o_isTold o_marks o_trays) (wd_X12_isLaw E a_o a_o_at a_o_names a_o_sort a_o_trayMany a_o_trays a_o_tape a_o_text a_o_opened a_o_farBy a_o_attendsBy a_o_coveredBy a_o_cameBy a_o_cameThen a_o_fallsBy a_o_loops a_o_ran a_o_told1 o_status o_top o_bottom o_taped o_size o_token o_from o_end o_value o_faultKind o_faultPlace o_faults o_seen o_toldParts o_depth o_counted o_becameThen o_firstCorner o_drawn o_ranSteps o_isTold o_marks o_trays) u := by
  refine ctI (by decide) (Nat.le_of_ble_eq_true rfl) ?_
  intro p e s m below meth cd A ls aa QQ hq cx hP hD hS hl
  obtain ⟨⟨hx, hb, hml, hown, hts⟩, hr, hlocks, hK, hA, hX⟩ := id cx
  have hl : lv_has ls 8 [(0, .ref a_o), (1, .int v1), (2, .int v2), (3, .int v3), (4, .int v4)] := hl
  unfold X12_isLaw at hf
  refine lv_iconst (v := 0) hx hb dX12_isLaw_0 (by decide) ?_
  refine lv_istore (lv' := [(5, .int 0), (0, .ref a_o), (1, .int v1), (2, .int v2), (3, .int v3), (4, .int v4)]) hx hb dX12_isLaw_1 hl (by decide) rfl (fun ls hl => ?_)
  obtain ⟨e3, hit3, hf⟩ := bd hf
  refine iter_W (b := X12_isLaw_b3 F o_trays v1 v2 v3 v4) (P := fun st3 => ∀ (H : Heap) (locs : List Loc) (ls : Array Slot), va_P E.1 vwCl (wd_X12_isLaw E a_o a_o_at a_o_names a_o_sort a_o_trayMany a_o_trays a_o_tape a_o_text a_o_opened a_o_farBy a_o_attendsBy a_o_coveredBy a_o_cameBy a_o_cameThen a_o_fallsBy a_o_loops a_o_ran a_o_told1 o_status o_top o_bottom o_taped o_size o_token o_from o_end o_value o_faultKind o_faultPlace o_faults o_seen o_toldParts o_depth o_counted o_becameThen o_firstCorner o_drawn o_ranSteps o_isTold o_marks o_trays) H → va_D A (wd_X12_isLaw E a_o a_o_at a_o_names a_o_sort a_o_trayMany a_o_trays a_o_tape a_o_text a_o_opened a_o_farBy a_o_attendsBy a_o_coveredBy a_o_cameBy a_o_cameThen a_o_fallsBy a_o_loops a_o_ran a_o_told1 o_status o_top o_bottom o_taped o_size o_token o_from o_end o_value o_faultKind o_faultPlace o_faults o_seen o_toldParts o_depth o_counted o_becameThen o_firstCorner o_drawn o_ranSteps o_isTold o_marks o_trays) → va_S A s.heap H locs → lv_has ls 8 [(0, .ref a_o), (1, .int v1), (2, .int v2), (3, .int v3), (4, .int v4), (5, .int st3)] → W p l e (rmd 0) s m aa below meth cd H locs 0 0 QQ (F0 m 3 ls [])) (G := (Sum.elim (fun (e3 : Unit) => ∀ (H : Heap) (locs : List Loc) (ls : Array Slot), va_P E.1 vwCl (wd_X12_isLaw E a_o a_o_at a_o_names a_o_sort a_o_trayMany a_o_trays a_o_tape a_o_text a_o_opened a_o_farBy a_o_attendsBy a_o_coveredBy a_o_cameBy a_o_cameThen a_o_fallsBy a_o_loops a_o_ran a_o_told1 o_status o_top o_bottom o_taped o_size o_token o_from o_end o_value o_faultKind o_faultPlace o_faults o_seen o_toldParts o_depth o_counted o_becameThen o_firstCorner o_drawn o_ranSteps o_isTold o_marks o_trays) H → va_D A (wd_X12_isLaw E a_o a_o_at a_o_names a_o_sort a_o_trayMany a_o_trays a_o_tape a_o_text a_o_opened a_o_farBy a_o_attendsBy a_o_coveredBy a_o_cameBy a_o_cameThen a_o_fallsBy a_o_loops a_o_ran a_o_told1 o_status o_top o_bottom o_taped o_size o_token o_from o_end o_value o_faultKind o_faultPlace o_faults o_seen o_toldParts o_depth o_counted o_becameThen o_firstCorner o_drawn o_ranSteps o_isTold o_marks o_trays) → va_S A s.heap H locs → lv_has ls 8 [] → W p l e (rmd 0) s m aa below meth cd H locs 0 0 QQ (F0 m 78 ls [])) (fun (e3 : Unit) => ∀ (H : Heap) (locs : List Loc) (ls : Array Slot), va_P E.1 vwCl (wd_X12_isLaw E a_o a_o_at a_o_names a_o_sort a_o_trayMany a_o_trays a_o_tape a_o_text a_o_opened a_o_farBy a_o_attendsBy a_o_coveredBy a_o_cameBy a_o_cameThen a_o_fallsBy a_o_loops a_o_ran a_o_told1 o_status o_top o_bottom o_taped o_size o_token o_from o_end o_value o_faultKind o_faultPlace o_faults o_seen o_toldParts o_depth o_counted o_becameThen o_firstCorner o_drawn o_ranSteps o_isTold o_marks o_trays) H → va_D A (wd_X12_isLaw E a_o a_o_at a_o_names a_o_sort a_o_trayMany a_o_trays a_o_tape a_o_text a_o_opened a_o_farBy a_o_attendsBy a_o_coveredBy a_o_cameBy a_o_cameThen a_o_fallsBy a_o_loops a_o_ran a_o_told1 o_status o_top o_bottom o_taped o_size o_token o_from o_end o_value o_faultKind o_faultPlace o_faults o_seen o_toldParts o_depth o_counted o_becameThen o_firstCorner o_drawn o_ranSteps o_isTold o_marks o_trays) → va_S A s.heap H locs → lv_has ls 8 [] → W p l e (rmd 0) s m aa below meth cd H locs 0 0 QQ (F0 m 86 ls [])))) ?_ F 0 e3 hit3 ?_ _ _ _ hP hD hS (lv_sub hl [1, 2, 3, 4, 5, 0] rfl)
  · intro st3 r3 hf hk3 he3 H locs ls hP hD hS hl
    have hj75 : ∀ (v5_j75 : Int32) (k0_j75 : Int32) (k1_j75 : Int32) (H : Heap) (locs : List Loc) (ls : Array Slot), X12_isLaw_j75 F o_trays v1 v2 v3 v4 v5_j75 k0_j75 k1_j75 = some r3 → va_P E.1 vwCl (wd_X12_isLaw E a_o a_o_at a_o_names a_o_sort a_o_trayMany a_o_trays a_o_tape a_o_text a_o_opened a_o_farBy a_o_attendsBy a_o_coveredBy a_o_cameBy a_o_cameThen a_o_fallsBy a_o_loops a_o_ran a_o_told1 o_status o_top o_bottom o_taped o_size o_token o_from o_end o_value o_faultKind o_faultPlace o_faults o_seen o_toldParts o_depth o_counted o_becameThen o_firstCorner o_drawn o_ranSteps o_isTold o_marks o_trays) H → va_D A (wd_X12_isLaw E a_o a_o_at a_o_names a_o_sort a_o_trayMany a_o_trays a_o_tape a_o_text a_o_opened a_o_farBy a_o_attendsBy a_o_coveredBy a_o_cameBy a_o_cameThen a_o_fallsBy a_o_loops a_o_ran a_o_told1 o_status o_top o_bottom o_taped o_size o_token o_from o_end o_value o_faultKind o_faultPlace o_faults o_seen o_toldParts o_depth o_counted o_becameThen o_firstCorner o_drawn o_ranSteps o_isTold o_marks o_trays) → va_S A s.heap H locs → lv_has ls 8 [(0, .ref a_o), (1, .int v1), (2, .int v2), (3, .int v3), (4, .int v4), (5, .int v5_j75)] → W p l e (rmd 0) s m aa below meth cd H locs 0 0 QQ (F0 m 75 ls [.int k0_j75, .int k1_j75]) := by
      intro v5_j75 k0_j75 k1_j75 H locs ls hf hP hD hS hl
      unfold X12_isLaw_j75 at hf
      refine lv_icmp_eq (tgt := 80) hx hb dX12_isLaw_75 (by decide) (fun hc => ?_) (fun hc => ?_)
      · have hf := it_t hc hf
        refine lv_iinc (v := (v5_j75 + 1)) (lv' := [(5, .int (v5_j75 + 1)), (0, .ref a_o), (1, .int v1), (2, .int v2), (3, .int v3), (4, .int v4)]) hx hb dX12_isLaw_80 hl (k := 5) rfl rfl (by decide) rfl (fun ls hl => ?_)
        refine lv_goto (tgt := 3) hx hb dX12_isLaw_83 (by decide) ?_
        exact hk3 _ (Option.some.inj hf).symm _ _ _ hP hD hS (lv_sub hl [1, 2, 3, 4, 5, 0] rfl)
      · have hf := it_f hc hf
        exact he3 _ (Option.some.inj hf).symm _ _ _ hP hD hS (lv_sub hl [] rfl)
    have hj52 : ∀ (v5_j52 : Int32) (v6_j52 : Int32) (k0_j52 : Int32) (H : Heap) (locs : List Loc) (ls : Array Slot), X12_isLaw_j52 F o_trays v1 v2 v3 v4 v5_j52 v6_j52 k0_j52 = some r3 → va_P E.1 vwCl (wd_X12_isLaw E a_o a_o_at a_o_names a_o_sort a_o_trayMany a_o_trays a_o_tape a_o_text a_o_opened a_o_farBy a_o_attendsBy a_o_coveredBy a_o_cameBy a_o_cameThen a_o_fallsBy a_o_loops a_o_ran a_o_told1 o_status o_top o_bottom o_taped o_size o_token o_from o_end o_value o_faultKind o_faultPlace o_faults o_seen o_toldParts o_depth o_counted o_becameThen o_firstCorner o_drawn o_ranSteps o_isTold o_marks o_trays) H → va_D A (wd_X12_isLaw E a_o a_o_at a_o_names a_o_sort a_o_trayMany a_o_trays a_o_tape a_o_text a_o_opened a_o_farBy a_o_attendsBy a_o_coveredBy a_o_cameBy a_o_cameThen a_o_fallsBy a_o_loops a_o_ran a_o_told1 o_status o_top o_bottom o_taped o_size o_token o_from o_end o_value o_faultKind o_faultPlace o_faults o_seen o_toldParts o_depth o_counted o_becameThen o_firstCorner o_drawn o_ranSteps o_isTold o_marks o_trays) → va_S A s.heap H locs → lv_has ls 8 [(0, .ref a_o), (1, .int v1), (2, .int v2), (3, .int v3), (4, .int v4), (5, .int v5_j52), (6, .int v6_j52)] → W p l e (rmd 0) s m aa below meth cd H locs 0 0 QQ (F0 m 52 ls [.int k0_j52]) := by
      intro v5_j52 v6_j52 k0_j52 H locs ls hf hP hD hS hl
      unfold X12_isLaw_j52 at hf
      refine lv_istore (lv' := [(7, .int k0_j52), (0, .ref a_o), (1, .int v1), (2, .int v2), (3, .int v3), (4, .int v4), (5, .int v5_j52), (6, .int v6_j52)]) hx hb dX12_isLaw_52 hl (by decide) rfl (fun ls hl => ?_)
      refine lv_iload hx hb dX12_isLaw_54 (lv_at hl 0 rfl) ?_
      refine lv_aload_n hx hb dX12_isLaw_56 rfl (lv_at hl 1 rfl) ?_
      refine va_get (D := E.1) (ci := 12) (v := .ref a_o_trays) (C := RX12) (T := TX12) (N := 39) hx hb hts inX12 hown hK hP 0 rfl rfl 7 (by decide) (hts _ fl_X12_27) (fun _ h9 => h9) rfl dX12_isLaw_57 ?_
      refine lv_iload hx hb dX12_isLaw_60 (lv_at hl 7 rfl) ?_
      refine lv_iconst (v := 2) hx hb dX12_isLaw_62 (by decide) ?_
      refine lv_iadd hx hb dX12_isLaw_63 ?_
      obtain ⟨hi, hf⟩ := ck hf
      refine r_lald 1 cx hP rfl hi dX12_isLaw_64 ?_
      refine lv_lconst (v := 1) hx hb dX12_isLaw_65 (by decide) ?_
      refine W.lcmp hx hb dX12_isLaw_66 ?_
      refine lv_if_ne (tgt := 74) hx hb dX12_isLaw_67 (by decide) (fun hc => ?_) (fun hc => ?_)
      · have hf := it_f hc hf
        refine lv_iconst (v := 0) hx hb dX12_isLaw_74 (by decide) ?_
        exact hj75 _ _ _ _ _ _ hf hP hD hS (lv_sub hl [1, 2, 3, 4, 5, 6] rfl)
      · have hf := it_t hc hf
        refine lv_iconst (v := 1) hx hb dX12_isLaw_70 (by decide) ?_
        refine lv_goto (tgt := 75) hx hb dX12_isLaw_71 (by decide) ?_
        exact hj75 _ _ _ _ _ _ hf hP hD hS (lv_sub hl [1, 2, 3, 4, 5, 6] rfl)
    unfold X12_isLaw_b3 at hf
    refine lv_iload hx hb dX12_isLaw_3 (lv_at hl 5 rfl) ?_
    refine lv_iload hx hb dX12_isLaw_5 (lv_at hl 4 rfl) ?_
    refine lv_icmp_ge (tgt := 86) hx hb dX12_isLaw_7 (by decide) (fun hc => ?_) (fun hc => ?_)
    · have hf := it_t hc hf
      exact he3 _ (Option.some.inj hf).symm _ _ _ hP hD hS (lv_sub hl [] rfl)
    · have hf := it_f hc hf
      refine lv_bipush (v := 60) hx hb dX12_isLaw_10 (by decide) ?_
      refine lv_iload_n hx hb dX12_isLaw_12 rfl (lv_at hl 3 rfl) ?_
      refine lv_imul hx hb dX12_isLaw_13 ?_
      refine lv_iconst (v := 3) hx hb dX12_isLaw_14 (by decide) ?_
      refine lv_iload hx hb dX12_isLaw_15 (lv_at hl 5 rfl) ?_
      refine lv_imul hx hb dX12_isLaw_17 ?_
      refine lv_iadd hx hb dX12_isLaw_18 ?_
      refine lv_istore (lv' := [(6, .int ((60 * v3) + (3 * st3))), (0, .ref a_o), (1, .int v1), (2, .int v2), (3, .int v3), (4, .int v4), (5, .int st3)]) hx hb dX12_isLaw_19 hl (by decide) rfl (fun ls hl => ?_)
      refine lv_aload_n hx hb dX12_isLaw_21 rfl (lv_at hl 1 rfl) ?_
      refine va_get (D := E.1) (ci := 12) (v := .ref a_o_trays) (C := RX12) (T := TX12) (N := 39) hx hb hts inX12 hown hK hP 0 rfl rfl 7 (by decide) (hts _ fl_X12_27) (fun _ h9 => h9) rfl dX12_isLaw_22 ?_
      refine lv_iload hx hb dX12_isLaw_25 (lv_at hl 0 rfl) ?_
      refine lv_iconst (v := 1) hx hb dX12_isLaw_27 (by decide) ?_
      refine lv_iadd hx hb dX12_isLaw_28 ?_
      obtain ⟨hi, hf⟩ := ck hf
      refine r_lald 1 cx hP rfl hi dX12_isLaw_29 ?_
      refine lv_iload_n hx hb dX12_isLaw_30 rfl (lv_at hl 3 rfl) ?_
      refine lv_i2l (v := (v2.toInt64)) hx hb dX12_isLaw_31 rfl ?_
      refine lv_lmul hx hb dX12_isLaw_32 ?_
      refine lv_aload_n hx hb dX12_isLaw_33 rfl (lv_at hl 1 rfl) ?_
      refine va_get (D := E.1) (ci := 12) (v := .ref a_o_trays) (C := RX12) (T := TX12) (N := 39) hx hb hts inX12 hown hK hP 0 rfl rfl 7 (by decide) (hts _ fl_X12_27) (fun _ h9 => h9) rfl dX12_isLaw_34 ?_
      refine lv_iload hx hb dX12_isLaw_37 (lv_at hl 0 rfl) ?_
      obtain ⟨hi, hf⟩ := ck hf
      refine r_lald 1 cx hP rfl hi dX12_isLaw_39 ?_
      refine lv_iload_n hx hb dX12_isLaw_40 rfl (lv_at hl 2 rfl) ?_
      refine lv_i2l (v := (v1.toInt64)) hx hb dX12_isLaw_41 rfl ?_
      refine lv_lmul hx hb dX12_isLaw_42 ?_
      refine W.lcmp hx hb dX12_isLaw_43 ?_
      refine lv_if_lt (tgt := 51) hx hb dX12_isLaw_44 (by decide) (fun hc => ?_) (fun hc => ?_)
      · have hf := it_t hc hf
        refine lv_iconst (v := 0) hx hb dX12_isLaw_51 (by decide) ?_
        exact hj52 _ _ _ _ _ _ hf hP hD hS (lv_sub hl [1, 2, 3, 4, 5, 6, 0] rfl)
      · have hf := it_f hc hf
        refine lv_iconst (v := 1) hx hb dX12_isLaw_47 (by decide) ?_
        refine lv_goto (tgt := 52) hx hb dX12_isLaw_48 (by decide) ?_
        exact hj52 _ _ _ _ _ _ hf hP hD hS (lv_sub hl [1, 2, 3, 4, 5, 6, 0] rfl)
  · rcases e3 with e3 | e3
    · have hf := se_l hf
      refine fun H locs ls hP hD hS hl => ?_
      refine lv_iconst (v := 0) hx hb dX12_isLaw_78 (by decide) ?_
      obtain rfl := Option.some.inj hf
      subst hq
      exact retZ cx rfl hP hD hS dX12_isLaw_79
    · have hf := se_r hf
      refine fun H locs ls hP hD hS hl => ?_
      refine lv_iconst (v := 1) hx hb dX12_isLaw_86 (by decide) ?_
      obtain rfl := Option.some.inj hf
      subst hq
      exact retZ cx rfl hP hD hS dX12_isLaw_87
def X12_laws_j65 (F : Nat) (o_status : Int32) (o_trayMany : Nat → Int32) (o_trays : Nat → Int64) (v1 : Int32) (v2 : Int32) (v5 : Int32) (k0 : Int32) (k1 : Int32) : Option ((Int32 × Int32) ⊕ ((Int32))) :=
  some (.inl ((k1 + k0), (v5 + 1)))
def X12_laws_j64 (F : Nat) (o_status : Int32) (o_trayMany : Nat → Int32) (o_trays : Nat → Int64) (v1 : Int32) (v2 : Int32) (v5 : Int32) (k0 : Int32) : Option ((Int32 × Int32) ⊕ ((Int32))) :=
  X12_laws_j65 F o_status o_trayMany o_trays v1 v2 v5 0 k0
def X12_laws_b24 (F : Nat) (o_status : Int32) (o_trayMany : Nat → Int32) (o_trays : Nat → Int64) (v1 : Int32) (v2 : Int32) (st24 : Int32 × Int32) : Option ((Int32 × Int32) ⊕ ((Int32))) :=
  if (100 : Int32) ≤ st24.2 then
  some (.inr st24.1)
  else
  if ¬ 10 = (0 : Int32) then
  if (jrem st24.2 10) ≤ 0 then
  X12_laws_j64 F o_status o_trayMany o_trays v1 v2 st24.2 st24.1
  else
  if ¬ 10 = (0 : Int32) then
  if ¬ 10 = (0 : Int32) then
  (X12_isLaw F o_trays (st24.2 / 10) (jrem st24.2 10) v1 v2).bind fun u54 =>
  if u54 = 0 then
  X12_laws_j64 F o_status o_trayMany o_trays v1 v2 st24.2 st24.1
  else
  X12_laws_j65 F o_status o_trayMany o_trays v1 v2 st24.2 1 st24.1
  else none
  else none
  else none
def X12_laws (F : Nat) (o_status : Int32) (o_trayMany : Nat → Int32) (o_trays : Nat → Int64) (v1 : Int32) (v2 : Int32) : Option (Int32 × Int32) :=
  (X12_wrongLaws F o_trayMany o_trays v1 v2).bind fun u3 =>
  if u3 ≤ 0 then
  (iter (X12_laws_b24 F o_status o_trayMany o_trays v1 v2) F (0, 11)).bind (fun (e24 : Int32) =>
    (X12_gives o_status e24).bind fun u77 =>
  some (u77.1, u77.2))
  else
  (X12_refuse o_status u3).bind fun u13 =>
  some (u13.1, u13.2)
abbrev wd_X12_laws (E : vE) (a_o a_o_at a_o_names a_o_sort a_o_trayMany a_o_trays a_o_tape a_o_text a_o_opened a_o_farBy a_o_attendsBy a_o_coveredBy a_o_cameBy a_o_cameThen a_o_fallsBy a_o_loops a_o_ran a_o_told1 : Nat) (o_status : Int32) (o_top : Int64) (o_bottom : Int64) (o_taped : Int32) (o_size : Int32) (o_token : Int32) (o_from : Int32) (o_end : Int32) (o_value : Int32) (o_faultKind : Int32) (o_faultPlace : Int32) (o_faults : Int32) (o_seen : Int32) (o_toldParts : Int32) (o_depth : Int32) (o_counted : Int32) (o_becameThen : Int32) (o_firstCorner : Int32) (o_drawn : Int32) (o_ranSteps : Int32) (o_isTold : Int32) (o_marks : Int32) (o_trayMany : Nat → Int32) (o_trays : Nat → Int64) : va_W := [(a_o, .inr (12, [.ref a_o_at, .ref a_o_names, .int o_status, .long o_top, .long o_bottom, .ref a_o_sort, .ref a_o_trayMany, .ref a_o_trays, .ref a_o_tape, .ref a_o_text, .int o_taped, .int o_size, .int o_token, .int o_from, .int o_end, .int o_value, .int o_faultKind, .int o_faultPlace, .int o_faults, .int o_seen, .int o_toldParts, .ref a_o_opened, .int o_depth, .int o_counted, .ref a_o_farBy, .int o_becameThen, .ref a_o_attendsBy, .ref a_o_coveredBy, .ref a_o_cameBy, .ref a_o_cameThen, .int o_firstCorner, .ref a_o_fallsBy, .int o_drawn, .int o_ranSteps, .ref a_o_loops, .ref a_o_ran, .ref a_o_told1, .int o_isTold, .int o_marks])), (a_o_trayMany, .inl (E.2.1, 4, .inl o_trayMany)), (a_o_trays, .inl (E.2.2.1, 240, .inr (.inl o_trays)))]
set_option maxHeartbeats 4000000 in
set_option maxRecDepth 100000 in
theorem ct_X12_laws (l : Launch) (E : vE) (F : Nat) (a_o a_o_at a_o_names a_o_sort a_o_trayMany a_o_trays a_o_tape a_o_text a_o_opened a_o_farBy a_o_attendsBy a_o_coveredBy a_o_cameBy a_o_cameThen a_o_fallsBy a_o_loops a_o_ran a_o_told1 : Nat) (o_status : Int32) (o_top : Int64) (o_bottom : Int64) (o_taped : Int32) (o_size : Int32) (o_token : Int32) (o_from : Int32) (o_end : Int32) (o_value : Int32) (o_faultKind : Int32) (o_faultPlace : Int32) (o_faults : Int32) (o_seen : Int32) (o_toldParts : Int32) (o_depth : Int32) (o_counted : Int32) (o_becameThen : Int32) (o_firstCorner : Int32) (o_drawn : Int32) (o_ranSteps : Int32) (o_isTold : Int32) (o_marks : Int32) (o_trayMany : Nat → Int32) (o_trays : Nat → Int64) (v1 : Int32) (v2 : Int32) (u : Int32 × Int32) (hf : X12_laws F o_status o_trayMany o_trays v1 v2 = some u) :
    CtI l yX12_laws cX12_laws 6 (some .int) 2 E [.ref a_o, .int v1, .int v2] (wd_X12_laws E a_o a_o_at a_o_names a_o_sort a_o_trayMany a_o_trays a_o_tape a_o_text a_o_opened a_o_farBy a_o_attendsBy a_o_coveredBy a_o_cameBy a_o_cameThen a_o_fallsBy a_o_loops a_o_ran a_o_told1 o_status o_top o_bottom o_taped o_size o_token o_from o_end o_value o_faultKind o_faultPlace o_faults o_seen o_toldParts o_depth o_counted o_becameThen o_firstCorner o_drawn o_ranSteps o_isTold o_marks o_trayMany o_trays) (wd_X12_laws E a_o a_o_at a_o_names a_o_sort a_o_trayMany a_o_trays a_o_tape a_o_text a_o_opened a_o_farBy a_o_attendsBy a_o_coveredBy a_o_cameBy a_o_cameThen a_o_fallsBy a_o_loops a_o_ran a_o_told1 u.2 o_top o_bottom o_taped o_size o_token o_from o_end o_value o_faultKind o_faultPlace o_faults o_seen o_toldParts o_depth o_counted o_becameThen o_firstCorner o_drawn o_ranSteps o_isTold o_marks o_trayMany o_trays) u.1 := by
  refine ctI (by decide) (Nat.le_of_ble_eq_true rfl) ?_
  intro p e s m below meth cd A ls aa QQ hq cx hP hD hS hl
  obtain ⟨⟨hx, hb, hml, hown, hts⟩, hr, hlocks, hK, hA, hX⟩ := id cx
  have hl : lv_has ls 6 [(0, .ref a_o), (1, .int v1), (2, .int v2)] := hl
  unfold X12_laws at hf
  refine lv_aload_n hx hb dX12_laws_0 rfl (lv_at hl 0 rfl) ?_
  refine lv_iload_n hx hb dX12_laws_1 rfl (lv_at hl 1 rfl) ?_
  refine lv_iload_n hx hb dX12_laws_2 rfl (lv_at hl 2 rfl) ?_
  obtain ⟨u3, hu3, hf⟩ := bd hf
  refine keepVI (ct_X12_wrongLaws l E F a_o a_o_at a_o_names a_o_sort a_o_trayMany a_o_trays a_o_tape a_o_text a_o_opened a_o_farBy a_o_attendsBy a_o_coveredBy a_o_cameBy a_o_cameThen a_o_fallsBy a_o_loops a_o_ran a_o_told1 o_status o_top o_bottom o_taped o_size o_token o_from o_end o_value o_faultKind o_faultPlace o_faults o_seen o_toldParts o_depth o_counted o_becameThen o_firstCorner o_drawn o_ranSteps o_isTold o_marks o_trayMany o_trays v1 v2 u3 hu3) [0, 1, 2] cal_X12_wrongLaws cav_X12_wrongLaws lk_X12_434 cx hP hD hS hl dX12_laws_3 rfl rfl rfl rfl (Nat.le_of_ble_eq_true rfl) ⟨Nat.le_of_ble_eq_true rfl, Nat.le_of_ble_eq_true rfl⟩ rfl (by decide) (fun H locs hP hS => ?_)
  refine lv_istore_n (lv' := [(3, .int u3), (0, .ref a_o), (1, .int v1), (2, .int v2)]) hx hb dX12_laws_6 rfl hl (by decide) rfl (fun ls hl => ?_)
  refine lv_iload_n hx hb dX12_laws_7 rfl (lv_at hl 0 rfl) ?_
  refine lv_if_le (tgt := 17) hx hb dX12_laws_8 (by decide) (fun hc => ?_) (fun hc => ?_)
  · have hf := it_t hc hf
    refine lv_iconst (v := 0) hx hb dX12_laws_17 (by decide) ?_
    refine lv_istore (lv' := [(4, .int 0), (3, .int u3), (0, .ref a_o), (1, .int v1), (2, .int v2)]) hx hb dX12_laws_18 hl (by decide) rfl (fun ls hl => ?_)
    refine lv_bipush (v := 11) hx hb dX12_laws_20 (by decide) ?_
    refine lv_istore (lv' := [(5, .int 11), (4, .int 0), (3, .int u3), (0, .ref a_o), (1, .int v1), (2, .int v2)]) hx hb dX12_laws_22 hl (by decide) rfl (fun ls hl => ?_)
    obtain ⟨e24, hit24, hf⟩ := bd hf
    refine iter_W (b := X12_laws_b24 F o_status o_trayMany o_trays v1 v2) (P := fun st24 => ∀ (H : Heap) (locs : List Loc) (ls : Array Slot), va_P E.1 vwCl (wd_X12_laws E a_o a_o_at a_o_names a_o_sort a_o_trayMany a_o_trays a_o_tape a_o_text a_o_opened a_o_farBy a_o_attendsBy a_o_coveredBy a_o_cameBy a_o_cameThen a_o_fallsBy a_o_loops a_o_ran a_o_told1 o_status o_top o_bottom o_taped o_size o_token o_from o_end o_value o_faultKind o_faultPlace o_faults o_seen o_toldParts o_depth o_counted o_becameThen o_firstCorner o_drawn o_ranSteps o_isTold o_marks o_trayMany o_trays) H → va_D A (wd_X12_laws E a_o a_o_at a_o_names a_o_sort a_o_trayMany a_o_trays a_o_tape a_o_text a_o_opened a_o_farBy a_o_attendsBy a_o_coveredBy a_o_cameBy a_o_cameThen a_o_fallsBy a_o_loops a_o_ran a_o_told1 o_status o_top o_bottom o_taped o_size o_token o_from o_end o_value o_faultKind o_faultPlace o_faults o_seen o_toldParts o_depth o_counted o_becameThen o_firstCorner o_drawn o_ranSteps o_isTold o_marks o_trayMany o_trays) → va_S A s.heap H locs → lv_has ls 6 [(0, .ref a_o), (1, .int v1), (2, .int v2), (4, .int st24.1), (5, .int st24.2)] → W p l e (rmd 2) s m aa below meth cd H locs 0 0 QQ (F0 m 24 ls [])) (G := (fun (e24 : Int32) => ∀ (H : Heap) (locs : List Loc) (ls : Array Slot), va_P E.1 vwCl (wd_X12_laws E a_o a_o_at a_o_names a_o_sort a_o_trayMany a_o_trays a_o_tape a_o_text a_o_opened a_o_farBy a_o_attendsBy a_o_coveredBy a_o_cameBy a_o_cameThen a_o_fallsBy a_o_loops a_o_ran a_o_told1 o_status o_top o_bottom o_taped o_size o_token o_from o_end o_value o_faultKind o_faultPlace o_faults o_seen o_toldParts o_depth o_counted o_becameThen o_firstCorner o_drawn o_ranSteps o_isTold o_marks o_trayMany o_trays) H → va_D A (wd_X12_laws E a_o a_o_at a_o_names a_o_sort a_o_trayMany a_o_trays a_o_tape a_o_text a_o_opened a_o_farBy a_o_attendsBy a_o_coveredBy a_o_cameBy a_o_cameThen a_o_fallsBy a_o_loops a_o_ran a_o_told1 o_status o_top o_bottom o_taped o_size o_token o_from o_end o_value o_faultKind o_faultPlace o_faults o_seen o_toldParts o_depth o_counted o_becameThen o_firstCorner o_drawn o_ranSteps o_isTold o_marks o_trayMany o_trays) → va_S A s.heap H locs → lv_has ls 6 [(0, .ref a_o), (4, .int e24)] → W p l e (rmd 2) s m aa below meth cd H locs 0 0 QQ (F0 m 74 ls []))) ?_ F (0, 11) e24 hit24 ?_ _ _ _ hP hD hS (lv_sub hl [3, 4, 5, 1, 0] rfl)
    · intro st24 r24 hf hk24 he24 H locs ls hP hD hS hl
      have hj65 : ∀ (v5_j65 : Int32) (k0_j65 : Int32) (k1_j65 : Int32) (H : Heap) (locs : List Loc) (ls : Array Slot), X12_laws_j65 F o_status o_trayMany o_trays v1 v2 v5_j65 k0_j65 k1_j65 = some r24 → va_P E.1 vwCl (wd_X12_laws E a_o a_o_at a_o_names a_o_sort a_o_trayMany a_o_trays a_o_tape a_o_text a_o_opened a_o_farBy a_o_attendsBy a_o_coveredBy a_o_cameBy a_o_cameThen a_o_fallsBy a_o_loops a_o_ran a_o_told1 o_status o_top o_bottom o_taped o_size o_token o_from o_end o_value o_faultKind o_faultPlace o_faults o_seen o_toldParts o_depth o_counted o_becameThen o_firstCorner o_drawn o_ranSteps o_isTold o_marks o_trayMany o_trays) H → va_D A (wd_X12_laws E a_o a_o_at a_o_names a_o_sort a_o_trayMany a_o_trays a_o_tape a_o_text a_o_opened a_o_farBy a_o_attendsBy a_o_coveredBy a_o_cameBy a_o_cameThen a_o_fallsBy a_o_loops a_o_ran a_o_told1 o_status o_top o_bottom o_taped o_size o_token o_from o_end o_value o_faultKind o_faultPlace o_faults o_seen o_toldParts o_depth o_counted o_becameThen o_firstCorner o_drawn o_ranSteps o_isTold o_marks o_trayMany o_trays) → va_S A s.heap H locs → lv_has ls 6 [(0, .ref a_o), (1, .int v1), (2, .int v2), (5, .int v5_j65)] → W p l e (rmd 2) s m aa below meth cd H locs 0 0 QQ (F0 m 65 ls [.int k0_j65, .int k1_j65]) := by
        intro v5_j65 k0_j65 k1_j65 H locs ls hf hP hD hS hl
        unfold X12_laws_j65 at hf
        refine lv_iadd hx hb dX12_laws_65 ?_
        refine lv_istore (lv' := [(4, .int (k1_j65 + k0_j65)), (0, .ref a_o), (1, .int v1), (2, .int v2), (5, .int v5_j65)]) hx hb dX12_laws_66 hl (by decide) rfl (fun ls hl => ?_)
        refine lv_iinc (v := (v5_j65 + 1)) (lv' := [(5, .int (v5_j65 + 1)), (4, .int (k1_j65 + k0_j65)), (0, .ref a_o), (1, .int v1), (2, .int v2)]) hx hb dX12_laws_68 hl (k := 4) rfl rfl (by decide) rfl (fun ls hl => ?_)
        refine lv_goto (tgt := 24) hx hb dX12_laws_71 (by decide) ?_
        exact hk24 _ (Option.some.inj hf).symm _ _ _ hP hD hS (lv_sub hl [2, 3, 4, 1, 0] rfl)
      have hj64 : ∀ (v5_j64 : Int32) (k0_j64 : Int32) (H : Heap) (locs : List Loc) (ls : Array Slot), X12_laws_j64 F o_status o_trayMany o_trays v1 v2 v5_j64 k0_j64 = some r24 → va_P E.1 vwCl (wd_X12_laws E a_o a_o_at a_o_names a_o_sort a_o_trayMany a_o_trays a_o_tape a_o_text a_o_opened a_o_farBy a_o_attendsBy a_o_coveredBy a_o_cameBy a_o_cameThen a_o_fallsBy a_o_loops a_o_ran a_o_told1 o_status o_top o_bottom o_taped o_size o_token o_from o_end o_value o_faultKind o_faultPlace o_faults o_seen o_toldParts o_depth o_counted o_becameThen o_firstCorner o_drawn o_ranSteps o_isTold o_marks o_trayMany o_trays) H → va_D A (wd_X12_laws E a_o a_o_at a_o_names a_o_sort a_o_trayMany a_o_trays a_o_tape a_o_text a_o_opened a_o_farBy a_o_attendsBy a_o_coveredBy a_o_cameBy a_o_cameThen a_o_fallsBy a_o_loops a_o_ran a_o_told1 o_status o_top o_bottom o_taped o_size o_token o_from o_end o_value o_faultKind o_faultPlace o_faults o_seen o_toldParts o_depth o_counted o_becameThen o_firstCorner o_drawn o_ranSteps o_isTold o_marks o_trayMany o_trays) → va_S A s.heap H locs → lv_has ls 6 [(0, .ref a_o), (1, .int v1), (2, .int v2), (5, .int v5_j64)] → W p l e (rmd 2) s m aa below meth cd H locs 0 0 QQ (F0 m 64 ls [.int k0_j64]) := by
        intro v5_j64 k0_j64 H locs ls hf hP hD hS hl
        unfold X12_laws_j64 at hf
        refine lv_iconst (v := 0) hx hb dX12_laws_64 (by decide) ?_
        exact hj65 _ _ _ _ _ _ hf hP hD hS (lv_sub hl [0, 1, 2, 3] rfl)
      unfold X12_laws_b24 at hf
      refine lv_iload hx hb dX12_laws_24 (lv_at hl 4 rfl) ?_
      refine lv_bipush (v := 100) hx hb dX12_laws_26 (by decide) ?_
      refine lv_icmp_ge (tgt := 74) hx hb dX12_laws_28 (by decide) (fun hc => ?_) (fun hc => ?_)
      · have hf := it_t hc hf
        exact he24 _ (Option.some.inj hf).symm _ _ _ hP hD hS (lv_sub hl [0, 3] rfl)
      · have hf := it_f hc hf
        refine lv_iload hx hb dX12_laws_31 (lv_at hl 3 rfl) ?_
        refine lv_iload hx hb dX12_laws_33 (lv_at hl 4 rfl) ?_
        refine lv_bipush (v := 10) hx hb dX12_laws_35 (by decide) ?_
        obtain ⟨hnz, hf⟩ := ck hf
        refine r_irem hx hb dX12_laws_37 hnz ?_
        refine lv_if_le (tgt := 64) hx hb dX12_laws_38 (by decide) (fun hc => ?_) (fun hc => ?_)
        · have hf := it_t hc hf
          exact hj64 _ _ _ _ _ hf hP hD hS (lv_sub hl [0, 1, 2, 4] rfl)
        · have hf := it_f hc hf
          refine lv_aload_n hx hb dX12_laws_41 rfl (lv_at hl 0 rfl) ?_
          refine lv_iload hx hb dX12_laws_42 (lv_at hl 4 rfl) ?_
          refine lv_bipush (v := 10) hx hb dX12_laws_44 (by decide) ?_
          obtain ⟨hnz, hf⟩ := ck hf
          refine lv_idiv hx hb dX12_laws_46 hnz ?_
          refine lv_iload hx hb dX12_laws_47 (lv_at hl 4 rfl) ?_
          refine lv_bipush (v := 10) hx hb dX12_laws_49 (by decide) ?_
          obtain ⟨hnz, hf⟩ := ck hf
          refine r_irem hx hb dX12_laws_51 hnz ?_
          refine lv_iload_n hx hb dX12_laws_52 rfl (lv_at hl 1 rfl) ?_
          refine lv_iload_n hx hb dX12_laws_53 rfl (lv_at hl 2 rfl) ?_
          obtain ⟨u54, hu54, hf⟩ := bd hf
          refine keepVI (ct_X12_isLaw l E F a_o a_o_at a_o_names a_o_sort a_o_trayMany a_o_trays a_o_tape a_o_text a_o_opened a_o_farBy a_o_attendsBy a_o_coveredBy a_o_cameBy a_o_cameThen a_o_fallsBy a_o_loops a_o_ran a_o_told1 o_status o_top o_bottom o_taped o_size o_token o_from o_end o_value o_faultKind o_faultPlace o_faults o_seen o_toldParts o_depth o_counted o_becameThen o_firstCorner o_drawn o_ranSteps o_isTold o_marks o_trays (st24.2 / 10) (jrem st24.2 10) v1 v2 u54 hu54) [0, 2] cal_X12_isLaw cav_X12_isLaw lk_X12_437 cx hP hD hS hl dX12_laws_54 rfl rfl rfl rfl (Nat.le_of_ble_eq_true rfl) ⟨Nat.le_of_ble_eq_true rfl, Nat.le_of_ble_eq_true rfl⟩ rfl (by decide) (fun H locs hP hS => ?_)
          refine lv_if_eq (tgt := 64) hx hb dX12_laws_57 (by decide) (fun hc => ?_) (fun hc => ?_)
          · have hf := it_t hc hf
            exact hj64 _ _ _ _ _ hf hP hD hS (lv_sub hl [0, 1, 2, 4] rfl)
          · have hf := it_f hc hf
            refine lv_iconst (v := 1) hx hb dX12_laws_60 (by decide) ?_
            refine lv_goto (tgt := 65) hx hb dX12_laws_61 (by decide) ?_
            exact hj65 _ _ _ _ _ _ hf hP hD hS (lv_sub hl [0, 1, 2, 4] rfl)
    · refine fun H locs ls hP hD hS hl => ?_
      refine lv_aload_n hx hb dX12_laws_74 rfl (lv_at hl 0 rfl) ?_
      refine lv_iload hx hb dX12_laws_75 (lv_at hl 1 rfl) ?_
      obtain ⟨u77, hu77, hf⟩ := bd hf
      refine callVI (wn := (wd_X12_laws E a_o a_o_at a_o_names a_o_sort a_o_trayMany a_o_trays a_o_tape a_o_text a_o_opened a_o_farBy a_o_attendsBy a_o_coveredBy a_o_cameBy a_o_cameThen a_o_fallsBy a_o_loops a_o_ran a_o_told1 u77.2 o_top o_bottom o_taped o_size o_token o_from o_end o_value o_faultKind o_faultPlace o_faults o_seen o_toldParts o_depth o_counted o_becameThen o_firstCorner o_drawn o_ranSteps o_isTold o_marks o_trayMany o_trays)) (n1 := 3) (ct_X12_gives l E a_o a_o_at a_o_names a_o_sort a_o_trayMany a_o_trays a_o_tape a_o_text a_o_opened a_o_farBy a_o_attendsBy a_o_coveredBy a_o_cameBy a_o_cameThen a_o_fallsBy a_o_loops a_o_ran a_o_told1 o_status o_top o_bottom o_taped o_size o_token o_from o_end o_value o_faultKind o_faultPlace o_faults o_seen o_toldParts o_depth o_counted o_becameThen o_firstCorner o_drawn o_ranSteps o_isTold o_marks e24 u77 hu77) [0] cal_X12_gives cav_X12_gives lk_X12_89 cx hP hD hS hl dX12_laws_77 rfl rfl rfl rfl (Nat.le_of_ble_eq_true rfl) ⟨Nat.le_of_ble_eq_true rfl, Nat.le_of_ble_eq_true rfl⟩ rfl (by decide +kernel) rfl [some 0, none, none] rfl (by decide +kernel) rfl (fun H locs hP hD hS => ?_)
      obtain rfl := Option.some.inj hf
      subst hq
      exact retI cx hP hD hS dX12_laws_80
  · have hf := it_f hc hf
    refine lv_aload_n hx hb dX12_laws_11 rfl (lv_at hl 1 rfl) ?_
    refine lv_iload_n hx hb dX12_laws_12 rfl (lv_at hl 0 rfl) ?_
    obtain ⟨u13, hu13, hf⟩ := bd hf
    refine callVI (wn := (wd_X12_laws E a_o a_o_at a_o_names a_o_sort a_o_trayMany a_o_trays a_o_tape a_o_text a_o_opened a_o_farBy a_o_attendsBy a_o_coveredBy a_o_cameBy a_o_cameThen a_o_fallsBy a_o_loops a_o_ran a_o_told1 u13.2 o_top o_bottom o_taped o_size o_token o_from o_end o_value o_faultKind o_faultPlace o_faults o_seen o_toldParts o_depth o_counted o_becameThen o_firstCorner o_drawn o_ranSteps o_isTold o_marks o_trayMany o_trays)) (n1 := 3) (ct_X12_refuse l E a_o a_o_at a_o_names a_o_sort a_o_trayMany a_o_trays a_o_tape a_o_text a_o_opened a_o_farBy a_o_attendsBy a_o_coveredBy a_o_cameBy a_o_cameThen a_o_fallsBy a_o_loops a_o_ran a_o_told1 o_status o_top o_bottom o_taped o_size o_token o_from o_end o_value o_faultKind o_faultPlace o_faults o_seen o_toldParts o_depth o_counted o_becameThen o_firstCorner o_drawn o_ranSteps o_isTold o_marks u3 u13 hu13) [0] cal_X12_refuse cav_X12_refuse lk_X12_85 cx hP hD hS hl dX12_laws_13 rfl rfl rfl rfl (Nat.le_of_ble_eq_true rfl) ⟨Nat.le_of_ble_eq_true rfl, Nat.le_of_ble_eq_true rfl⟩ rfl (by decide +kernel) rfl [some 0, none, none] rfl (by decide +kernel) rfl (fun H locs hP hD hS => ?_)
    obtain rfl := Option.some.inj hf
    subst hq
    exact retI cx hP hD hS dX12_laws_16
def X12_lawFirst_j62 (F : Nat) (o_status : Int32) (o_trayMany : Nat → Int32) (o_trays : Nat → Int64) (v1 : Int32) (v2 : Int32) (v4 : Int32) : Option ((Int32) ⊕ ((Int32) ⊕ (Unit))) :=
  some (.inl (v4 + 1))
def X12_lawFirst_b21 (F : Nat) (o_status : Int32) (o_trayMany : Nat → Int32) (o_trays : Nat → Int64) (v1 : Int32) (v2 : Int32) (st21 : Int32) : Option ((Int32) ⊕ ((Int32) ⊕ (Unit))) :=
  if (100 : Int32) ≤ st21 then
  some (.inr (.inr (())))
  else
  if ¬ 10 = (0 : Int32) then
  if (jrem st21 10) ≤ 0 then
  X12_lawFirst_j62 F o_status o_trayMany o_trays v1 v2 st21
  else
  if ¬ 10 = (0 : Int32) then
  if ¬ 10 = (0 : Int32) then
  (X12_isLaw F o_trays (st21 / 10) (jrem st21 10) v1 v2).bind fun u49 =>
  if u49 = 0 then
  X12_lawFirst_j62 F o_status o_trayMany o_trays v1 v2 st21
  else
  some (.inr (.inl (st21)))
  else none
  else none
  else none
def X12_lawFirst (F : Nat) (o_status : Int32) (o_trayMany : Nat → Int32) (o_trays : Nat → Int64) (v1 : Int32) (v2 : Int32) : Option (Int32 × Int32) :=
  (X12_wrongLaws F o_trayMany o_trays v1 v2).bind fun u3 =>
  if u3 ≤ 0 then
  (iter (X12_lawFirst_b21 F o_status o_trayMany o_trays v1 v2) F 11).bind (Sum.elim (fun (e21 : Int32) =>
    (X12_gives o_status e21).bind fun u58 =>
  some (u58.1, u58.2)) (fun (e21 : Unit) =>
    (X12_refuse o_status (6 : Int32)).bind fun u71 =>
  some (u71.1, u71.2)))
  else
  (X12_refuse o_status u3).bind fun u13 =>
  some (u13.1, u13.2)
abbrev wd_X12_lawFirst (E : vE) (a_o a_o_at a_o_names a_o_sort a_o_trayMany a_o_trays a_o_tape a_o_text a_o_opened a_o_farBy a_o_attendsBy a_o_coveredBy a_o_cameBy a_o_cameThen a_o_fallsBy a_o_loops a_o_ran a_o_told1 : Nat) (o_status : Int32) (o_top : Int64) (o_bottom : Int64) (o_taped : Int32) (o_size : Int32) (o_token : Int32) (o_from : Int32) (o_end : Int32) (o_value : Int32) (o_faultKind : Int32) (o_faultPlace : Int32) (o_faults : Int32) (o_seen : Int32) (o_toldParts : Int32) (o_depth : Int32) (o_counted : Int32) (o_becameThen : Int32) (o_firstCorner : Int32) (o_drawn : Int32) (o_ranSteps : Int32) (o_isTold : Int32) (o_marks : Int32) (o_trayMany : Nat → Int32) (o_trays : Nat → Int64) : va_W := [(a_o, .inr (12, [.ref a_o_at, .ref a_o_names, .int o_status, .long o_top, .long o_bottom, .ref a_o_sort, .ref a_o_trayMany, .ref a_o_trays, .ref a_o_tape, .ref a_o_text, .int o_taped, .int o_size, .int o_token, .int o_from, .int o_end, .int o_value, .int o_faultKind, .int o_faultPlace, .int o_faults, .int o_seen, .int o_toldParts, .ref a_o_opened, .int o_depth, .int o_counted, .ref a_o_farBy, .int o_becameThen, .ref a_o_attendsBy, .ref a_o_coveredBy, .ref a_o_cameBy, .ref a_o_cameThen, .int o_firstCorner, .ref a_o_fallsBy, .int o_drawn, .int o_ranSteps, .ref a_o_loops, .ref a_o_ran, .ref a_o_told1, .int o_isTold, .int o_marks])), (a_o_trayMany, .inl (E.2.1, 4, .inl o_trayMany)), (a_o_trays, .inl (E.2.2.1, 240, .inr (.inl o_trays)))]
set_option maxHeartbeats 4000000 in
set_option maxRecDepth 100000 in
theorem ct_X12_lawFirst (l : Launch) (E : vE) (F : Nat) (a_o a_o_at a_o_names a_o_sort a_o_trayMany a_o_trays a_o_tape a_o_text a_o_opened a_o_farBy a_o_attendsBy a_o_coveredBy a_o_cameBy a_o_cameThen a_o_fallsBy a_o_loops a_o_ran a_o_told1 : Nat) (o_status : Int32) (o_top : Int64) (o_bottom : Int64) (o_taped : Int32) (o_size : Int32) (o_token : Int32) (o_from : Int32) (o_end : Int32) (o_value : Int32) (o_faultKind : Int32) (o_faultPlace : Int32) (o_faults : Int32) (o_seen : Int32) (o_toldParts : Int32) (o_depth : Int32) (o_counted : Int32) (o_becameThen : Int32) (o_firstCorner : Int32) (o_drawn : Int32) (o_ranSteps : Int32) (o_isTold : Int32) (o_marks : Int32) (o_trayMany : Nat → Int32) (o_trays : Nat → Int64) (v1 : Int32) (v2 : Int32) (u : Int32 × Int32) (hf : X12_lawFirst F o_status o_trayMany o_trays v1 v2 = some u) :
    CtI l yX12_lawFirst cX12_lawFirst 5 (some .int) 2 E [.ref a_o, .int v1, .int v2] (wd_X12_lawFirst E a_o a_o_at a_o_names a_o_sort a_o_trayMany a_o_trays a_o_tape a_o_text a_o_opened a_o_farBy a_o_attendsBy a_o_coveredBy a_o_cameBy a_o_cameThen a_o_fallsBy a_o_loops a_o_ran a_o_told1 o_status o_top o_bottom o_taped o_size o_token o_from o_end o_value o_faultKind o_faultPlace o_faults o_seen o_toldParts o_depth o_counted o_becameThen o_firstCorner o_drawn o_ranSteps o_isTold o_marks o_trayMany o_trays) (wd_X12_lawFirst E a_o a_o_at a_o_names a_o_sort a_o_trayMany a_o_trays a_o_tape a_o_text a_o_opened a_o_farBy a_o_attendsBy a_o_coveredBy a_o_cameBy a_o_cameThen a_o_fallsBy a_o_loops a_o_ran a_o_told1 u.2 o_top o_bottom o_taped o_size o_token o_from o_end o_value o_faultKind o_faultPlace o_faults o_seen o_toldParts o_depth o_counted o_becameThen o_firstCorner o_drawn o_ranSteps o_isTold o_marks o_trayMany o_trays) u.1 := by
  refine ctI (by decide) (Nat.le_of_ble_eq_true rfl) ?_
  intro p e s m below meth cd A ls aa QQ hq cx hP hD hS hl
  obtain ⟨⟨hx, hb, hml, hown, hts⟩, hr, hlocks, hK, hA, hX⟩ := id cx
  have hl : lv_has ls 5 [(0, .ref a_o), (1, .int v1), (2, .int v2)] := hl
  unfold X12_lawFirst at hf
  refine lv_aload_n hx hb dX12_lawFirst_0 rfl (lv_at hl 0 rfl) ?_
  refine lv_iload_n hx hb dX12_lawFirst_1 rfl (lv_at hl 1 rfl) ?_
  refine lv_iload_n hx hb dX12_lawFirst_2 rfl (lv_at hl 2 rfl) ?_
  obtain ⟨u3, hu3, hf⟩ := bd hf
  refine keepVI (ct_X12_wrongLaws l E F a_o a_o_at a_o_names a_o_sort a_o_trayMany a_o_trays a_o_tape a_o_text a_o_opened a_o_farBy a_o_attendsBy a_o_coveredBy a_o_cameBy a_o_cameThen a_o_fallsBy a_o_loops a_o_ran a_o_told1 o_status o_top o_bottom o_taped o_size o_token o_from o_end o_value o_faultKind o_faultPlace o_faults o_seen o_toldParts o_depth o_counted o_becameThen o_firstCorner o_drawn o_ranSteps o_isTold o_marks o_trayMany o_trays v1 v2 u3 hu3) [0, 1, 2] cal_X12_wrongLaws cav_X12_wrongLaws lk_X12_434 cx hP hD hS hl dX12_lawFirst_3 rfl rfl rfl rfl (Nat.le_of_ble_eq_true rfl) ⟨Nat.le_of_ble_eq_true rfl, Nat.le_of_ble_eq_true rfl⟩ rfl (by decide) (fun H locs hP hS => ?_)
  refine lv_istore_n (lv' := [(3, .int u3), (0, .ref a_o), (1, .int v1), (2, .int v2)]) hx hb dX12_lawFirst_6 rfl hl (by decide) rfl (fun ls hl => ?_)
  refine lv_iload_n hx hb dX12_lawFirst_7 rfl (lv_at hl 0 rfl) ?_
  refine lv_if_le (tgt := 17) hx hb dX12_lawFirst_8 (by decide) (fun hc => ?_) (fun hc => ?_)
  · have hf := it_t hc hf
    refine lv_bipush (v := 11) hx hb dX12_lawFirst_17 (by decide) ?_
    refine lv_istore (lv' := [(4, .int 11), (3, .int u3), (0, .ref a_o), (1, .int v1), (2, .int v2)]) hx hb dX12_lawFirst_19 hl (by decide) rfl (fun ls hl => ?_)
    obtain ⟨e21, hit21, hf⟩ := bd hf
    refine iter_W (b := X12_lawFirst_b21 F o_status o_trayMany o_trays v1 v2) (P := fun st21 => ∀ (H : Heap) (locs : List Loc) (ls : Array Slot), va_P E.1 vwCl (wd_X12_lawFirst E a_o a_o_at a_o_names a_o_sort a_o_trayMany a_o_trays a_o_tape a_o_text a_o_opened a_o_farBy a_o_attendsBy a_o_coveredBy a_o_cameBy a_o_cameThen a_o_fallsBy a_o_loops a_o_ran a_o_told1 o_status o_top o_bottom o_taped o_size o_token o_from o_end o_value o_faultKind o_faultPlace o_faults o_seen o_toldParts o_depth o_counted o_becameThen o_firstCorner o_drawn o_ranSteps o_isTold o_marks o_trayMany o_trays) H → va_D A (wd_X12_lawFirst E a_o a_o_at a_o_names a_o_sort a_o_trayMany a_o_trays a_o_tape a_o_text a_o_opened a_o_farBy a_o_attendsBy a_o_coveredBy a_o_cameBy a_o_cameThen a_o_fallsBy a_o_loops a_o_ran a_o_told1 o_status o_top o_bottom o_taped o_size o_token o_from o_end o_value o_faultKind o_faultPlace o_faults o_seen o_toldParts o_depth o_counted o_becameThen o_firstCorner o_drawn o_ranSteps o_isTold o_marks o_trayMany o_trays) → va_S A s.heap H locs → lv_has ls 5 [(0, .ref a_o), (1, .int v1), (2, .int v2), (4, .int st21)] → W p l e (rmd 2) s m aa below meth cd H locs 0 0 QQ (F0 m 21 ls [])) (G := (Sum.elim (fun (e21 : Int32) => ∀ (H : Heap) (locs : List Loc) (ls : Array Slot), va_P E.1 vwCl (wd_X12_lawFirst E a_o a_o_at a_o_names a_o_sort a_o_trayMany a_o_trays a_o_tape a_o_text a_o_opened a_o_farBy a_o_attendsBy a_o_coveredBy a_o_cameBy a_o_cameThen a_o_fallsBy a_o_loops a_o_ran a_o_told1 o_status o_top o_bottom o_taped o_size o_token o_from o_end o_value o_faultKind o_faultPlace o_faults o_seen o_toldParts o_depth o_counted o_becameThen o_firstCorner o_drawn o_ranSteps o_isTold o_marks o_trayMany o_trays) H → va_D A (wd_X12_lawFirst E a_o a_o_at a_o_names a_o_sort a_o_trayMany a_o_trays a_o_tape a_o_text a_o_opened a_o_farBy a_o_attendsBy a_o_coveredBy a_o_cameBy a_o_cameThen a_o_fallsBy a_o_loops a_o_ran a_o_told1 o_status o_top o_bottom o_taped o_size o_token o_from o_end o_value o_faultKind o_faultPlace o_faults o_seen o_toldParts o_depth o_counted o_becameThen o_firstCorner o_drawn o_ranSteps o_isTold o_marks o_trayMany o_trays) → va_S A s.heap H locs → lv_has ls 5 [(0, .ref a_o), (4, .int e21)] → W p l e (rmd 2) s m aa below meth cd H locs 0 0 QQ (F0 m 55 ls [])) (fun (e21 : Unit) => ∀ (H : Heap) (locs : List Loc) (ls : Array Slot), va_P E.1 vwCl (wd_X12_lawFirst E a_o a_o_at a_o_names a_o_sort a_o_trayMany a_o_trays a_o_tape a_o_text a_o_opened a_o_farBy a_o_attendsBy a_o_coveredBy a_o_cameBy a_o_cameThen a_o_fallsBy a_o_loops a_o_ran a_o_told1 o_status o_top o_bottom o_taped o_size o_token o_from o_end o_value o_faultKind o_faultPlace o_faults o_seen o_toldParts o_depth o_counted o_becameThen o_firstCorner o_drawn o_ranSteps o_isTold o_marks o_trayMany o_trays) H → va_D A (wd_X12_lawFirst E a_o a_o_at a_o_names a_o_sort a_o_trayMany a_o_trays a_o_tape a_o_text a_o_opened a_o_farBy a_o_attendsBy a_o_coveredBy a_o_cameBy a_o_cameThen a_o_fallsBy a_o_loops a_o_ran a_o_told1 o_status o_top o_bottom o_taped o_size o_token o_from o_end o_value o_faultKind o_faultPlace o_faults o_seen o_toldParts o_depth o_counted o_becameThen o_firstCorner o_drawn o_ranSteps o_isTold o_marks o_trayMany o_trays) → va_S A s.heap H locs → lv_has ls 5 [(0, .ref a_o)] → W p l e (rmd 2) s m aa below meth cd H locs 0 0 QQ (F0 m 68 ls [])))) ?_ F 11 e21 hit21 ?_ _ _ _ hP hD hS (lv_sub hl [2, 3, 4, 0] rfl)
    · intro st21 r21 hf hk21 he21 H locs ls hP hD hS hl
      have hj62 : ∀ (v4_j62 : Int32) (H : Heap) (locs : List Loc) (ls : Array Slot), X12_lawFirst_j62 F o_status o_trayMany o_trays v1 v2 v4_j62 = some r21 → va_P E.1 vwCl (wd_X12_lawFirst E a_o a_o_at a_o_names a_o_sort a_o_trayMany a_o_trays a_o_tape a_o_text a_o_opened a_o_farBy a_o_attendsBy a_o_coveredBy a_o_cameBy a_o_cameThen a_o_fallsBy a_o_loops a_o_ran a_o_told1 o_status o_top o_bottom o_taped o_size o_token o_from o_end o_value o_faultKind o_faultPlace o_faults o_seen o_toldParts o_depth o_counted o_becameThen o_firstCorner o_drawn o_ranSteps o_isTold o_marks o_trayMany o_trays) H → va_D A (wd_X12_lawFirst E a_o a_o_at a_o_names a_o_sort a_o_trayMany a_o_trays a_o_tape a_o_text a_o_opened a_o_farBy a_o_attendsBy a_o_coveredBy a_o_cameBy a_o_cameThen a_o_fallsBy a_o_loops a_o_ran a_o_told1 o_status o_top o_bottom o_taped o_size o_token o_from o_end o_value o_faultKind o_faultPlace o_faults o_seen o_toldParts o_depth o_counted o_becameThen o_firstCorner o_drawn o_ranSteps o_isTold o_marks o_trayMany o_trays) → va_S A s.heap H locs → lv_has ls 5 [(0, .ref a_o), (1, .int v1), (2, .int v2), (4, .int v4_j62)] → W p l e (rmd 2) s m aa below meth cd H locs 0 0 QQ (F0 m 62 ls []) := by
        intro v4_j62 H locs ls hf hP hD hS hl
        unfold X12_lawFirst_j62 at hf
        refine lv_iinc (v := (v4_j62 + 1)) (lv' := [(4, .int (v4_j62 + 1)), (0, .ref a_o), (1, .int v1), (2, .int v2)]) hx hb dX12_lawFirst_62 hl (k := 3) rfl rfl (by decide) rfl (fun ls hl => ?_)
        refine lv_goto (tgt := 21) hx hb dX12_lawFirst_65 (by decide) ?_
        exact hk21 _ (Option.some.inj hf).symm _ _ _ hP hD hS (lv_sub hl [1, 2, 3, 0] rfl)
      unfold X12_lawFirst_b21 at hf
      refine lv_iload hx hb dX12_lawFirst_21 (lv_at hl 3 rfl) ?_
      refine lv_bipush (v := 100) hx hb dX12_lawFirst_23 (by decide) ?_
      refine lv_icmp_ge (tgt := 68) hx hb dX12_lawFirst_25 (by decide) (fun hc => ?_) (fun hc => ?_)
      · have hf := it_t hc hf
        exact he21 _ (Option.some.inj hf).symm _ _ _ hP hD hS (lv_sub hl [0] rfl)
      · have hf := it_f hc hf
        refine lv_iload hx hb dX12_lawFirst_28 (lv_at hl 3 rfl) ?_
        refine lv_bipush (v := 10) hx hb dX12_lawFirst_30 (by decide) ?_
        obtain ⟨hnz, hf⟩ := ck hf
        refine r_irem hx hb dX12_lawFirst_32 hnz ?_
        refine lv_if_le (tgt := 62) hx hb dX12_lawFirst_33 (by decide) (fun hc => ?_) (fun hc => ?_)
        · have hf := it_t hc hf
          exact hj62 _ _ _ _ hf hP hD hS (lv_sub hl [0, 1, 2, 3] rfl)
        · have hf := it_f hc hf
          refine lv_aload_n hx hb dX12_lawFirst_36 rfl (lv_at hl 0 rfl) ?_
          refine lv_iload hx hb dX12_lawFirst_37 (lv_at hl 3 rfl) ?_
          refine lv_bipush (v := 10) hx hb dX12_lawFirst_39 (by decide) ?_
          obtain ⟨hnz, hf⟩ := ck hf
          refine lv_idiv hx hb dX12_lawFirst_41 hnz ?_
          refine lv_iload hx hb dX12_lawFirst_42 (lv_at hl 3 rfl) ?_
          refine lv_bipush (v := 10) hx hb dX12_lawFirst_44 (by decide) ?_
          obtain ⟨hnz, hf⟩ := ck hf
          refine r_irem hx hb dX12_lawFirst_46 hnz ?_
          refine lv_iload_n hx hb dX12_lawFirst_47 rfl (lv_at hl 1 rfl) ?_
          refine lv_iload_n hx hb dX12_lawFirst_48 rfl (lv_at hl 2 rfl) ?_
          obtain ⟨u49, hu49, hf⟩ := bd hf
          refine keepVI (ct_X12_isLaw l E F a_o a_o_at a_o_names a_o_sort a_o_trayMany a_o_trays a_o_tape a_o_text a_o_opened a_o_farBy a_o_attendsBy a_o_coveredBy a_o_cameBy a_o_cameThen a_o_fallsBy a_o_loops a_o_ran a_o_told1 o_status o_top o_bottom o_taped o_size o_token o_from o_end o_value o_faultKind o_faultPlace o_faults o_seen o_toldParts o_depth o_counted o_becameThen o_firstCorner o_drawn o_ranSteps o_isTold o_marks o_trays (st21 / 10) (jrem st21 10) v1 v2 u49 hu49) [0, 2] cal_X12_isLaw cav_X12_isLaw lk_X12_437 cx hP hD hS hl dX12_lawFirst_49 rfl rfl rfl rfl (Nat.le_of_ble_eq_true rfl) ⟨Nat.le_of_ble_eq_true rfl, Nat.le_of_ble_eq_true rfl⟩ rfl (by decide) (fun H locs hP hS => ?_)
          refine lv_if_eq (tgt := 62) hx hb dX12_lawFirst_52 (by decide) (fun hc => ?_) (fun hc => ?_)
          · have hf := it_t hc hf
            exact hj62 _ _ _ _ hf hP hD hS (lv_sub hl [0, 1, 2, 3] rfl)
          · have hf := it_f hc hf
            exact he21 _ (Option.some.inj hf).symm _ _ _ hP hD hS (lv_sub hl [0, 3] rfl)
    · rcases e21 with e21 | e21
      · have hf := se_l hf
        refine fun H locs ls hP hD hS hl => ?_
        refine lv_aload_n hx hb dX12_lawFirst_55 rfl (lv_at hl 0 rfl) ?_
        refine lv_iload hx hb dX12_lawFirst_56 (lv_at hl 1 rfl) ?_
        obtain ⟨u58, hu58, hf⟩ := bd hf
        refine callVI (wn := (wd_X12_lawFirst E a_o a_o_at a_o_names a_o_sort a_o_trayMany a_o_trays a_o_tape a_o_text a_o_opened a_o_farBy a_o_attendsBy a_o_coveredBy a_o_cameBy a_o_cameThen a_o_fallsBy a_o_loops a_o_ran a_o_told1 u58.2 o_top o_bottom o_taped o_size o_token o_from o_end o_value o_faultKind o_faultPlace o_faults o_seen o_toldParts o_depth o_counted o_becameThen o_firstCorner o_drawn o_ranSteps o_isTold o_marks o_trayMany o_trays)) (n1 := 3) (ct_X12_gives l E a_o a_o_at a_o_names a_o_sort a_o_trayMany a_o_trays a_o_tape a_o_text a_o_opened a_o_farBy a_o_attendsBy a_o_coveredBy a_o_cameBy a_o_cameThen a_o_fallsBy a_o_loops a_o_ran a_o_told1 o_status o_top o_bottom o_taped o_size o_token o_from o_end o_value o_faultKind o_faultPlace o_faults o_seen o_toldParts o_depth o_counted o_becameThen o_firstCorner o_drawn o_ranSteps o_isTold o_marks e21 u58 hu58) [0] cal_X12_gives cav_X12_gives lk_X12_89 cx hP hD hS hl dX12_lawFirst_58 rfl rfl rfl rfl (Nat.le_of_ble_eq_true rfl) ⟨Nat.le_of_ble_eq_true rfl, Nat.le_of_ble_eq_true rfl⟩ rfl (by decide +kernel) rfl [some 0, none, none] rfl (by decide +kernel) rfl (fun H locs hP hD hS => ?_)
        obtain rfl := Option.some.inj hf
        subst hq
        exact retI cx hP hD hS dX12_lawFirst_61
      · have hf := se_r hf
        refine fun H locs ls hP hD hS hl => ?_
        refine lv_aload_n hx hb dX12_lawFirst_68 rfl (lv_at hl 0 rfl) ?_
        refine lv_bipush (v := 6) hx hb dX12_lawFirst_69 (by decide) ?_
        obtain ⟨u71, hu71, hf⟩ := bd hf
        refine callVI (wn := (wd_X12_lawFirst E a_o a_o_at a_o_names a_o_sort a_o_trayMany a_o_trays a_o_tape a_o_text a_o_opened a_o_farBy a_o_attendsBy a_o_coveredBy a_o_cameBy a_o_cameThen a_o_fallsBy a_o_loops a_o_ran a_o_told1 u71.2 o_top o_bottom o_taped o_size o_token o_from o_end o_value o_faultKind o_faultPlace o_faults o_seen o_toldParts o_depth o_counted o_becameThen o_firstCorner o_drawn o_ranSteps o_isTold o_marks o_trayMany o_trays)) (n1 := 3) (ct_X12_refuse l E a_o a_o_at a_o_names a_o_sort a_o_trayMany a_o_trays a_o_tape a_o_text a_o_opened a_o_farBy a_o_attendsBy a_o_coveredBy a_o_cameBy a_o_cameThen a_o_fallsBy a_o_loops a_o_ran a_o_told1 o_status o_top o_bottom o_taped o_size o_token o_from o_end o_value o_faultKind o_faultPlace o_faults o_seen o_toldParts o_depth o_counted o_becameThen o_firstCorner o_drawn o_ranSteps o_isTold o_marks (6 : Int32) u71 hu71) [0] cal_X12_refuse cav_X12_refuse lk_X12_85 cx hP hD hS hl dX12_lawFirst_71 rfl rfl rfl rfl (Nat.le_of_ble_eq_true rfl) ⟨Nat.le_of_ble_eq_true rfl, Nat.le_of_ble_eq_true rfl⟩ rfl (by decide +kernel) rfl [some 0, none, none] rfl (by decide +kernel) rfl (fun H locs hP hD hS => ?_)
        obtain rfl := Option.some.inj hf
        subst hq
        exact retI cx hP hD hS dX12_lawFirst_74
  · have hf := it_f hc hf
    refine lv_aload_n hx hb dX12_lawFirst_11 rfl (lv_at hl 1 rfl) ?_
    refine lv_iload_n hx hb dX12_lawFirst_12 rfl (lv_at hl 0 rfl) ?_
    obtain ⟨u13, hu13, hf⟩ := bd hf
    refine callVI (wn := (wd_X12_lawFirst E a_o a_o_at a_o_names a_o_sort a_o_trayMany a_o_trays a_o_tape a_o_text a_o_opened a_o_farBy a_o_attendsBy a_o_coveredBy a_o_cameBy a_o_cameThen a_o_fallsBy a_o_loops a_o_ran a_o_told1 u13.2 o_top o_bottom o_taped o_size o_token o_from o_end o_value o_faultKind o_faultPlace o_faults o_seen o_toldParts o_depth o_counted o_becameThen o_firstCorner o_drawn o_ranSteps o_isTold o_marks o_trayMany o_trays)) (n1 := 3) (ct_X12_refuse l E a_o a_o_at a_o_names a_o_sort a_o_trayMany a_o_trays a_o_tape a_o_text a_o_opened a_o_farBy a_o_attendsBy a_o_coveredBy a_o_cameBy a_o_cameThen a_o_fallsBy a_o_loops a_o_ran a_o_told1 o_status o_top o_bottom o_taped o_size o_token o_from o_end o_value o_faultKind o_faultPlace o_faults o_seen o_toldParts o_depth o_counted o_becameThen o_firstCorner o_drawn o_ranSteps o_isTold o_marks u3 u13 hu13) [0] cal_X12_refuse cav_X12_refuse lk_X12_85 cx hP hD hS hl dX12_lawFirst_13 rfl rfl rfl rfl (Nat.le_of_ble_eq_true rfl) ⟨Nat.le_of_ble_eq_true rfl, Nat.le_of_ble_eq_true rfl⟩ rfl (by decide +kernel) rfl [some 0, none, none] rfl (by decide +kernel) rfl (fun H locs hP hD hS => ?_)
    obtain rfl := Option.some.inj hf
    subst hq
    exact retI cx hP hD hS dX12_lawFirst_16
def X12_greatestBut_j43 (F : Nat) (o_at : Nat → Int32) (v1 : Int32) (v2 : Int32) (v3 : Int32) : Option ((Int32 × Int32) ⊕ ((Int32))) :=
  some (.inl (v2, (v3 + 1)))
def X12_greatestBut_b4 (F : Nat) (o_at : Nat → Int32) (v1 : Int32) (st4 : Int32 × Int32) : Option ((Int32 × Int32) ⊕ ((Int32))) :=
  if ix 3 3097 then
  if (jat o_at 3) ≤ st4.2 then
  some (.inr st4.1)
  else
  (X12_isToCome o_at st4.2).bind fun u16 =>
  if u16 = 0 then
  X12_greatestBut_j43 F o_at v1 st4.1 st4.2
  else
  (X12_happeningOf o_at st4.2 (0 : Int32)).bind fun u25 =>
  if u25 = v1 then
  X12_greatestBut_j43 F o_at v1 st4.1 st4.2
  else
  (X12_happeningOf o_at st4.2 (2 : Int32)).bind fun u36 =>
  X12_greatestBut_j43 F o_at v1 (jmax st4.1 u36) st4.2
  else none
def X12_greatestBut (F : Nat) (o_at : Nat → Int32) (v1 : Int32) : Option (Int32) :=
  (iter (X12_greatestBut_b4 F o_at v1) F (0, 0)).bind (fun (e4 : Int32) =>
    some e4)
abbrev wd_X12_greatestBut (E : vE) (a_o a_o_at a_o_names a_o_sort a_o_trayMany a_o_trays a_o_tape a_o_text a_o_opened a_o_farBy a_o_attendsBy a_o_coveredBy a_o_cameBy a_o_cameThen a_o_fallsBy a_o_loops a_o_ran a_o_told1 : Nat) (o_status : Int32) (o_top : Int64) (o_bottom : Int64) (o_taped : Int32) (o_size : Int32) (o_token : Int32) (o_from : Int32) (o_end : Int32) (o_value : Int32) (o_faultKind : Int32) (o_faultPlace : Int32) (o_faults : Int32) (o_seen : Int32) (o_toldParts : Int32) (o_depth : Int32) (o_counted : Int32) (o_becameThen : Int32) (o_firstCorner : Int32) (o_drawn : Int32) (o_ranSteps : Int32) (o_isTold : Int32) (o_marks : Int32) (o_at : Nat → Int32) : va_W := [(a_o, .inr (12, [.ref a_o_at, .ref a_o_names, .int o_status, .long o_top, .long o_bottom, .ref a_o_sort, .ref a_o_trayMany, .ref a_o_trays, .ref a_o_tape, .ref a_o_text, .int o_taped, .int o_size, .int o_token, .int o_from, .int o_end, .int o_value, .int o_faultKind, .int o_faultPlace, .int o_faults, .int o_seen, .int o_toldParts, .ref a_o_opened, .int o_depth, .int o_counted, .ref a_o_farBy, .int o_becameThen, .ref a_o_attendsBy, .ref a_o_coveredBy, .ref a_o_cameBy, .ref a_o_cameThen, .int o_firstCorner, .ref a_o_fallsBy, .int o_drawn, .int o_ranSteps, .ref a_o_loops, .ref a_o_ran, .ref a_o_told1, .int o_isTold, .int o_marks])), (a_o_at, .inl (E.2.1, 3097, .inl o_at))]
set_option maxHeartbeats 4000000 in
set_option maxRecDepth 100000 in
theorem ct_X12_greatestBut (l : Launch) (E : vE) (F : Nat) (a_o a_o_at a_o_names a_o_sort a_o_trayMany a_o_trays a_o_tape a_o_text a_o_opened a_o_farBy a_o_attendsBy a_o_coveredBy a_o_cameBy a_o_cameThen a_o_fallsBy a_o_loops a_o_ran a_o_told1 : Nat) (o_status : Int32) (o_top : Int64) (o_bottom : Int64) (o_taped : Int32) (o_size : Int32) (o_token : Int32) (o_from : Int32) (o_end : Int32) (o_value : Int32) (o_faultKind : Int32) (o_faultPlace : Int32) (o_faults : Int32) (o_seen : Int32) (o_toldParts : Int32) (o_depth : Int32) (o_counted : Int32) (o_becameThen : Int32) (o_firstCorner : Int32) (o_drawn : Int32) (o_ranSteps : Int32) (o_isTold : Int32) (o_marks : Int32) (o_at : Nat → Int32) (v1 : Int32) (u : Int32) (hf : X12_greatestBut F o_at v1 = some u) :
    CtI l yX12_greatestBut cX12_greatestBut 4 (some .int) 3 E [.ref a_o, .int v1] (wd_X12_greatestBut E a_o a_o_at a_o_names a_o_sort a_o_trayMany a_o_trays a_o_tape a_o_text a_o_opened a_o_farBy a_o_attendsBy a_o_coveredBy a_o_cameBy a_o_cameThen a_o_fallsBy a_o_loops a_o_ran a_o_told1 o_status o_top o_bottom o_taped o_size o_token o_from o_end o_value o_faultKind o_faultPlace o_faults o_seen o_toldParts o_depth o_counted o_becameThen o_firstCorner o_drawn o_ranSteps o_isTold o_marks o_at) (wd_X12_greatestBut E a_o a_o_at a_o_names a_o_sort a_o_trayMany a_o_trays a_o_tape a_o_text a_o_opened a_o_farBy a_o_attendsBy a_o_coveredBy a_o_cameBy a_o_cameThen a_o_fallsBy a_o_loops a_o_ran a_o_told1 o_status o_top o_bottom o_taped o_size o_token o_from o_end o_value o_faultKind o_faultPlace o_faults o_seen o_toldParts o_depth o_counted o_becameThen o_firstCorner o_drawn o_ranSteps o_isTold o_marks o_at) u := by
  refine ctI (by decide) (Nat.le_of_ble_eq_true rfl) ?_
  intro p e s m below meth cd A ls aa QQ hq cx hP hD hS hl
  obtain ⟨⟨hx, hb, hml, hown, hts⟩, hr, hlocks, hK, hA, hX⟩ := id cx
  have hl : lv_has ls 4 [(0, .ref a_o), (1, .int v1)] := hl
  unfold X12_greatestBut at hf
  refine lv_iconst (v := 0) hx hb dX12_greatestBut_0 (by decide) ?_
  refine lv_istore_n (lv' := [(2, .int 0), (0, .ref a_o), (1, .int v1)]) hx hb dX12_greatestBut_1 rfl hl (by decide) rfl (fun ls hl => ?_)
  refine lv_iconst (v := 0) hx hb dX12_greatestBut_2 (by decide) ?_
  refine lv_istore_n (lv' := [(3, .int 0), (2, .int 0), (0, .ref a_o), (1, .int v1)]) hx hb dX12_greatestBut_3 rfl hl (by decide) rfl (fun ls hl => ?_)
  obtain ⟨e4, hit4, hf⟩ := bd hf
  refine iter_W (b := X12_greatestBut_b4 F o_at v1) (P := fun st4 => ∀ (H : Heap) (locs : List Loc) (ls : Array Slot), va_P E.1 vwCl (wd_X12_greatestBut E a_o a_o_at a_o_names a_o_sort a_o_trayMany a_o_trays a_o_tape a_o_text a_o_opened a_o_farBy a_o_attendsBy a_o_coveredBy a_o_cameBy a_o_cameThen a_o_fallsBy a_o_loops a_o_ran a_o_told1 o_status o_top o_bottom o_taped o_size o_token o_from o_end o_value o_faultKind o_faultPlace o_faults o_seen o_toldParts o_depth o_counted o_becameThen o_firstCorner o_drawn o_ranSteps o_isTold o_marks o_at) H → va_D A (wd_X12_greatestBut E a_o a_o_at a_o_names a_o_sort a_o_trayMany a_o_trays a_o_tape a_o_text a_o_opened a_o_farBy a_o_attendsBy a_o_coveredBy a_o_cameBy a_o_cameThen a_o_fallsBy a_o_loops a_o_ran a_o_told1 o_status o_top o_bottom o_taped o_size o_token o_from o_end o_value o_faultKind o_faultPlace o_faults o_seen o_toldParts o_depth o_counted o_becameThen o_firstCorner o_drawn o_ranSteps o_isTold o_marks o_at) → va_S A s.heap H locs → lv_has ls 4 [(0, .ref a_o), (1, .int v1), (2, .int st4.1), (3, .int st4.2)] → W p l e (rmd 3) s m aa below meth cd H locs 0 0 QQ (F0 m 4 ls [])) (G := (fun (e4 : Int32) => ∀ (H : Heap) (locs : List Loc) (ls : Array Slot), va_P E.1 vwCl (wd_X12_greatestBut E a_o a_o_at a_o_names a_o_sort a_o_trayMany a_o_trays a_o_tape a_o_text a_o_opened a_o_farBy a_o_attendsBy a_o_coveredBy a_o_cameBy a_o_cameThen a_o_fallsBy a_o_loops a_o_ran a_o_told1 o_status o_top o_bottom o_taped o_size o_token o_from o_end o_value o_faultKind o_faultPlace o_faults o_seen o_toldParts o_depth o_counted o_becameThen o_firstCorner o_drawn o_ranSteps o_isTold o_marks o_at) H → va_D A (wd_X12_greatestBut E a_o a_o_at a_o_names a_o_sort a_o_trayMany a_o_trays a_o_tape a_o_text a_o_opened a_o_farBy a_o_attendsBy a_o_coveredBy a_o_cameBy a_o_cameThen a_o_fallsBy a_o_loops a_o_ran a_o_told1 o_status o_top o_bottom o_taped o_size o_token o_from o_end o_value o_faultKind o_faultPlace o_faults o_seen o_toldParts o_depth o_counted o_becameThen o_firstCorner o_drawn o_ranSteps o_isTold o_marks o_at) → va_S A s.heap H locs → lv_has ls 4 [(2, .int e4)] → W p l e (rmd 3) s m aa below meth cd H locs 0 0 QQ (F0 m 49 ls []))) ?_ F (0, 0) e4 hit4 ?_ _ _ _ hP hD hS (lv_sub hl [2, 3, 1, 0] rfl)
  · intro st4 r4 hf hk4 he4 H locs ls hP hD hS hl
    have hj43 : ∀ (v2_j43 : Int32) (v3_j43 : Int32) (H : Heap) (locs : List Loc) (ls : Array Slot), X12_greatestBut_j43 F o_at v1 v2_j43 v3_j43 = some r4 → va_P E.1 vwCl (wd_X12_greatestBut E a_o a_o_at a_o_names a_o_sort a_o_trayMany a_o_trays a_o_tape a_o_text a_o_opened a_o_farBy a_o_attendsBy a_o_coveredBy a_o_cameBy a_o_cameThen a_o_fallsBy a_o_loops a_o_ran a_o_told1 o_status o_top o_bottom o_taped o_size o_token o_from o_end o_value o_faultKind o_faultPlace o_faults o_seen o_toldParts o_depth o_counted o_becameThen o_firstCorner o_drawn o_ranSteps o_isTold o_marks o_at) H → va_D A (wd_X12_greatestBut E a_o a_o_at a_o_names a_o_sort a_o_trayMany a_o_trays a_o_tape a_o_text a_o_opened a_o_farBy a_o_attendsBy a_o_coveredBy a_o_cameBy a_o_cameThen a_o_fallsBy a_o_loops a_o_ran a_o_told1 o_status o_top o_bottom o_taped o_size o_token o_from o_end o_value o_faultKind o_faultPlace o_faults o_seen o_toldParts o_depth o_counted o_becameThen o_firstCorner o_drawn o_ranSteps o_isTold o_marks o_at) → va_S A s.heap H locs → lv_has ls 4 [(0, .ref a_o), (1, .int v1), (2, .int v2_j43), (3, .int v3_j43)] → W p l e (rmd 3) s m aa below meth cd H locs 0 0 QQ (F0 m 43 ls []) := by
      intro v2_j43 v3_j43 H locs ls hf hP hD hS hl
      unfold X12_greatestBut_j43 at hf
      refine lv_iinc (v := (v3_j43 + 1)) (lv' := [(3, .int (v3_j43 + 1)), (0, .ref a_o), (1, .int v1), (2, .int v2_j43)]) hx hb dX12_greatestBut_43 hl (k := 3) rfl rfl (by decide) rfl (fun ls hl => ?_)
      refine lv_goto (tgt := 4) hx hb dX12_greatestBut_46 (by decide) ?_
      exact hk4 _ (Option.some.inj hf).symm _ _ _ hP hD hS (lv_sub hl [1, 2, 3, 0] rfl)
    unfold X12_greatestBut_b4 at hf
    refine lv_iload_n hx hb dX12_greatestBut_4 rfl (lv_at hl 3 rfl) ?_
    refine lv_aload_n hx hb dX12_greatestBut_5 rfl (lv_at hl 0 rfl) ?_
    refine va_get (D := E.1) (ci := 12) (v := .ref a_o_at) (C := RX12) (T := TX12) (N := 39) hx hb hts inX12 hown hK hP 0 rfl rfl 0 (by decide) (hts _ fl_X12_7) (fun _ h9 => h9) rfl dX12_greatestBut_6 ?_
    refine lv_iconst (v := 3) hx hb dX12_greatestBut_9 (by decide) ?_
    obtain ⟨hi, hf⟩ := ck hf
    refine r_iald 1 cx hP rfl hi dX12_greatestBut_10 ?_
    refine lv_icmp_ge (tgt := 49) hx hb dX12_greatestBut_11 (by decide) (fun hc => ?_) (fun hc => ?_)
    · have hf := it_t hc hf
      exact he4 _ (Option.some.inj hf).symm _ _ _ hP hD hS (lv_sub hl [2] rfl)
    · have hf := it_f hc hf
      refine lv_aload_n hx hb dX12_greatestBut_14 rfl (lv_at hl 0 rfl) ?_
      refine lv_iload_n hx hb dX12_greatestBut_15 rfl (lv_at hl 3 rfl) ?_
      obtain ⟨u16, hu16, hf⟩ := bd hf
      refine keepVI (ct_X12_isToCome l E a_o a_o_at a_o_names a_o_sort a_o_trayMany a_o_trays a_o_tape a_o_text a_o_opened a_o_farBy a_o_attendsBy a_o_coveredBy a_o_cameBy a_o_cameThen a_o_fallsBy a_o_loops a_o_ran a_o_told1 o_status o_top o_bottom o_taped o_size o_token o_from o_end o_value o_faultKind o_faultPlace o_faults o_seen o_toldParts o_depth o_counted o_becameThen o_firstCorner o_drawn o_ranSteps o_isTold o_marks o_at st4.2 u16 hu16) [0, 1] cal_X12_isToCome cav_X12_isToCome lk_X12_333 cx hP hD hS hl dX12_greatestBut_16 rfl rfl rfl rfl (Nat.le_of_ble_eq_true rfl) ⟨Nat.le_of_ble_eq_true rfl, Nat.le_of_ble_eq_true rfl⟩ rfl (by decide) (fun H locs hP hS => ?_)
      refine lv_if_eq (tgt := 43) hx hb dX12_greatestBut_19 (by decide) (fun hc => ?_) (fun hc => ?_)
      · have hf := it_t hc hf
        exact hj43 _ _ _ _ _ hf hP hD hS (lv_sub hl [0, 1, 2, 3] rfl)
      · have hf := it_f hc hf
        refine lv_aload_n hx hb dX12_greatestBut_22 rfl (lv_at hl 0 rfl) ?_
        refine lv_iload_n hx hb dX12_greatestBut_23 rfl (lv_at hl 3 rfl) ?_
        refine lv_iconst (v := 0) hx hb dX12_greatestBut_24 (by decide) ?_
        obtain ⟨u25, hu25, hf⟩ := bd hf
        refine keepVI (ct_X12_happeningOf l E a_o a_o_at a_o_names a_o_sort a_o_trayMany a_o_trays a_o_tape a_o_text a_o_opened a_o_farBy a_o_attendsBy a_o_coveredBy a_o_cameBy a_o_cameThen a_o_fallsBy a_o_loops a_o_ran a_o_told1 o_status o_top o_bottom o_taped o_size o_token o_from o_end o_value o_faultKind o_faultPlace o_faults o_seen o_toldParts o_depth o_counted o_becameThen o_firstCorner o_drawn o_ranSteps o_isTold o_marks o_at st4.2 (0 : Int32) u25 hu25) [0, 1] cal_X12_happeningOf cav_X12_happeningOf lk_X12_278 cx hP hD hS hl dX12_greatestBut_25 rfl rfl rfl rfl (Nat.le_of_ble_eq_true rfl) ⟨Nat.le_of_ble_eq_true rfl, Nat.le_of_ble_eq_true rfl⟩ rfl (by decide) (fun H locs hP hS => ?_)
        refine lv_iload_n hx hb dX12_greatestBut_28 rfl (lv_at hl 1 rfl) ?_
        refine lv_icmp_eq (tgt := 43) hx hb dX12_greatestBut_29 (by decide) (fun hc => ?_) (fun hc => ?_)
        · have hf := it_t hc hf
          exact hj43 _ _ _ _ _ hf hP hD hS (lv_sub hl [0, 1, 2, 3] rfl)
        · have hf := it_f hc hf
          refine lv_iload_n hx hb dX12_greatestBut_32 rfl (lv_at hl 2 rfl) ?_
          refine lv_aload_n hx hb dX12_greatestBut_33 rfl (lv_at hl 0 rfl) ?_
          refine lv_iload_n hx hb dX12_greatestBut_34 rfl (lv_at hl 3 rfl) ?_
          refine lv_iconst (v := 2) hx hb dX12_greatestBut_35 (by decide) ?_
          obtain ⟨u36, hu36, hf⟩ := bd hf
          refine keepVI (ct_X12_happeningOf l E a_o a_o_at a_o_names a_o_sort a_o_trayMany a_o_trays a_o_tape a_o_text a_o_opened a_o_farBy a_o_attendsBy a_o_coveredBy a_o_cameBy a_o_cameThen a_o_fallsBy a_o_loops a_o_ran a_o_told1 o_status o_top o_bottom o_taped o_size o_token o_from o_end o_value o_faultKind o_faultPlace o_faults o_seen o_toldParts o_depth o_counted o_becameThen o_firstCorner o_drawn o_ranSteps o_isTold o_marks o_at st4.2 (2 : Int32) u36 hu36) [0, 1] cal_X12_happeningOf cav_X12_happeningOf lk_X12_278 cx hP hD hS hl dX12_greatestBut_36 rfl rfl rfl rfl (Nat.le_of_ble_eq_true rfl) ⟨Nat.le_of_ble_eq_true rfl, Nat.le_of_ble_eq_true rfl⟩ rfl (by decide) (fun H locs hP hS => ?_)
          refine r_mmax cx hl lk_X12_441 mt_max (Nat.le_of_ble_eq_true rfl) (Nat.le_of_ble_eq_true rfl) dX12_greatestBut_39 ?_
          refine lv_istore_n (lv' := [(2, .int (jmax st4.1 u36)), (0, .ref a_o), (1, .int v1), (3, .int st4.2)]) hx hb dX12_greatestBut_42 rfl hl (by decide) rfl (fun ls hl => ?_)
          exact hj43 _ _ _ _ _ hf hP hD hS (lv_sub hl [1, 2, 0, 3] rfl)
  · refine fun H locs ls hP hD hS hl => ?_
    refine lv_iload_n hx hb dX12_greatestBut_49 rfl (lv_at hl 0 rfl) ?_
    obtain rfl := Option.some.inj hf
    subst hq
    exact retI cx hP hD hS dX12_greatestBut_50
def X12_guardOf_j34 (F : Nat) (o_at : Nat → Int32) (v1 : Int32) (v2 : Int32) : Option ((Int32 × Int32) ⊕ ((Int32))) :=
  some (.inl (v1, (v2 + 1)))
def X12_guardOf_j32 (F : Nat) (o_at : Nat → Int32) (v2 : Int32) : Option ((Int32 × Int32) ⊕ ((Int32))) :=
  X12_guardOf_j34 F o_at v2 v2
def X12_guardOf_b4 (F : Nat) (o_at : Nat → Int32) (st4 : Int32 × Int32) : Option ((Int32 × Int32) ⊕ ((Int32))) :=
  if ix 0 3097 then
  if (jat o_at 0) ≤ st4.2 then
  some (.inr st4.1)
  else
  if st4.1 = (-1) then
  X12_guardOf_j32 F o_at st4.2
  else
  (X12_greatestBut F o_at st4.2).bind fun u21 =>
  (X12_greatestBut F o_at st4.1).bind fun u26 =>
  if u26 ≤ u21 then
  X12_guardOf_j34 F o_at st4.1 st4.2
  else
  X12_guardOf_j32 F o_at st4.2
  else none
def X12_guardOf (F : Nat) (o_at : Nat → Int32) : Option (Int32) :=
  (iter (X12_guardOf_b4 F o_at) F ((-1), 0)).bind (fun (e4 : Int32) =>
    some e4)
abbrev wd_X12_guardOf (E : vE) (a_o a_o_at a_o_names a_o_sort a_o_trayMany a_o_trays a_o_tape a_o_text a_o_opened a_o_farBy a_o_attendsBy a_o_coveredBy a_o_cameBy a_o_cameThen a_o_fallsBy a_o_loops a_o_ran a_o_told1 : Nat) (o_status : Int32) (o_top : Int64) (o_bottom : Int64) (o_taped : Int32) (o_size : Int32) (o_token : Int32) (o_from : Int32) (o_end : Int32) (o_value : Int32) (o_faultKind : Int32) (o_faultPlace : Int32) (o_faults : Int32) (o_seen : Int32) (o_toldParts : Int32) (o_depth : Int32) (o_counted : Int32) (o_becameThen : Int32) (o_firstCorner : Int32) (o_drawn : Int32) (o_ranSteps : Int32) (o_isTold : Int32) (o_marks : Int32) (o_at : Nat → Int32) : va_W := [(a_o, .inr (12, [.ref a_o_at, .ref a_o_names, .int o_status, .long o_top, .long o_bottom, .ref a_o_sort, .ref a_o_trayMany, .ref a_o_trays, .ref a_o_tape, .ref a_o_text, .int o_taped, .int o_size, .int o_token, .int o_from, .int o_end, .int o_value, .int o_faultKind, .int o_faultPlace, .int o_faults, .int o_seen, .int o_toldParts, .ref a_o_opened, .int o_depth, .int o_counted, .ref a_o_farBy, .int o_becameThen, .ref a_o_attendsBy, .ref a_o_coveredBy, .ref a_o_cameBy, .ref a_o_cameThen, .int o_firstCorner, .ref a_o_fallsBy, .int o_drawn, .int o_ranSteps, .ref a_o_loops, .ref a_o_ran, .ref a_o_told1, .int o_isTold, .int o_marks])), (a_o_at, .inl (E.2.1, 3097, .inl o_at))]
set_option maxHeartbeats 4000000 in
set_option maxRecDepth 100000 in
theorem ct_X12_guardOf (l : Launch) (E : vE) (F : Nat) (a_o a_o_at a_o_names a_o_sort a_o_trayMany a_o_trays a_o_tape a_o_text a_o_opened a_o_farBy a_o_attendsBy a_o_coveredBy a_o_cameBy a_o_cameThen a_o_fallsBy a_o_loops a_o_ran a_o_told1 : Nat) (o_status : Int32) (o_top : Int64) (o_bottom : Int64) (o_taped : Int32) (o_size : Int32) (o_token : Int32) (o_from : Int32) (o_end : Int32) (o_value : Int32) (o_faultKind : Int32) (o_faultPlace : Int32) (o_faults : Int32) (o_seen : Int32) (o_toldParts : Int32) (o_depth : Int32) (o_counted : Int32) (o_becameThen : Int32) (o_firstCorner : Int32) (o_drawn : Int32) (o_ranSteps : Int32) (o_isTold : Int32) (o_marks : Int32) (o_at : Nat → Int32) (u : Int32) (hf : X12_guardOf F o_at = some u) :
    CtI l yX12_guardOf cX12_guardOf 3 (some .int) 4 E [.ref a_o] (wd_X12_guardOf E a_o a_o_at a_o_names a_o_sort a_o_trayMany a_o_trays a_o_tape a_o_text a_o_opened a_o_farBy a_o_attendsBy a_o_coveredBy a_o_cameBy a_o_cameThen a_o_fallsBy a_o_loops a_o_ran a_o_told1 o_status o_top o_bottom o_taped o_size o_token o_from o_end o_value o_faultKind o_faultPlace o_faults o_seen o_toldParts o_depth o_counted o_becameThen o_firstCorner o_drawn o_ranSteps o_isTold o_marks o_at) (wd_X12_guardOf E a_o a_o_at a_o_names a_o_sort a_o_trayMany a_o_trays a_o_tape a_o_text a_o_opened a_o_farBy a_o_attendsBy a_o_coveredBy a_o_cameBy a_o_cameThen a_o_fallsBy a_o_loops a_o_ran a_o_told1 o_status o_top o_bottom o_taped o_size o_token o_from o_end o_value o_faultKind o_faultPlace o_faults o_seen o_toldParts o_depth o_counted o_becameThen o_firstCorner o_drawn o_ranSteps o_isTold o_marks o_at) u := by
  refine ctI (by decide) (Nat.le_of_ble_eq_true rfl) ?_
  intro p e s m below meth cd A ls aa QQ hq cx hP hD hS hl
  obtain ⟨⟨hx, hb, hml, hown, hts⟩, hr, hlocks, hK, hA, hX⟩ := id cx
  have hl : lv_has ls 3 [(0, .ref a_o)] := hl
  unfold X12_guardOf at hf
  refine lv_iconst (v := (-1)) hx hb dX12_guardOf_0 (by decide) ?_
  refine lv_istore_n (lv' := [(1, .int (-1)), (0, .ref a_o)]) hx hb dX12_guardOf_1 rfl hl (by decide) rfl (fun ls hl => ?_)
  refine lv_iconst (v := 0) hx hb dX12_guardOf_2 (by decide) ?_
  refine lv_istore_n (lv' := [(2, .int 0), (1, .int (-1)), (0, .ref a_o)]) hx hb dX12_guardOf_3 rfl hl (by decide) rfl (fun ls hl => ?_)
  obtain ⟨e4, hit4, hf⟩ := bd hf
  refine iter_W (b := X12_guardOf_b4 F o_at) (P := fun st4 => ∀ (H : Heap) (locs : List Loc) (ls : Array Slot), va_P E.1 vwCl (wd_X12_guardOf E a_o a_o_at a_o_names a_o_sort a_o_trayMany a_o_trays a_o_tape a_o_text a_o_opened a_o_farBy a_o_attendsBy a_o_coveredBy a_o_cameBy a_o_cameThen a_o_fallsBy a_o_loops a_o_ran a_o_told1 o_status o_top o_bottom o_taped o_size o_token o_from o_end o_value o_faultKind o_faultPlace o_faults o_seen o_toldParts o_depth o_counted o_becameThen o_firstCorner o_drawn o_ranSteps o_isTold o_marks o_at) H → va_D A (wd_X12_guardOf E a_o a_o_at a_o_names a_o_sort a_o_trayMany a_o_trays a_o_tape a_o_text a_o_opened a_o_farBy a_o_attendsBy a_o_coveredBy a_o_cameBy a_o_cameThen a_o_fallsBy a_o_loops a_o_ran a_o_told1 o_status o_top o_bottom o_taped o_size o_token o_from o_end o_value o_faultKind o_faultPlace o_faults o_seen o_toldParts o_depth o_counted o_becameThen o_firstCorner o_drawn o_ranSteps o_isTold o_marks o_at) → va_S A s.heap H locs → lv_has ls 3 [(0, .ref a_o), (1, .int st4.1), (2, .int st4.2)] → W p l e (rmd 4) s m aa below meth cd H locs 0 0 QQ (F0 m 4 ls [])) (G := (fun (e4 : Int32) => ∀ (H : Heap) (locs : List Loc) (ls : Array Slot), va_P E.1 vwCl (wd_X12_guardOf E a_o a_o_at a_o_names a_o_sort a_o_trayMany a_o_trays a_o_tape a_o_text a_o_opened a_o_farBy a_o_attendsBy a_o_coveredBy a_o_cameBy a_o_cameThen a_o_fallsBy a_o_loops a_o_ran a_o_told1 o_status o_top o_bottom o_taped o_size o_token o_from o_end o_value o_faultKind o_faultPlace o_faults o_seen o_toldParts o_depth o_counted o_becameThen o_firstCorner o_drawn o_ranSteps o_isTold o_marks o_at) H → va_D A (wd_X12_guardOf E a_o a_o_at a_o_names a_o_sort a_o_trayMany a_o_trays a_o_tape a_o_text a_o_opened a_o_farBy a_o_attendsBy a_o_coveredBy a_o_cameBy a_o_cameThen a_o_fallsBy a_o_loops a_o_ran a_o_told1 o_status o_top o_bottom o_taped o_size o_token o_from o_end o_value o_faultKind o_faultPlace o_faults o_seen o_toldParts o_depth o_counted o_becameThen o_firstCorner o_drawn o_ranSteps o_isTold o_marks o_at) → va_S A s.heap H locs → lv_has ls 3 [(1, .int e4)] → W p l e (rmd 4) s m aa below meth cd H locs 0 0 QQ (F0 m 40 ls []))) ?_ F ((-1), 0) e4 hit4 ?_ _ _ _ hP hD hS (lv_sub hl [2, 1, 0] rfl)
  · intro st4 r4 hf hk4 he4 H locs ls hP hD hS hl
    have hj34 : ∀ (v1_j34 : Int32) (v2_j34 : Int32) (H : Heap) (locs : List Loc) (ls : Array Slot), X12_guardOf_j34 F o_at v1_j34 v2_j34 = some r4 → va_P E.1 vwCl (wd_X12_guardOf E a_o a_o_at a_o_names a_o_sort a_o_trayMany a_o_trays a_o_tape a_o_text a_o_opened a_o_farBy a_o_attendsBy a_o_coveredBy a_o_cameBy a_o_cameThen a_o_fallsBy a_o_loops a_o_ran a_o_told1 o_status o_top o_bottom o_taped o_size o_token o_from o_end o_value o_faultKind o_faultPlace o_faults o_seen o_toldParts o_depth o_counted o_becameThen o_firstCorner o_drawn o_ranSteps o_isTold o_marks o_at) H → va_D A (wd_X12_guardOf E a_o a_o_at a_o_names a_o_sort a_o_trayMany a_o_trays a_o_tape a_o_text a_o_opened a_o_farBy a_o_attendsBy a_o_coveredBy a_o_cameBy a_o_cameThen a_o_fallsBy a_o_loops a_o_ran a_o_told1 o_status o_top o_bottom o_taped o_size o_token o_from o_end o_value o_faultKind o_faultPlace o_faults o_seen o_toldParts o_depth o_counted o_becameThen o_firstCorner o_drawn o_ranSteps o_isTold o_marks o_at) → va_S A s.heap H locs → lv_has ls 3 [(0, .ref a_o), (1, .int v1_j34), (2, .int v2_j34)] → W p l e (rmd 4) s m aa below meth cd H locs 0 0 QQ (F0 m 34 ls []) := by
      intro v1_j34 v2_j34 H locs ls hf hP hD hS hl
      unfold X12_guardOf_j34 at hf
      refine lv_iinc (v := (v2_j34 + 1)) (lv' := [(2, .int (v2_j34 + 1)), (0, .ref a_o), (1, .int v1_j34)]) hx hb dX12_guardOf_34 hl (k := 2) rfl rfl (by decide) rfl (fun ls hl => ?_)
      refine lv_goto (tgt := 4) hx hb dX12_guardOf_37 (by decide) ?_
      exact hk4 _ (Option.some.inj hf).symm _ _ _ hP hD hS (lv_sub hl [1, 2, 0] rfl)
    have hj32 : ∀ (v2_j32 : Int32) (H : Heap) (locs : List Loc) (ls : Array Slot), X12_guardOf_j32 F o_at v2_j32 = some r4 → va_P E.1 vwCl (wd_X12_guardOf E a_o a_o_at a_o_names a_o_sort a_o_trayMany a_o_trays a_o_tape a_o_text a_o_opened a_o_farBy a_o_attendsBy a_o_coveredBy a_o_cameBy a_o_cameThen a_o_fallsBy a_o_loops a_o_ran a_o_told1 o_status o_top o_bottom o_taped o_size o_token o_from o_end o_value o_faultKind o_faultPlace o_faults o_seen o_toldParts o_depth o_counted o_becameThen o_firstCorner o_drawn o_ranSteps o_isTold o_marks o_at) H → va_D A (wd_X12_guardOf E a_o a_o_at a_o_names a_o_sort a_o_trayMany a_o_trays a_o_tape a_o_text a_o_opened a_o_farBy a_o_attendsBy a_o_coveredBy a_o_cameBy a_o_cameThen a_o_fallsBy a_o_loops a_o_ran a_o_told1 o_status o_top o_bottom o_taped o_size o_token o_from o_end o_value o_faultKind o_faultPlace o_faults o_seen o_toldParts o_depth o_counted o_becameThen o_firstCorner o_drawn o_ranSteps o_isTold o_marks o_at) → va_S A s.heap H locs → lv_has ls 3 [(0, .ref a_o), (2, .int v2_j32)] → W p l e (rmd 4) s m aa below meth cd H locs 0 0 QQ (F0 m 32 ls []) := by
      intro v2_j32 H locs ls hf hP hD hS hl
      unfold X12_guardOf_j32 at hf
      refine lv_iload_n hx hb dX12_guardOf_32 rfl (lv_at hl 1 rfl) ?_
      refine lv_istore_n (lv' := [(1, .int v2_j32), (0, .ref a_o), (2, .int v2_j32)]) hx hb dX12_guardOf_33 rfl hl (by decide) rfl (fun ls hl => ?_)
      exact hj34 _ _ _ _ _ hf hP hD hS (lv_sub hl [1, 0, 2] rfl)
    unfold X12_guardOf_b4 at hf
    refine lv_iload_n hx hb dX12_guardOf_4 rfl (lv_at hl 2 rfl) ?_
    refine lv_aload_n hx hb dX12_guardOf_5 rfl (lv_at hl 0 rfl) ?_
    refine va_get (D := E.1) (ci := 12) (v := .ref a_o_at) (C := RX12) (T := TX12) (N := 39) hx hb hts inX12 hown hK hP 0 rfl rfl 0 (by decide) (hts _ fl_X12_7) (fun _ h9 => h9) rfl dX12_guardOf_6 ?_
    refine lv_iconst (v := 0) hx hb dX12_guardOf_9 (by decide) ?_
    obtain ⟨hi, hf⟩ := ck hf
    refine r_iald 1 cx hP rfl hi dX12_guardOf_10 ?_
    refine lv_icmp_ge (tgt := 40) hx hb dX12_guardOf_11 (by decide) (fun hc => ?_) (fun hc => ?_)
    · have hf := it_t hc hf
      exact he4 _ (Option.some.inj hf).symm _ _ _ hP hD hS (lv_sub hl [1] rfl)
    · have hf := it_f hc hf
      refine lv_iload_n hx hb dX12_guardOf_14 rfl (lv_at hl 1 rfl) ?_
      refine lv_iconst (v := (-1)) hx hb dX12_guardOf_15 (by decide) ?_
      refine lv_icmp_eq (tgt := 32) hx hb dX12_guardOf_16 (by decide) (fun hc => ?_) (fun hc => ?_)
      · have hf := it_t hc hf
        exact hj32 _ _ _ _ hf hP hD hS (lv_sub hl [0, 2] rfl)
      · have hf := it_f hc hf
        refine lv_aload_n hx hb dX12_guardOf_19 rfl (lv_at hl 0 rfl) ?_
        refine lv_iload_n hx hb dX12_guardOf_20 rfl (lv_at hl 2 rfl) ?_
        obtain ⟨u21, hu21, hf⟩ := bd hf
        refine keepVI (ct_X12_greatestBut l E F a_o a_o_at a_o_names a_o_sort a_o_trayMany a_o_trays a_o_tape a_o_text a_o_opened a_o_farBy a_o_attendsBy a_o_coveredBy a_o_cameBy a_o_cameThen a_o_fallsBy a_o_loops a_o_ran a_o_told1 o_status o_top o_bottom o_taped o_size o_token o_from o_end o_value o_faultKind o_faultPlace o_faults o_seen o_toldParts o_depth o_counted o_becameThen o_firstCorner o_drawn o_ranSteps o_isTold o_marks o_at st4.2 u21 hu21) [0, 1] cal_X12_greatestBut cav_X12_greatestBut lk_X12_444 cx hP hD hS hl dX12_guardOf_21 rfl rfl rfl rfl (Nat.le_of_ble_eq_true rfl) ⟨Nat.le_of_ble_eq_true rfl, Nat.le_of_ble_eq_true rfl⟩ rfl (by decide) (fun H locs hP hS => ?_)
        refine lv_aload_n hx hb dX12_guardOf_24 rfl (lv_at hl 0 rfl) ?_
        refine lv_iload_n hx hb dX12_guardOf_25 rfl (lv_at hl 1 rfl) ?_
        obtain ⟨u26, hu26, hf⟩ := bd hf
        refine keepVI (ct_X12_greatestBut l E F a_o a_o_at a_o_names a_o_sort a_o_trayMany a_o_trays a_o_tape a_o_text a_o_opened a_o_farBy a_o_attendsBy a_o_coveredBy a_o_cameBy a_o_cameThen a_o_fallsBy a_o_loops a_o_ran a_o_told1 o_status o_top o_bottom o_taped o_size o_token o_from o_end o_value o_faultKind o_faultPlace o_faults o_seen o_toldParts o_depth o_counted o_becameThen o_firstCorner o_drawn o_ranSteps o_isTold o_marks o_at st4.1 u26 hu26) [0, 1] cal_X12_greatestBut cav_X12_greatestBut lk_X12_444 cx hP hD hS hl dX12_guardOf_26 rfl rfl rfl rfl (Nat.le_of_ble_eq_true rfl) ⟨Nat.le_of_ble_eq_true rfl, Nat.le_of_ble_eq_true rfl⟩ rfl (by decide) (fun H locs hP hS => ?_)
        refine lv_icmp_ge (tgt := 34) hx hb dX12_guardOf_29 (by decide) (fun hc => ?_) (fun hc => ?_)
        · have hf := it_t hc hf
          exact hj34 _ _ _ _ _ hf hP hD hS (lv_sub hl [0, 1, 2] rfl)
        · have hf := it_f hc hf
          exact hj32 _ _ _ _ hf hP hD hS (lv_sub hl [0, 2] rfl)
  · refine fun H locs ls hP hD hS hl => ?_
    refine lv_iload_n hx hb dX12_guardOf_40 rfl (lv_at hl 0 rfl) ?_
    obtain rfl := Option.some.inj hf
    subst hq
    exact retI cx hP hD hS dX12_guardOf_41
def X12_guard (F : Nat) (o_status : Int32) (o_at : Nat → Int32) : Option (Int32 × Int32) :=
  (X12_guardOf F o_at).bind fun u2 =>
  (X12_orNone o_status u2).bind fun u5 =>
  some (u5.1, u5.2)
abbrev wd_X12_guard (E : vE) (a_o a_o_at a_o_names a_o_sort a_o_trayMany a_o_trays a_o_tape a_o_text a_o_opened a_o_farBy a_o_attendsBy a_o_coveredBy a_o_cameBy a_o_cameThen a_o_fallsBy a_o_loops a_o_ran a_o_told1 : Nat) (o_status : Int32) (o_top : Int64) (o_bottom : Int64) (o_taped : Int32) (o_size : Int32) (o_token : Int32) (o_from : Int32) (o_end : Int32) (o_value : Int32) (o_faultKind : Int32) (o_faultPlace : Int32) (o_faults : Int32) (o_seen : Int32) (o_toldParts : Int32) (o_depth : Int32) (o_counted : Int32) (o_becameThen : Int32) (o_firstCorner : Int32) (o_drawn : Int32) (o_ranSteps : Int32) (o_isTold : Int32) (o_marks : Int32) (o_at : Nat → Int32) : va_W := [(a_o, .inr (12, [.ref a_o_at, .ref a_o_names, .int o_status, .long o_top, .long o_bottom, .ref a_o_sort, .ref a_o_trayMany, .ref a_o_trays, .ref a_o_tape, .ref a_o_text, .int o_taped, .int o_size, .int o_token, .int o_from, .int o_end, .int o_value, .int o_faultKind, .int o_faultPlace, .int o_faults, .int o_seen, .int o_toldParts, .ref a_o_opened, .int o_depth, .int o_counted, .ref a_o_farBy, .int o_becameThen, .ref a_o_attendsBy, .ref a_o_coveredBy, .ref a_o_cameBy, .ref a_o_cameThen, .int o_firstCorner, .ref a_o_fallsBy, .int o_drawn, .int o_ranSteps, .ref a_o_loops, .ref a_o_ran, .ref a_o_told1, .int o_isTold, .int o_marks])), (a_o_at, .inl (E.2.1, 3097, .inl o_at))]
set_option maxHeartbeats 4000000 in
set_option maxRecDepth 100000 in
theorem ct_X12_guard (l : Launch) (E : vE) (F : Nat) (a_o a_o_at a_o_names a_o_sort a_o_trayMany a_o_trays a_o_tape a_o_text a_o_opened a_o_farBy a_o_attendsBy a_o_coveredBy a_o_cameBy a_o_cameThen a_o_fallsBy a_o_loops a_o_ran a_o_told1 : Nat) (o_status : Int32) (o_top : Int64) (o_bottom : Int64) (o_taped : Int32) (o_size : Int32) (o_token : Int32) (o_from : Int32) (o_end : Int32) (o_value : Int32) (o_faultKind : Int32) (o_faultPlace : Int32) (o_faults : Int32) (o_seen : Int32) (o_toldParts : Int32) (o_depth : Int32) (o_counted : Int32) (o_becameThen : Int32) (o_firstCorner : Int32) (o_drawn : Int32) (o_ranSteps : Int32) (o_isTold : Int32) (o_marks : Int32) (o_at : Nat → Int32) (u : Int32 × Int32) (hf : X12_guard F o_status o_at = some u) :
    CtI l yX12_guard cX12_guard 1 (some .int) 5 E [.ref a_o] (wd_X12_guard E a_o a_o_at a_o_names a_o_sort a_o_trayMany a_o_trays a_o_tape a_o_text a_o_opened a_o_farBy a_o_attendsBy a_o_coveredBy a_o_cameBy a_o_cameThen a_o_fallsBy a_o_loops a_o_ran a_o_told1 o_status o_top o_bottom o_taped o_size o_token o_from o_end o_value o_faultKind o_faultPlace o_faults o_seen o_toldParts o_depth o_counted o_becameThen o_firstCorner o_drawn o_ranSteps o_isTold o_marks o_at) (wd_X12_guard E a_o a_o_at a_o_names a_o_sort a_o_trayMany a_o_trays a_o_tape a_o_text a_o_opened a_o_farBy a_o_attendsBy a_o_coveredBy a_o_cameBy a_o_cameThen a_o_fallsBy a_o_loops a_o_ran a_o_told1 u.2 o_top o_bottom o_taped o_size o_token o_from o_end o_value o_faultKind o_faultPlace o_faults o_seen o_toldParts o_depth o_counted o_becameThen o_firstCorner o_drawn o_ranSteps o_isTold o_marks o_at) u.1 := by
  refine ctI (by decide) (Nat.le_of_ble_eq_true rfl) ?_
  intro p e s m below meth cd A ls aa QQ hq cx hP hD hS hl
  obtain ⟨⟨hx, hb, hml, hown, hts⟩, hr, hlocks, hK, hA, hX⟩ := id cx
  have hl : lv_has ls 1 [(0, .ref a_o)] := hl
  unfold X12_guard at hf
  refine lv_aload_n hx hb dX12_guard_0 rfl (lv_at hl 0 rfl) ?_
  refine lv_aload_n hx hb dX12_guard_1 rfl (lv_at hl 0 rfl) ?_
  obtain ⟨u2, hu2, hf⟩ := bd hf
  refine keepVI (ct_X12_guardOf l E F a_o a_o_at a_o_names a_o_sort a_o_trayMany a_o_trays a_o_tape a_o_text a_o_opened a_o_farBy a_o_attendsBy a_o_coveredBy a_o_cameBy a_o_cameThen a_o_fallsBy a_o_loops a_o_ran a_o_told1 o_status o_top o_bottom o_taped o_size o_token o_from o_end o_value o_faultKind o_faultPlace o_faults o_seen o_toldParts o_depth o_counted o_becameThen o_firstCorner o_drawn o_ranSteps o_isTold o_marks o_at u2 hu2) [0, 1] cal_X12_guardOf cav_X12_guardOf lk_X12_447 cx hP hD hS hl dX12_guard_2 rfl rfl rfl rfl (Nat.le_of_ble_eq_true rfl) ⟨Nat.le_of_ble_eq_true rfl, Nat.le_of_ble_eq_true rfl⟩ rfl (by decide) (fun H locs hP hS => ?_)
  obtain ⟨u5, hu5, hf⟩ := bd hf
  refine callVI (wn := (wd_X12_guard E a_o a_o_at a_o_names a_o_sort a_o_trayMany a_o_trays a_o_tape a_o_text a_o_opened a_o_farBy a_o_attendsBy a_o_coveredBy a_o_cameBy a_o_cameThen a_o_fallsBy a_o_loops a_o_ran a_o_told1 u5.2 o_top o_bottom o_taped o_size o_token o_from o_end o_value o_faultKind o_faultPlace o_faults o_seen o_toldParts o_depth o_counted o_becameThen o_firstCorner o_drawn o_ranSteps o_isTold o_marks o_at)) (n1 := 2) (ct_X12_orNone l E a_o a_o_at a_o_names a_o_sort a_o_trayMany a_o_trays a_o_tape a_o_text a_o_opened a_o_farBy a_o_attendsBy a_o_coveredBy a_o_cameBy a_o_cameThen a_o_fallsBy a_o_loops a_o_ran a_o_told1 o_status o_top o_bottom o_taped o_size o_token o_from o_end o_value o_faultKind o_faultPlace o_faults o_seen o_toldParts o_depth o_counted o_becameThen o_firstCorner o_drawn o_ranSteps o_isTold o_marks u2 u5 hu5) [0] cal_X12_orNone cav_X12_orNone lk_X12_324 cx hP hD hS hl dX12_guard_5 rfl rfl rfl rfl (Nat.le_of_ble_eq_true rfl) ⟨Nat.le_of_ble_eq_true rfl, Nat.le_of_ble_eq_true rfl⟩ rfl (by decide +kernel) rfl [some 0, none] rfl (by decide +kernel) rfl (fun H locs hP hD hS => ?_)
  obtain rfl := Option.some.inj hf
  subst hq
  exact retI cx hP hD hS dX12_guard_8
def X12_guardLeft (F : Nat) (o_status : Int32) (o_at : Nat → Int32) : Option (Int32 × Int32) :=
  (X12_guardOf F o_at).bind fun u1 =>
  if u1 = (-1) then
  (X12_refuse o_status (6 : Int32)).bind fun u13 =>
  some (u13.1, u13.2)
  else
  (X12_greatestBut F o_at u1).bind fun u22 =>
  (X12_gives o_status u22).bind fun u25 =>
  some (u25.1, u25.2)
abbrev wd_X12_guardLeft (E : vE) (a_o a_o_at a_o_names a_o_sort a_o_trayMany a_o_trays a_o_tape a_o_text a_o_opened a_o_farBy a_o_attendsBy a_o_coveredBy a_o_cameBy a_o_cameThen a_o_fallsBy a_o_loops a_o_ran a_o_told1 : Nat) (o_status : Int32) (o_top : Int64) (o_bottom : Int64) (o_taped : Int32) (o_size : Int32) (o_token : Int32) (o_from : Int32) (o_end : Int32) (o_value : Int32) (o_faultKind : Int32) (o_faultPlace : Int32) (o_faults : Int32) (o_seen : Int32) (o_toldParts : Int32) (o_depth : Int32) (o_counted : Int32) (o_becameThen : Int32) (o_firstCorner : Int32) (o_drawn : Int32) (o_ranSteps : Int32) (o_isTold : Int32) (o_marks : Int32) (o_at : Nat → Int32) : va_W := [(a_o, .inr (12, [.ref a_o_at, .ref a_o_names, .int o_status, .long o_top, .long o_bottom, .ref a_o_sort, .ref a_o_trayMany, .ref a_o_trays, .ref a_o_tape, .ref a_o_text, .int o_taped, .int o_size, .int o_token, .int o_from, .int o_end, .int o_value, .int o_faultKind, .int o_faultPlace, .int o_faults, .int o_seen, .int o_toldParts, .ref a_o_opened, .int o_depth, .int o_counted, .ref a_o_farBy, .int o_becameThen, .ref a_o_attendsBy, .ref a_o_coveredBy, .ref a_o_cameBy, .ref a_o_cameThen, .int o_firstCorner, .ref a_o_fallsBy, .int o_drawn, .int o_ranSteps, .ref a_o_loops, .ref a_o_ran, .ref a_o_told1, .int o_isTold, .int o_marks])), (a_o_at, .inl (E.2.1, 3097, .inl o_at))]
set_option maxHeartbeats 4000000 in
set_option maxRecDepth 100000 in
theorem ct_X12_guardLeft (l : Launch) (E : vE) (F : Nat) (a_o a_o_at a_o_names a_o_sort a_o_trayMany a_o_trays a_o_tape a_o_text a_o_opened a_o_farBy a_o_attendsBy a_o_coveredBy a_o_cameBy a_o_cameThen a_o_fallsBy a_o_loops a_o_ran a_o_told1 : Nat) (o_status : Int32) (o_top : Int64) (o_bottom : Int64) (o_taped : Int32) (o_size : Int32) (o_token : Int32) (o_from : Int32) (o_end : Int32) (o_value : Int32) (o_faultKind : Int32) (o_faultPlace : Int32) (o_faults : Int32) (o_seen : Int32) (o_toldParts : Int32) (o_depth : Int32) (o_counted : Int32) (o_becameThen : Int32) (o_firstCorner : Int32) (o_drawn : Int32) (o_ranSteps : Int32) (o_isTold : Int32) (o_marks : Int32) (o_at : Nat → Int32) (u : Int32 × Int32) (hf : X12_guardLeft F o_status o_at = some u) :
    CtI l yX12_guardLeft cX12_guardLeft 2 (some .int) 5 E [.ref a_o] (wd_X12_guardLeft E a_o a_o_at a_o_names a_o_sort a_o_trayMany a_o_trays a_o_tape a_o_text a_o_opened a_o_farBy a_o_attendsBy a_o_coveredBy a_o_cameBy a_o_cameThen a_o_fallsBy a_o_loops a_o_ran a_o_told1 o_status o_top o_bottom o_taped o_size o_token o_from o_end o_value o_faultKind o_faultPlace o_faults o_seen o_toldParts o_depth o_counted o_becameThen o_firstCorner o_drawn o_ranSteps o_isTold o_marks o_at) (wd_X12_guardLeft E a_o a_o_at a_o_names a_o_sort a_o_trayMany a_o_trays a_o_tape a_o_text a_o_opened a_o_farBy a_o_attendsBy a_o_coveredBy a_o_cameBy a_o_cameThen a_o_fallsBy a_o_loops a_o_ran a_o_told1 u.2 o_top o_bottom o_taped o_size o_token o_from o_end o_value o_faultKind o_faultPlace o_faults o_seen o_toldParts o_depth o_counted o_becameThen o_firstCorner o_drawn o_ranSteps o_isTold o_marks o_at) u.1 := by
  refine ctI (by decide) (Nat.le_of_ble_eq_true rfl) ?_
  intro p e s m below meth cd A ls aa QQ hq cx hP hD hS hl
  obtain ⟨⟨hx, hb, hml, hown, hts⟩, hr, hlocks, hK, hA, hX⟩ := id cx
  have hl : lv_has ls 2 [(0, .ref a_o)] := hl
  unfold X12_guardLeft at hf
  refine lv_aload_n hx hb dX12_guardLeft_0 rfl (lv_at hl 0 rfl) ?_
  obtain ⟨u1, hu1, hf⟩ := bd hf
  refine keepVI (ct_X12_guardOf l E F a_o a_o_at a_o_names a_o_sort a_o_trayMany a_o_trays a_o_tape a_o_text a_o_opened a_o_farBy a_o_attendsBy a_o_coveredBy a_o_cameBy a_o_cameThen a_o_fallsBy a_o_loops a_o_ran a_o_told1 o_status o_top o_bottom o_taped o_size o_token o_from o_end o_value o_faultKind o_faultPlace o_faults o_seen o_toldParts o_depth o_counted o_becameThen o_firstCorner o_drawn o_ranSteps o_isTold o_marks o_at u1 hu1) [0, 1] cal_X12_guardOf cav_X12_guardOf lk_X12_447 cx hP hD hS hl dX12_guardLeft_1 rfl rfl rfl rfl (Nat.le_of_ble_eq_true rfl) ⟨Nat.le_of_ble_eq_true rfl, Nat.le_of_ble_eq_true rfl⟩ rfl (by decide) (fun H locs hP hS => ?_)
  refine lv_istore_n (lv' := [(1, .int u1), (0, .ref a_o)]) hx hb dX12_guardLeft_4 rfl hl (by decide) rfl (fun ls hl => ?_)
  refine lv_iload_n hx hb dX12_guardLeft_5 rfl (lv_at hl 0 rfl) ?_
  refine lv_iconst (v := (-1)) hx hb dX12_guardLeft_6 (by decide) ?_
  refine lv_icmp_ne (tgt := 19) hx hb dX12_guardLeft_7 (by decide) (fun hc => ?_) (fun hc => ?_)
  · have hf := it_f hc hf
    refine lv_aload_n hx hb dX12_guardLeft_19 rfl (lv_at hl 1 rfl) ?_
    refine lv_aload_n hx hb dX12_guardLeft_20 rfl (lv_at hl 1 rfl) ?_
    refine lv_iload_n hx hb dX12_guardLeft_21 rfl (lv_at hl 0 rfl) ?_
    obtain ⟨u22, hu22, hf⟩ := bd hf
    refine keepVI (ct_X12_greatestBut l E F a_o a_o_at a_o_names a_o_sort a_o_trayMany a_o_trays a_o_tape a_o_text a_o_opened a_o_farBy a_o_attendsBy a_o_coveredBy a_o_cameBy a_o_cameThen a_o_fallsBy a_o_loops a_o_ran a_o_told1 o_status o_top o_bottom o_taped o_size o_token o_from o_end o_value o_faultKind o_faultPlace o_faults o_seen o_toldParts o_depth o_counted o_becameThen o_firstCorner o_drawn o_ranSteps o_isTold o_marks o_at u1 u22 hu22) [0, 1] cal_X12_greatestBut cav_X12_greatestBut lk_X12_444 cx hP hD hS hl dX12_guardLeft_22 rfl rfl rfl rfl (Nat.le_of_ble_eq_true rfl) ⟨Nat.le_of_ble_eq_true rfl, Nat.le_of_ble_eq_true rfl⟩ rfl (by decide) (fun H locs hP hS => ?_)
    obtain ⟨u25, hu25, hf⟩ := bd hf
    refine callVI (wn := (wd_X12_guardLeft E a_o a_o_at a_o_names a_o_sort a_o_trayMany a_o_trays a_o_tape a_o_text a_o_opened a_o_farBy a_o_attendsBy a_o_coveredBy a_o_cameBy a_o_cameThen a_o_fallsBy a_o_loops a_o_ran a_o_told1 u25.2 o_top o_bottom o_taped o_size o_token o_from o_end o_value o_faultKind o_faultPlace o_faults o_seen o_toldParts o_depth o_counted o_becameThen o_firstCorner o_drawn o_ranSteps o_isTold o_marks o_at)) (n1 := 2) (ct_X12_gives l E a_o a_o_at a_o_names a_o_sort a_o_trayMany a_o_trays a_o_tape a_o_text a_o_opened a_o_farBy a_o_attendsBy a_o_coveredBy a_o_cameBy a_o_cameThen a_o_fallsBy a_o_loops a_o_ran a_o_told1 o_status o_top o_bottom o_taped o_size o_token o_from o_end o_value o_faultKind o_faultPlace o_faults o_seen o_toldParts o_depth o_counted o_becameThen o_firstCorner o_drawn o_ranSteps o_isTold o_marks u22 u25 hu25) [0] cal_X12_gives cav_X12_gives lk_X12_89 cx hP hD hS hl dX12_guardLeft_25 rfl rfl rfl rfl (Nat.le_of_ble_eq_true rfl) ⟨Nat.le_of_ble_eq_true rfl, Nat.le_of_ble_eq_true rfl⟩ rfl (by decide +kernel) rfl [some 0, none] rfl (by decide +kernel) rfl (fun H locs hP hD hS => ?_)
    obtain rfl := Option.some.inj hf
    subst hq
    exact retI cx hP hD hS dX12_guardLeft_28
  · have hf := it_t hc hf
    refine lv_aload_n hx hb dX12_guardLeft_10 rfl (lv_at hl 1 rfl) ?_
    refine lv_bipush (v := 6) hx hb dX12_guardLeft_11 (by decide) ?_
    obtain ⟨u13, hu13, hf⟩ := bd hf
    refine callVI (wn := (wd_X12_guardLeft E a_o a_o_at a_o_names a_o_sort a_o_trayMany a_o_trays a_o_tape a_o_text a_o_opened a_o_farBy a_o_attendsBy a_o_coveredBy a_o_cameBy a_o_cameThen a_o_fallsBy a_o_loops a_o_ran a_o_told1 u13.2 o_top o_bottom o_taped o_size o_token o_from o_end o_value o_faultKind o_faultPlace o_faults o_seen o_toldParts o_depth o_counted o_becameThen o_firstCorner o_drawn o_ranSteps o_isTold o_marks o_at)) (n1 := 2) (ct_X12_refuse l E a_o a_o_at a_o_names a_o_sort a_o_trayMany a_o_trays a_o_tape a_o_text a_o_opened a_o_farBy a_o_attendsBy a_o_coveredBy a_o_cameBy a_o_cameThen a_o_fallsBy a_o_loops a_o_ran a_o_told1 o_status o_top o_bottom o_taped o_size o_token o_from o_end o_value o_faultKind o_faultPlace o_faults o_seen o_toldParts o_depth o_counted o_becameThen o_firstCorner o_drawn o_ranSteps o_isTold o_marks (6 : Int32) u13 hu13) [0] cal_X12_refuse cav_X12_refuse lk_X12_85 cx hP hD hS hl dX12_guardLeft_13 rfl rfl rfl rfl (Nat.le_of_ble_eq_true rfl) ⟨Nat.le_of_ble_eq_true rfl, Nat.le_of_ble_eq_true rfl⟩ rfl (by decide +kernel) rfl [some 0, none] rfl (by decide +kernel) rfl (fun H locs hP hD hS => ?_)
    refine lv_goto (tgt := 28) hx hb dX12_guardLeft_16 (by decide) ?_
    obtain rfl := Option.some.inj hf
    subst hq
    exact retI cx hP hD hS dX12_guardLeft_28
