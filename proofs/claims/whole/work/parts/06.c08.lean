def X4_comesFrom_j69 (F : Nat) (o_line : Nat → Int32) (q1_clock : Int32) (q1_streets_hours : Nat → Int32) (q1_extras_many : Int32) (q1_extras_cells : Nat → Int32) (q1_happenings_many : Int32) (q1_happenings_cells : Nat → Int32) (v2 : Int32) (v3 : Int32) (v4 : Int32) (v5 : Int32) : Option ((Int32 × Int32) ⊕ ((Int32))) :=
  some (.inl (v4, (v5 + 1)))
def X4_comesFrom_b13 (F : Nat) (o_line : Nat → Int32) (q1_clock : Int32) (q1_streets_hours : Nat → Int32) (q1_extras_many : Int32) (q1_extras_cells : Nat → Int32) (q1_happenings_many : Int32) (q1_happenings_cells : Nat → Int32) (v2 : Int32) (v3 : Int32) (st13 : Int32 × Int32) : Option ((Int32 × Int32) ⊕ ((Int32))) :=
  if v2 ≤ st13.2 then
  some (.inr st13.1)
  else
  if ix st13.2 8 then
  (X7_get 40 5 q1_happenings_many q1_happenings_cells (jat o_line st13.2) (0 : Int32)).bind fun u35 =>
  (X7_get 40 5 q1_happenings_many q1_happenings_cells (jat o_line st13.2) (1 : Int32)).bind fun u50 =>
  (X4_comesTo q1_streets_hours q1_happenings_many q1_happenings_cells u35 u50 v3).bind fun u54 =>
  if u54 = 0 then
  X4_comesFrom_j69 F o_line q1_clock q1_streets_hours q1_extras_many q1_extras_cells q1_happenings_many q1_happenings_cells v2 v3 st13.1 st13.2
  else
  X4_comesFrom_j69 F o_line q1_clock q1_streets_hours q1_extras_many q1_extras_cells q1_happenings_many q1_happenings_cells v2 v3 (st13.1 ||| (jshl 1 (jat o_line st13.2))) st13.2
  else none
def X4_comesFrom_j126 (F : Nat) (o_line : Nat → Int32) (q1_clock : Int32) (q1_streets_hours : Nat → Int32) (q1_extras_many : Int32) (q1_extras_cells : Nat → Int32) (q1_happenings_many : Int32) (q1_happenings_cells : Nat → Int32) (v3 : Int32) (v4 : Int32) (v5 : Int32) : Option ((Int32 × Int32) ⊕ ((Int32))) :=
  some (.inl (v4, (v5 + 1)))
def X4_comesFrom_b78 (F : Nat) (o_line : Nat → Int32) (q1_clock : Int32) (q1_streets_hours : Nat → Int32) (q1_extras_many : Int32) (q1_extras_cells : Nat → Int32) (q1_happenings_many : Int32) (q1_happenings_cells : Nat → Int32) (v3 : Int32) (st78 : Int32 × Int32) : Option ((Int32 × Int32) ⊕ ((Int32))) :=
  if q1_extras_many ≤ st78.2 then
  some (.inr st78.1)
  else
  (X7_get 35 5 q1_extras_many q1_extras_cells st78.2 (0 : Int32)).bind fun u98 =>
  (X4_stoodAt q1_clock q1_extras_many q1_extras_cells st78.2).bind fun u104 =>
  (X4_comesTo q1_streets_hours q1_happenings_many q1_happenings_cells u98 u104 v3).bind fun u108 =>
  if u108 = 0 then
  X4_comesFrom_j126 F o_line q1_clock q1_streets_hours q1_extras_many q1_extras_cells q1_happenings_many q1_happenings_cells v3 st78.1 st78.2
  else
  X4_comesFrom_j126 F o_line q1_clock q1_streets_hours q1_extras_many q1_extras_cells q1_happenings_many q1_happenings_cells v3 (st78.1 ||| (jshl 1 (8 + st78.2))) st78.2
def X4_comesFrom (F : Nat) (o_line : Nat → Int32) (q1_clock : Int32) (q1_streets_hours : Nat → Int32) (q1_extras_many : Int32) (q1_extras_cells : Nat → Int32) (q1_happenings_many : Int32) (q1_happenings_cells : Nat → Int32) (v2 : Int32) : Option (Int32) :=
  if ix v2 8 then
  (iter (X4_comesFrom_b13 F o_line q1_clock q1_streets_hours q1_extras_many q1_extras_cells q1_happenings_many q1_happenings_cells v2 (jat o_line v2)) F (0, 0)).bind (fun (e13 : Int32) =>
    (iter (X4_comesFrom_b78 F o_line q1_clock q1_streets_hours q1_extras_many q1_extras_cells q1_happenings_many q1_happenings_cells (jat o_line v2)) F (e13, 0)).bind (fun (e78 : Int32) =>
    some e78))
  else none
abbrev wd_X4_comesFrom (E : vE) (a_o a_o_line a_o_reached a_q1 a_q1_streets a_q1_names a_q1_extras a_q1_happenings a_q1_watchers a_q1_weeks a_q1_streets_roads a_q1_streets_takes a_q1_streets_hours a_q1_extras_cells a_q1_happenings_cells : Nat) (o_lined : Int32) (o_open : Int32) (o_line : Nat → Int32) (q1_wage : Int32) (q1_delay : Int32) (q1_odds : Int32) (q1_clock : Int32) (q1_hasWeeks : Int32) (q1_streets_corners : Int32) (q1_streets_hours : Nat → Int32) (q1_extras_many : Int32) (q1_extras_cells : Nat → Int32) (q1_happenings_many : Int32) (q1_happenings_cells : Nat → Int32) : va_W := [(a_o, .inr (4, [.ref a_o_line, .int o_lined, .ref a_o_reached, .int o_open])), (a_o_line, .inl (E.2.1, 8, .inl o_line)), (a_q1, .inr (0, [.int q1_wage, .int q1_delay, .int q1_odds, .int q1_clock, .int q1_hasWeeks, .ref a_q1_streets, .ref a_q1_names, .ref a_q1_extras, .ref a_q1_happenings, .ref a_q1_watchers, .ref a_q1_weeks])), (a_q1_streets, .inr (6, [.int q1_streets_corners, .ref a_q1_streets_roads, .ref a_q1_streets_takes, .ref a_q1_streets_hours])), (a_q1_streets_hours, .inl (E.2.1, 64, .inl q1_streets_hours)), (a_q1_extras, .inr (7, [.int 5, .ref a_q1_extras_cells, .int q1_extras_many])), (a_q1_extras_cells, .inl (E.2.1, 35, .inl q1_extras_cells)), (a_q1_happenings, .inr (7, [.int 5, .ref a_q1_happenings_cells, .int q1_happenings_many])), (a_q1_happenings_cells, .inl (E.2.1, 40, .inl q1_happenings_cells))]
set_option maxHeartbeats 4000000 in
set_option maxRecDepth 100000 in
theorem ct_X4_comesFrom (l : Launch) (E : vE) (F : Nat) (a_o a_o_line a_o_reached a_q1 a_q1_streets a_q1_names a_q1_extras a_q1_happenings a_q1_watchers a_q1_weeks a_q1_streets_roads a_q1_streets_takes a_q1_streets_hours a_q1_extras_cells a_q1_happenings_cells : Nat) (o_lined : Int32) (o_open : Int32) (o_line : Nat → Int32) (q1_wage : Int32) (q1_delay : Int32) (q1_odds : Int32) (q1_clock : Int32) (q1_hasWeeks : Int32) (q1_streets_corners : Int32) (q1_streets_hours : Nat → Int32) (q1_extras_many : Int32) (q1_extras_cells : Nat → Int32) (q1_happenings_many : Int32) (q1_happenings_cells : Nat → Int32) (v2 : Int32) (u : Int32) (hf : X4_comesFrom F o_line q1_clock q1_streets_hours q1_extras_many q1_extras_cells q1_happenings_many q1_happenings_cells v2 = some u) :
    CtI l yX4_comesFrom cX4_comesFrom 8 (some .int) 3 E [.ref a_o, .ref a_q1, .int v2] (wd_X4_comesFrom E a_o a_o_line a_o_reached a_q1 a_q1_streets a_q1_names a_q1_extras a_q1_happenings a_q1_watchers a_q1_weeks a_q1_streets_roads a_q1_streets_takes a_q1_streets_hours a_q1_extras_cells a_q1_happenings_cells o_lined o_open o_line q1_wage q1_delay q1_odds q1_clock q1_hasWeeks q1_streets_corners q1_streets_hours q1_extras_many q1_extras_cells q1_happenings_many q1_happenings_cells) (wd_X4_comesFrom E a_o a_o_line a_o_reached a_q1 a_q1_streets a_q1_names a_q1_extras a_q1_happenings a_q1_watchers a_q1_weeks a_q1_streets_roads a_q1_streets_takes a_q1_streets_hours a_q1_extras_cells a_q1_happenings_cells o_lined o_open o_line q1_wage q1_delay q1_odds q1_clock q1_hasWeeks q1_streets_corners q1_streets_hours q1_extras_many q1_extras_cells q1_happenings_many q1_happenings_cells) u := by
  refine ctI (by decide) (Nat.le_of_ble_eq_true rfl) ?_
  intro p e s m below meth cd A ls aa QQ hq cx hP hD hS hl
  obtain ⟨⟨hx, hb, hml, hown, hts⟩, hr, hlocks, hK, hA, hX⟩ := id cx
  have hl : lv_has ls 8 [(0, .ref a_o), (1, .ref a_q1), (2, .int v2)] := hl
  unfold X4_comesFrom at hf
  refine lv_aload_n hx hb dX4_comesFrom_0 rfl (lv_at hl 0 rfl) ?_
  refine va_get (D := E.1) (ci := 4) (v := .ref a_o_line) (C := RX4) (T := TX4) (N := 4) hx hb hts inX4 hown hK hP 0 rfl rfl 0 (by decide) (hts _ fl_X4_11) (fun _ h9 => h9) rfl dX4_comesFrom_1 ?_
  refine lv_iload_n hx hb dX4_comesFrom_4 rfl (lv_at hl 2 rfl) ?_
  obtain ⟨hi, hf⟩ := ck hf
  refine r_iald 1 cx hP rfl hi dX4_comesFrom_5 ?_
  refine lv_istore_n (lv' := [(3, .int (jat o_line v2)), (0, .ref a_o), (1, .ref a_q1), (2, .int v2)]) hx hb dX4_comesFrom_6 rfl hl (by decide) rfl (fun ls hl => ?_)
  refine lv_iconst (v := 0) hx hb dX4_comesFrom_7 (by decide) ?_
  refine lv_istore (lv' := [(4, .int 0), (3, .int (jat o_line v2)), (0, .ref a_o), (1, .ref a_q1), (2, .int v2)]) hx hb dX4_comesFrom_8 hl (by decide) rfl (fun ls hl => ?_)
  refine lv_iconst (v := 0) hx hb dX4_comesFrom_10 (by decide) ?_
  refine lv_istore (lv' := [(5, .int 0), (4, .int 0), (3, .int (jat o_line v2)), (0, .ref a_o), (1, .ref a_q1), (2, .int v2)]) hx hb dX4_comesFrom_11 hl (by decide) rfl (fun ls hl => ?_)
  obtain ⟨e13, hit13, hf⟩ := bd hf
  refine iter_W (b := X4_comesFrom_b13 F o_line q1_clock q1_streets_hours q1_extras_many q1_extras_cells q1_happenings_many q1_happenings_cells v2 (jat o_line v2)) (P := fun st13 => ∀ (H : Heap) (locs : List Loc) (ls : Array Slot), va_P E.1 vwCl (wd_X4_comesFrom E a_o a_o_line a_o_reached a_q1 a_q1_streets a_q1_names a_q1_extras a_q1_happenings a_q1_watchers a_q1_weeks a_q1_streets_roads a_q1_streets_takes a_q1_streets_hours a_q1_extras_cells a_q1_happenings_cells o_lined o_open o_line q1_wage q1_delay q1_odds q1_clock q1_hasWeeks q1_streets_corners q1_streets_hours q1_extras_many q1_extras_cells q1_happenings_many q1_happenings_cells) H → va_D A (wd_X4_comesFrom E a_o a_o_line a_o_reached a_q1 a_q1_streets a_q1_names a_q1_extras a_q1_happenings a_q1_watchers a_q1_weeks a_q1_streets_roads a_q1_streets_takes a_q1_streets_hours a_q1_extras_cells a_q1_happenings_cells o_lined o_open o_line q1_wage q1_delay q1_odds q1_clock q1_hasWeeks q1_streets_corners q1_streets_hours q1_extras_many q1_extras_cells q1_happenings_many q1_happenings_cells) → va_S A s.heap H locs → lv_has ls 8 [(0, .ref a_o), (1, .ref a_q1), (2, .int v2), (3, .int (jat o_line v2)), (4, .int st13.1), (5, .int st13.2)] → W p l e (rmd 3) s m aa below meth cd H locs 0 0 QQ (F0 m 13 ls [])) (G := (fun (e13 : Int32) => ∀ (H : Heap) (locs : List Loc) (ls : Array Slot), va_P E.1 vwCl (wd_X4_comesFrom E a_o a_o_line a_o_reached a_q1 a_q1_streets a_q1_names a_q1_extras a_q1_happenings a_q1_watchers a_q1_weeks a_q1_streets_roads a_q1_streets_takes a_q1_streets_hours a_q1_extras_cells a_q1_happenings_cells o_lined o_open o_line q1_wage q1_delay q1_odds q1_clock q1_hasWeeks q1_streets_corners q1_streets_hours q1_extras_many q1_extras_cells q1_happenings_many q1_happenings_cells) H → va_D A (wd_X4_comesFrom E a_o a_o_line a_o_reached a_q1 a_q1_streets a_q1_names a_q1_extras a_q1_happenings a_q1_watchers a_q1_weeks a_q1_streets_roads a_q1_streets_takes a_q1_streets_hours a_q1_extras_cells a_q1_happenings_cells o_lined o_open o_line q1_wage q1_delay q1_odds q1_clock q1_hasWeeks q1_streets_corners q1_streets_hours q1_extras_many q1_extras_cells q1_happenings_many q1_happenings_cells) → va_S A s.heap H locs → lv_has ls 8 [(1, .ref a_q1), (3, .int (jat o_line v2)), (4, .int e13)] → W p l e (rmd 3) s m aa below meth cd H locs 0 0 QQ (F0 m 75 ls []))) ?_ F (0, 0) e13 hit13 ?_ _ _ _ hP hD hS (lv_sub hl [3, 4, 5, 2, 1, 0] rfl)
  · intro st13 r13 hf hk13 he13 H locs ls hP hD hS hl
    have hj69 : ∀ (v4 : Int32) (v5 : Int32) (H : Heap) (locs : List Loc) (ls : Array Slot), X4_comesFrom_j69 F o_line q1_clock q1_streets_hours q1_extras_many q1_extras_cells q1_happenings_many q1_happenings_cells v2 (jat o_line v2) v4 v5 = some r13 → va_P E.1 vwCl (wd_X4_comesFrom E a_o a_o_line a_o_reached a_q1 a_q1_streets a_q1_names a_q1_extras a_q1_happenings a_q1_watchers a_q1_weeks a_q1_streets_roads a_q1_streets_takes a_q1_streets_hours a_q1_extras_cells a_q1_happenings_cells o_lined o_open o_line q1_wage q1_delay q1_odds q1_clock q1_hasWeeks q1_streets_corners q1_streets_hours q1_extras_many q1_extras_cells q1_happenings_many q1_happenings_cells) H → va_D A (wd_X4_comesFrom E a_o a_o_line a_o_reached a_q1 a_q1_streets a_q1_names a_q1_extras a_q1_happenings a_q1_watchers a_q1_weeks a_q1_streets_roads a_q1_streets_takes a_q1_streets_hours a_q1_extras_cells a_q1_happenings_cells o_lined o_open o_line q1_wage q1_delay q1_odds q1_clock q1_hasWeeks q1_streets_corners q1_streets_hours q1_extras_many q1_extras_cells q1_happenings_many q1_happenings_cells) → va_S A s.heap H locs → lv_has ls 8 [(0, .ref a_o), (1, .ref a_q1), (2, .int v2), (3, .int (jat o_line v2)), (4, .int v4), (5, .int v5)] → W p l e (rmd 3) s m aa below meth cd H locs 0 0 QQ (F0 m 69 ls []) := by
      intro v4 v5 H locs ls hf hP hD hS hl
      unfold X4_comesFrom_j69 at hf
      refine lv_iinc (v := (v5 + 1)) (lv' := [(5, .int (v5 + 1)), (0, .ref a_o), (1, .ref a_q1), (2, .int v2), (3, .int (jat o_line v2)), (4, .int v4)]) hx hb dX4_comesFrom_69 hl (k := 5) rfl rfl (by decide) rfl (fun ls hl => ?_)
      refine lv_goto (tgt := 13) hx hb dX4_comesFrom_72 (by decide) ?_
      exact hk13 _ (Option.some.inj hf).symm _ _ _ hP hD hS (lv_sub hl [1, 2, 3, 4, 5, 0] rfl)
    unfold X4_comesFrom_b13 at hf
    refine lv_iload hx hb dX4_comesFrom_13 (lv_at hl 5 rfl) ?_
    refine lv_iload_n hx hb dX4_comesFrom_15 rfl (lv_at hl 2 rfl) ?_
    refine lv_icmp_ge (tgt := 75) hx hb dX4_comesFrom_16 (by decide) (fun hc => ?_) (fun hc => ?_)
    · have hf := it_t hc hf
      exact he13 _ (Option.some.inj hf).symm _ _ _ hP hD hS (lv_sub hl [1, 3, 4] rfl)
    · have hf := it_f hc hf
      refine lv_aload_n hx hb dX4_comesFrom_19 rfl (lv_at hl 0 rfl) ?_
      refine va_get (D := E.1) (ci := 4) (v := .ref a_o_line) (C := RX4) (T := TX4) (N := 4) hx hb hts inX4 hown hK hP 0 rfl rfl 0 (by decide) (hts _ fl_X4_11) (fun _ h9 => h9) rfl dX4_comesFrom_20 ?_
      refine lv_iload hx hb dX4_comesFrom_23 (lv_at hl 5 rfl) ?_
      obtain ⟨hi, hf⟩ := ck hf
      refine r_iald 1 cx hP rfl hi dX4_comesFrom_25 ?_
      refine lv_istore (lv' := [(6, .int (jat o_line st13.2)), (0, .ref a_o), (1, .ref a_q1), (2, .int v2), (3, .int (jat o_line v2)), (4, .int st13.1), (5, .int st13.2)]) hx hb dX4_comesFrom_26 hl (by decide) rfl (fun ls hl => ?_)
      refine lv_aload_n hx hb dX4_comesFrom_28 rfl (lv_at hl 2 rfl) ?_
      refine va_get (D := E.1) (ci := 0) (v := .ref a_q1_happenings) (C := RX0) (T := TX0) (N := 11) hx hb hts inX0 hown hK hP 2 rfl rfl 8 (by decide) (hts _ fl_X4_25) (fun _ h9 => h9) rfl dX4_comesFrom_29 ?_
      refine lv_iload hx hb dX4_comesFrom_32 (lv_at hl 0 rfl) ?_
      refine lv_iconst (v := 0) hx hb dX4_comesFrom_34 (by decide) ?_
      obtain ⟨u35, hu35, hf⟩ := bd hf
      refine keepVI (ct_X7_get l E a_q1_happenings a_q1_happenings_cells 40 5 q1_happenings_many q1_happenings_cells (jat o_line st13.2) (0 : Int32) u35 hu35) [7, 8] cal_X7_get cav_X7_get lk_X4_36 cx hP hD hS hl dX4_comesFrom_35 rfl rfl rfl rfl (Nat.le_of_ble_eq_true rfl) ⟨Nat.le_of_ble_eq_true rfl, Nat.le_of_ble_eq_true rfl⟩ rfl (by decide) (fun H locs hP hS => ?_)
      refine lv_istore (lv' := [(7, .int u35), (6, .int (jat o_line st13.2)), (0, .ref a_o), (1, .ref a_q1), (2, .int v2), (3, .int (jat o_line v2)), (4, .int st13.1), (5, .int st13.2)]) hx hb dX4_comesFrom_38 hl (by decide) rfl (fun ls hl => ?_)
      refine lv_aload_n hx hb dX4_comesFrom_40 rfl (lv_at hl 3 rfl) ?_
      refine lv_iload hx hb dX4_comesFrom_41 (lv_at hl 0 rfl) ?_
      refine lv_aload_n hx hb dX4_comesFrom_43 rfl (lv_at hl 3 rfl) ?_
      refine va_get (D := E.1) (ci := 0) (v := .ref a_q1_happenings) (C := RX0) (T := TX0) (N := 11) hx hb hts inX0 hown hK hP 2 rfl rfl 8 (by decide) (hts _ fl_X4_25) (fun _ h9 => h9) rfl dX4_comesFrom_44 ?_
      refine lv_iload hx hb dX4_comesFrom_47 (lv_at hl 1 rfl) ?_
      refine lv_iconst (v := 1) hx hb dX4_comesFrom_49 (by decide) ?_
      obtain ⟨u50, hu50, hf⟩ := bd hf
      refine keepVI (ct_X7_get l E a_q1_happenings a_q1_happenings_cells 40 5 q1_happenings_many q1_happenings_cells (jat o_line st13.2) (1 : Int32) u50 hu50) [7, 8] cal_X7_get cav_X7_get lk_X4_36 cx hP hD hS hl dX4_comesFrom_50 rfl rfl rfl rfl (Nat.le_of_ble_eq_true rfl) ⟨Nat.le_of_ble_eq_true rfl, Nat.le_of_ble_eq_true rfl⟩ rfl (by decide) (fun H locs hP hS => ?_)
      refine lv_iload_n hx hb dX4_comesFrom_53 rfl (lv_at hl 5 rfl) ?_
      obtain ⟨u54, hu54, hf⟩ := bd hf
      refine keepSI (ct_X4_comesTo l E a_q1 a_q1_streets a_q1_names a_q1_extras a_q1_happenings a_q1_watchers a_q1_weeks a_q1_streets_roads a_q1_streets_takes a_q1_streets_hours a_q1_happenings_cells q1_wage q1_delay q1_odds q1_clock q1_hasWeeks q1_streets_corners q1_streets_hours q1_happenings_many q1_happenings_cells u35 u50 (jat o_line v2) u54 hu54) [2, 3, 4, 7, 8] cal_X4_comesTo sta_X4_comesTo lk_X4_63 cx hP hD hS hl dX4_comesFrom_54 rfl rfl (Nat.le_of_ble_eq_true rfl) ⟨Nat.le_of_ble_eq_true rfl, Nat.le_of_ble_eq_true rfl⟩ rfl (by decide) (fun H locs hP hS => ?_)
      refine lv_if_eq (tgt := 69) hx hb dX4_comesFrom_57 (by decide) (fun hc => ?_) (fun hc => ?_)
      · have hf := it_t hc hf
        exact hj69 _ _ _ _ _ hf hP hD hS (lv_sub hl [2, 3, 4, 5, 6, 7] rfl)
      · have hf := it_f hc hf
        refine lv_iload hx hb dX4_comesFrom_60 (lv_at hl 6 rfl) ?_
        refine lv_iconst (v := 1) hx hb dX4_comesFrom_62 (by decide) ?_
        refine lv_iload hx hb dX4_comesFrom_63 (lv_at hl 1 rfl) ?_
        refine r_ishl hx hb dX4_comesFrom_65 ?_
        refine lv_ior hx hb dX4_comesFrom_66 ?_
        refine lv_istore (lv' := [(4, .int (st13.1 ||| (jshl 1 (jat o_line st13.2)))), (7, .int u35), (6, .int (jat o_line st13.2)), (0, .ref a_o), (1, .ref a_q1), (2, .int v2), (3, .int (jat o_line v2)), (5, .int st13.2)]) hx hb dX4_comesFrom_67 hl (by decide) rfl (fun ls hl => ?_)
        exact hj69 _ _ _ _ _ hf hP hD hS (lv_sub hl [3, 4, 5, 6, 0, 7] rfl)
  · refine fun H locs ls hP hD hS hl => ?_
    refine lv_iconst (v := 0) hx hb dX4_comesFrom_75 (by decide) ?_
    refine lv_istore (lv' := [(5, .int 0), (1, .ref a_q1), (3, .int (jat o_line v2)), (4, .int e13)]) hx hb dX4_comesFrom_76 hl (by decide) rfl (fun ls hl => ?_)
    obtain ⟨e78, hit78, hf⟩ := bd hf
    refine iter_W (b := X4_comesFrom_b78 F o_line q1_clock q1_streets_hours q1_extras_many q1_extras_cells q1_happenings_many q1_happenings_cells (jat o_line v2)) (P := fun st78 => ∀ (H : Heap) (locs : List Loc) (ls : Array Slot), va_P E.1 vwCl (wd_X4_comesFrom E a_o a_o_line a_o_reached a_q1 a_q1_streets a_q1_names a_q1_extras a_q1_happenings a_q1_watchers a_q1_weeks a_q1_streets_roads a_q1_streets_takes a_q1_streets_hours a_q1_extras_cells a_q1_happenings_cells o_lined o_open o_line q1_wage q1_delay q1_odds q1_clock q1_hasWeeks q1_streets_corners q1_streets_hours q1_extras_many q1_extras_cells q1_happenings_many q1_happenings_cells) H → va_D A (wd_X4_comesFrom E a_o a_o_line a_o_reached a_q1 a_q1_streets a_q1_names a_q1_extras a_q1_happenings a_q1_watchers a_q1_weeks a_q1_streets_roads a_q1_streets_takes a_q1_streets_hours a_q1_extras_cells a_q1_happenings_cells o_lined o_open o_line q1_wage q1_delay q1_odds q1_clock q1_hasWeeks q1_streets_corners q1_streets_hours q1_extras_many q1_extras_cells q1_happenings_many q1_happenings_cells) → va_S A s.heap H locs → lv_has ls 8 [(1, .ref a_q1), (3, .int (jat o_line v2)), (4, .int st78.1), (5, .int st78.2)] → W p l e (rmd 3) s m aa below meth cd H locs 0 0 QQ (F0 m 78 ls [])) (G := (fun (e78 : Int32) => ∀ (H : Heap) (locs : List Loc) (ls : Array Slot), va_P E.1 vwCl (wd_X4_comesFrom E a_o a_o_line a_o_reached a_q1 a_q1_streets a_q1_names a_q1_extras a_q1_happenings a_q1_watchers a_q1_weeks a_q1_streets_roads a_q1_streets_takes a_q1_streets_hours a_q1_extras_cells a_q1_happenings_cells o_lined o_open o_line q1_wage q1_delay q1_odds q1_clock q1_hasWeeks q1_streets_corners q1_streets_hours q1_extras_many q1_extras_cells q1_happenings_many q1_happenings_cells) H → va_D A (wd_X4_comesFrom E a_o a_o_line a_o_reached a_q1 a_q1_streets a_q1_names a_q1_extras a_q1_happenings a_q1_watchers a_q1_weeks a_q1_streets_roads a_q1_streets_takes a_q1_streets_hours a_q1_extras_cells a_q1_happenings_cells o_lined o_open o_line q1_wage q1_delay q1_odds q1_clock q1_hasWeeks q1_streets_corners q1_streets_hours q1_extras_many q1_extras_cells q1_happenings_many q1_happenings_cells) → va_S A s.heap H locs → lv_has ls 8 [(4, .int e78)] → W p l e (rmd 3) s m aa below meth cd H locs 0 0 QQ (F0 m 132 ls []))) ?_ F (e13, 0) e78 hit78 ?_ _ _ _ hP hD hS (lv_sub hl [1, 2, 3, 0] rfl)
    · intro st78 r78 hf hk78 he78 H locs ls hP hD hS hl
      have hj126 : ∀ (v4 : Int32) (v5 : Int32) (H : Heap) (locs : List Loc) (ls : Array Slot), X4_comesFrom_j126 F o_line q1_clock q1_streets_hours q1_extras_many q1_extras_cells q1_happenings_many q1_happenings_cells (jat o_line v2) v4 v5 = some r78 → va_P E.1 vwCl (wd_X4_comesFrom E a_o a_o_line a_o_reached a_q1 a_q1_streets a_q1_names a_q1_extras a_q1_happenings a_q1_watchers a_q1_weeks a_q1_streets_roads a_q1_streets_takes a_q1_streets_hours a_q1_extras_cells a_q1_happenings_cells o_lined o_open o_line q1_wage q1_delay q1_odds q1_clock q1_hasWeeks q1_streets_corners q1_streets_hours q1_extras_many q1_extras_cells q1_happenings_many q1_happenings_cells) H → va_D A (wd_X4_comesFrom E a_o a_o_line a_o_reached a_q1 a_q1_streets a_q1_names a_q1_extras a_q1_happenings a_q1_watchers a_q1_weeks a_q1_streets_roads a_q1_streets_takes a_q1_streets_hours a_q1_extras_cells a_q1_happenings_cells o_lined o_open o_line q1_wage q1_delay q1_odds q1_clock q1_hasWeeks q1_streets_corners q1_streets_hours q1_extras_many q1_extras_cells q1_happenings_many q1_happenings_cells) → va_S A s.heap H locs → lv_has ls 8 [(1, .ref a_q1), (3, .int (jat o_line v2)), (4, .int v4), (5, .int v5)] → W p l e (rmd 3) s m aa below meth cd H locs 0 0 QQ (F0 m 126 ls []) := by
        intro v4 v5 H locs ls hf hP hD hS hl
        unfold X4_comesFrom_j126 at hf
        refine lv_iinc (v := (v5 + 1)) (lv' := [(5, .int (v5 + 1)), (1, .ref a_q1), (3, .int (jat o_line v2)), (4, .int v4)]) hx hb dX4_comesFrom_126 hl (k := 3) rfl rfl (by decide) rfl (fun ls hl => ?_)
        refine lv_goto (tgt := 78) hx hb dX4_comesFrom_129 (by decide) ?_
        exact hk78 _ (Option.some.inj hf).symm _ _ _ hP hD hS (lv_sub hl [1, 2, 3, 0] rfl)
      unfold X4_comesFrom_b78 at hf
      refine lv_iload hx hb dX4_comesFrom_78 (lv_at hl 3 rfl) ?_
      refine lv_aload_n hx hb dX4_comesFrom_80 rfl (lv_at hl 0 rfl) ?_
      refine va_get (D := E.1) (ci := 0) (v := .ref a_q1_extras) (C := RX0) (T := TX0) (N := 11) hx hb hts inX0 hown hK hP 2 rfl rfl 7 (by decide) (hts _ fl_X4_47) (fun _ h9 => h9) rfl dX4_comesFrom_81 ?_
      refine va_get (D := E.1) (ci := 7) (v := .int q1_extras_many) (C := RX7) (T := TX7) (N := 3) hx hb hts inX7 hown hK hP 5 rfl rfl 2 (by decide) (hts _ fl_X4_31) (fun _ h9 => h9) rfl dX4_comesFrom_84 ?_
      refine lv_icmp_ge (tgt := 132) hx hb dX4_comesFrom_87 (by decide) (fun hc => ?_) (fun hc => ?_)
      · have hf := it_t hc hf
        exact he78 _ (Option.some.inj hf).symm _ _ _ hP hD hS (lv_sub hl [2] rfl)
      · have hf := it_f hc hf
        refine lv_aload_n hx hb dX4_comesFrom_90 rfl (lv_at hl 0 rfl) ?_
        refine lv_aload_n hx hb dX4_comesFrom_91 rfl (lv_at hl 0 rfl) ?_
        refine va_get (D := E.1) (ci := 0) (v := .ref a_q1_extras) (C := RX0) (T := TX0) (N := 11) hx hb hts inX0 hown hK hP 2 rfl rfl 7 (by decide) (hts _ fl_X4_47) (fun _ h9 => h9) rfl dX4_comesFrom_92 ?_
        refine lv_iload hx hb dX4_comesFrom_95 (lv_at hl 3 rfl) ?_
        refine lv_iconst (v := 0) hx hb dX4_comesFrom_97 (by decide) ?_
        obtain ⟨u98, hu98, hf⟩ := bd hf
        refine keepVI (ct_X7_get l E a_q1_extras a_q1_extras_cells 35 5 q1_extras_many q1_extras_cells st78.2 (0 : Int32) u98 hu98) [5, 6] cal_X7_get cav_X7_get lk_X4_36 cx hP hD hS hl dX4_comesFrom_98 rfl rfl rfl rfl (Nat.le_of_ble_eq_true rfl) ⟨Nat.le_of_ble_eq_true rfl, Nat.le_of_ble_eq_true rfl⟩ rfl (by decide) (fun H locs hP hS => ?_)
        refine lv_aload_n hx hb dX4_comesFrom_101 rfl (lv_at hl 0 rfl) ?_
        refine lv_iload hx hb dX4_comesFrom_102 (lv_at hl 3 rfl) ?_
        obtain ⟨u104, hu104, hf⟩ := bd hf
        refine keepSI (ct_X4_stoodAt l E a_q1 a_q1_streets a_q1_names a_q1_extras a_q1_happenings a_q1_watchers a_q1_weeks a_q1_extras_cells q1_wage q1_delay q1_odds q1_clock q1_hasWeeks q1_extras_many q1_extras_cells st78.2 u104 hu104) [2, 5, 6] cal_X4_stoodAt sta_X4_stoodAt lk_X4_59 cx hP hD hS hl dX4_comesFrom_104 rfl rfl (Nat.le_of_ble_eq_true rfl) ⟨Nat.le_of_ble_eq_true rfl, Nat.le_of_ble_eq_true rfl⟩ rfl (by decide) (fun H locs hP hS => ?_)
        refine lv_iload_n hx hb dX4_comesFrom_107 rfl (lv_at hl 1 rfl) ?_
        obtain ⟨u108, hu108, hf⟩ := bd hf
        refine keepSI (ct_X4_comesTo l E a_q1 a_q1_streets a_q1_names a_q1_extras a_q1_happenings a_q1_watchers a_q1_weeks a_q1_streets_roads a_q1_streets_takes a_q1_streets_hours a_q1_happenings_cells q1_wage q1_delay q1_odds q1_clock q1_hasWeeks q1_streets_corners q1_streets_hours q1_happenings_many q1_happenings_cells u98 u104 (jat o_line v2) u108 hu108) [2, 3, 4, 7, 8] cal_X4_comesTo sta_X4_comesTo lk_X4_63 cx hP hD hS hl dX4_comesFrom_108 rfl rfl (Nat.le_of_ble_eq_true rfl) ⟨Nat.le_of_ble_eq_true rfl, Nat.le_of_ble_eq_true rfl⟩ rfl (by decide) (fun H locs hP hS => ?_)
        refine lv_if_eq (tgt := 126) hx hb dX4_comesFrom_111 (by decide) (fun hc => ?_) (fun hc => ?_)
        · have hf := it_t hc hf
          exact hj126 _ _ _ _ _ hf hP hD hS (lv_sub hl [0, 1, 2, 3] rfl)
        · have hf := it_f hc hf
          refine lv_iload hx hb dX4_comesFrom_114 (lv_at hl 2 rfl) ?_
          refine lv_iconst (v := 1) hx hb dX4_comesFrom_116 (by decide) ?_
          refine lv_bipush (v := 8) hx hb dX4_comesFrom_117 (by decide) ?_
          refine lv_iload hx hb dX4_comesFrom_119 (lv_at hl 3 rfl) ?_
          refine lv_iadd hx hb dX4_comesFrom_121 ?_
          refine r_ishl hx hb dX4_comesFrom_122 ?_
          refine lv_ior hx hb dX4_comesFrom_123 ?_
          refine lv_istore (lv' := [(4, .int (st78.1 ||| (jshl 1 (8 + st78.2)))), (1, .ref a_q1), (3, .int (jat o_line v2)), (5, .int st78.2)]) hx hb dX4_comesFrom_124 hl (by decide) rfl (fun ls hl => ?_)
          exact hj126 _ _ _ _ _ hf hP hD hS (lv_sub hl [1, 2, 0, 3] rfl)
    · refine fun H locs ls hP hD hS hl => ?_
      refine lv_iload hx hb dX4_comesFrom_132 (lv_at hl 0 rfl) ?_
      obtain rfl := Option.some.inj hf
      subst hq
      exact retI cx hP hD hS dX4_comesFrom_134
def X4_gatherReached_b9 (F : Nat) (o_lined : Int32) (o_open : Int32) (o_line : Nat → Int32) (q1_clock : Int32) (q1_streets_hours : Nat → Int32) (q1_extras_many : Int32) (q1_extras_cells : Nat → Int32) (q1_happenings_many : Int32) (q1_happenings_cells : Nat → Int32) (st9 : Int32 × (Nat → Int32)) : Option ((Int32 × (Nat → Int32)) ⊕ (((Nat → Int32)))) :=
  if o_lined ≤ st9.1 then
  some (.inr st9.2)
  else
  if ix st9.1 8 then
  (X4_comesFrom F o_line q1_clock q1_streets_hours q1_extras_many q1_extras_cells q1_happenings_many q1_happenings_cells st9.1).bind fun u32 =>
  if ix (jshl 1 (jat o_line st9.1)) 256 then
  some (.inl ((st9.1 + 1), (jput st9.2 (jshl 1 (jat o_line st9.1)) u32)))
  else none
  else none
def X4_gatherReached_j89 (F : Nat) (o_lined : Int32) (o_open : Int32) (o_line : Nat → Int32) (o_reached : Nat → Int32) (q1_clock : Int32) (q1_streets_hours : Nat → Int32) (q1_extras_many : Int32) (q1_extras_cells : Nat → Int32) (q1_happenings_many : Int32) (q1_happenings_cells : Nat → Int32) (v2 : Int32) : Option ((Int32 × (Nat → Int32)) ⊕ (((Nat → Int32)))) :=
  some (.inl ((v2 + 1), o_reached))
def X4_gatherReached_b44 (F : Nat) (o_lined : Int32) (o_open : Int32) (o_line : Nat → Int32) (q1_clock : Int32) (q1_streets_hours : Nat → Int32) (q1_extras_many : Int32) (q1_extras_cells : Nat → Int32) (q1_happenings_many : Int32) (q1_happenings_cells : Nat → Int32) (st44 : Int32 × (Nat → Int32)) : Option ((Int32 × (Nat → Int32)) ⊕ (((Nat → Int32)))) :=
  if o_open < st44.1 then
  some (.inr st44.2)
  else
  if (st44.1 &&& (o_open ^^^ (-1))) = 0 then
  if ix (st44.1 &&& (-st44.1)) 256 then
  if ix (st44.1 - (st44.1 &&& (-st44.1))) 256 then
  if ix st44.1 256 then
  X4_gatherReached_j89 F o_lined o_open o_line (jput st44.2 st44.1 ((jat st44.2 (st44.1 &&& (-st44.1))) ||| (jat st44.2 (st44.1 - (st44.1 &&& (-st44.1)))))) q1_clock q1_streets_hours q1_extras_many q1_extras_cells q1_happenings_many q1_happenings_cells st44.1
  else none
  else none
  else none
  else
  X4_gatherReached_j89 F o_lined o_open o_line st44.2 q1_clock q1_streets_hours q1_extras_many q1_extras_cells q1_happenings_many q1_happenings_cells st44.1
def X4_gatherReached (F : Nat) (o_lined : Int32) (o_open : Int32) (o_line : Nat → Int32) (o_reached : Nat → Int32) (q1_clock : Int32) (q1_streets_hours : Nat → Int32) (q1_extras_many : Int32) (q1_extras_cells : Nat → Int32) (q1_happenings_many : Int32) (q1_happenings_cells : Nat → Int32) : Option ((Nat → Int32)) :=
  if ix 0 256 then
  (iter (X4_gatherReached_b9 F o_lined o_open o_line q1_clock q1_streets_hours q1_extras_many q1_extras_cells q1_happenings_many q1_happenings_cells) F (0, (jput o_reached 0 0))).bind (fun (e9 : (Nat → Int32)) =>
    (iter (X4_gatherReached_b44 F o_lined o_open o_line q1_clock q1_streets_hours q1_extras_many q1_extras_cells q1_happenings_many q1_happenings_cells) F (1, e9)).bind (fun (e44 : (Nat → Int32)) =>
    some e44))
  else none
abbrev wd_X4_gatherReached (E : vE) (a_o a_o_line a_o_reached a_q1 a_q1_streets a_q1_names a_q1_extras a_q1_happenings a_q1_watchers a_q1_weeks a_q1_streets_roads a_q1_streets_takes a_q1_streets_hours a_q1_extras_cells a_q1_happenings_cells : Nat) (o_lined : Int32) (o_open : Int32) (o_line : Nat → Int32) (o_reached : Nat → Int32) (q1_wage : Int32) (q1_delay : Int32) (q1_odds : Int32) (q1_clock : Int32) (q1_hasWeeks : Int32) (q1_streets_corners : Int32) (q1_streets_hours : Nat → Int32) (q1_extras_many : Int32) (q1_extras_cells : Nat → Int32) (q1_happenings_many : Int32) (q1_happenings_cells : Nat → Int32) : va_W := [(a_o, .inr (4, [.ref a_o_line, .int o_lined, .ref a_o_reached, .int o_open])), (a_o_line, .inl (E.2.1, 8, .inl o_line)), (a_o_reached, .inl (E.2.1, 256, .inl o_reached)), (a_q1, .inr (0, [.int q1_wage, .int q1_delay, .int q1_odds, .int q1_clock, .int q1_hasWeeks, .ref a_q1_streets, .ref a_q1_names, .ref a_q1_extras, .ref a_q1_happenings, .ref a_q1_watchers, .ref a_q1_weeks])), (a_q1_streets, .inr (6, [.int q1_streets_corners, .ref a_q1_streets_roads, .ref a_q1_streets_takes, .ref a_q1_streets_hours])), (a_q1_streets_hours, .inl (E.2.1, 64, .inl q1_streets_hours)), (a_q1_extras, .inr (7, [.int 5, .ref a_q1_extras_cells, .int q1_extras_many])), (a_q1_extras_cells, .inl (E.2.1, 35, .inl q1_extras_cells)), (a_q1_happenings, .inr (7, [.int 5, .ref a_q1_happenings_cells, .int q1_happenings_many])), (a_q1_happenings_cells, .inl (E.2.1, 40, .inl q1_happenings_cells))]
set_option maxHeartbeats 4000000 in
set_option maxRecDepth 100000 in
theorem ct_X4_gatherReached (l : Launch) (E : vE) (F : Nat) (a_o a_o_line a_o_reached a_q1 a_q1_streets a_q1_names a_q1_extras a_q1_happenings a_q1_watchers a_q1_weeks a_q1_streets_roads a_q1_streets_takes a_q1_streets_hours a_q1_extras_cells a_q1_happenings_cells : Nat) (o_lined : Int32) (o_open : Int32) (o_line : Nat → Int32) (o_reached : Nat → Int32) (q1_wage : Int32) (q1_delay : Int32) (q1_odds : Int32) (q1_clock : Int32) (q1_hasWeeks : Int32) (q1_streets_corners : Int32) (q1_streets_hours : Nat → Int32) (q1_extras_many : Int32) (q1_extras_cells : Nat → Int32) (q1_happenings_many : Int32) (q1_happenings_cells : Nat → Int32) (u : (Nat → Int32)) (hf : X4_gatherReached F o_lined o_open o_line o_reached q1_clock q1_streets_hours q1_extras_many q1_extras_cells q1_happenings_many q1_happenings_cells = some u) :
    CtV l yX4_gatherReached cX4_gatherReached 4 none 4 E [.ref a_o, .ref a_q1] (wd_X4_gatherReached E a_o a_o_line a_o_reached a_q1 a_q1_streets a_q1_names a_q1_extras a_q1_happenings a_q1_watchers a_q1_weeks a_q1_streets_roads a_q1_streets_takes a_q1_streets_hours a_q1_extras_cells a_q1_happenings_cells o_lined o_open o_line o_reached q1_wage q1_delay q1_odds q1_clock q1_hasWeeks q1_streets_corners q1_streets_hours q1_extras_many q1_extras_cells q1_happenings_many q1_happenings_cells) (wd_X4_gatherReached E a_o a_o_line a_o_reached a_q1 a_q1_streets a_q1_names a_q1_extras a_q1_happenings a_q1_watchers a_q1_weeks a_q1_streets_roads a_q1_streets_takes a_q1_streets_hours a_q1_extras_cells a_q1_happenings_cells o_lined o_open o_line u q1_wage q1_delay q1_odds q1_clock q1_hasWeeks q1_streets_corners q1_streets_hours q1_extras_many q1_extras_cells q1_happenings_many q1_happenings_cells) := by
  refine ctV (by decide) (Nat.le_of_ble_eq_true rfl) ?_
  intro p e s m below meth cd A ls aa QQ hq cx hP hD hS hl
  obtain ⟨⟨hx, hb, hml, hown, hts⟩, hr, hlocks, hK, hA, hX⟩ := id cx
  have hl : lv_has ls 4 [(0, .ref a_o), (1, .ref a_q1)] := hl
  unfold X4_gatherReached at hf
  refine lv_aload_n hx hb dX4_gatherReached_0 rfl (lv_at hl 0 rfl) ?_
  refine va_get (D := E.1) (ci := 4) (v := .ref a_o_reached) (C := RX4) (T := TX4) (N := 4) hx hb hts inX4 hown hK hP 0 rfl rfl 2 (by decide) (hts _ fl_X4_15) (fun _ h9 => h9) rfl dX4_gatherReached_1 ?_
  refine lv_iconst (v := 0) hx hb dX4_gatherReached_4 (by decide) ?_
  refine lv_iconst (v := 0) hx hb dX4_gatherReached_5 (by decide) ?_
  obtain ⟨hi, hf⟩ := ck hf
  refine r_iast 2 cx hP hD hS rfl hi dX4_gatherReached_6 (fun H locs hP hD hS => ?_)
  have hP : va_P E.1 vwCl (wd_X4_gatherReached E a_o a_o_line a_o_reached a_q1 a_q1_streets a_q1_names a_q1_extras a_q1_happenings a_q1_watchers a_q1_weeks a_q1_streets_roads a_q1_streets_takes a_q1_streets_hours a_q1_extras_cells a_q1_happenings_cells o_lined o_open o_line (jput o_reached 0 0) q1_wage q1_delay q1_odds q1_clock q1_hasWeeks q1_streets_corners q1_streets_hours q1_extras_many q1_extras_cells q1_happenings_many q1_happenings_cells) H := hP
  have hD : va_D A (wd_X4_gatherReached E a_o a_o_line a_o_reached a_q1 a_q1_streets a_q1_names a_q1_extras a_q1_happenings a_q1_watchers a_q1_weeks a_q1_streets_roads a_q1_streets_takes a_q1_streets_hours a_q1_extras_cells a_q1_happenings_cells o_lined o_open o_line (jput o_reached 0 0) q1_wage q1_delay q1_odds q1_clock q1_hasWeeks q1_streets_corners q1_streets_hours q1_extras_many q1_extras_cells q1_happenings_many q1_happenings_cells) := hD
  refine lv_iconst (v := 0) hx hb dX4_gatherReached_7 (by decide) ?_
  refine lv_istore_n (lv' := [(2, .int 0), (0, .ref a_o), (1, .ref a_q1)]) hx hb dX4_gatherReached_8 rfl hl (by decide) rfl (fun ls hl => ?_)
  obtain ⟨e9, hit9, hf⟩ := bd hf
  refine iter_W (b := X4_gatherReached_b9 F o_lined o_open o_line q1_clock q1_streets_hours q1_extras_many q1_extras_cells q1_happenings_many q1_happenings_cells) (P := fun st9 => ∀ (H : Heap) (locs : List Loc) (ls : Array Slot), va_P E.1 vwCl (wd_X4_gatherReached E a_o a_o_line a_o_reached a_q1 a_q1_streets a_q1_names a_q1_extras a_q1_happenings a_q1_watchers a_q1_weeks a_q1_streets_roads a_q1_streets_takes a_q1_streets_hours a_q1_extras_cells a_q1_happenings_cells o_lined o_open o_line st9.2 q1_wage q1_delay q1_odds q1_clock q1_hasWeeks q1_streets_corners q1_streets_hours q1_extras_many q1_extras_cells q1_happenings_many q1_happenings_cells) H → va_D A (wd_X4_gatherReached E a_o a_o_line a_o_reached a_q1 a_q1_streets a_q1_names a_q1_extras a_q1_happenings a_q1_watchers a_q1_weeks a_q1_streets_roads a_q1_streets_takes a_q1_streets_hours a_q1_extras_cells a_q1_happenings_cells o_lined o_open o_line st9.2 q1_wage q1_delay q1_odds q1_clock q1_hasWeeks q1_streets_corners q1_streets_hours q1_extras_many q1_extras_cells q1_happenings_many q1_happenings_cells) → va_S A s.heap H locs → lv_has ls 4 [(0, .ref a_o), (1, .ref a_q1), (2, .int st9.1)] → W p l e (rmd 4) s m aa below meth cd H locs 0 0 QQ (F0 m 9 ls [])) (G := (fun (e9 : (Nat → Int32)) => ∀ (H : Heap) (locs : List Loc) (ls : Array Slot), va_P E.1 vwCl (wd_X4_gatherReached E a_o a_o_line a_o_reached a_q1 a_q1_streets a_q1_names a_q1_extras a_q1_happenings a_q1_watchers a_q1_weeks a_q1_streets_roads a_q1_streets_takes a_q1_streets_hours a_q1_extras_cells a_q1_happenings_cells o_lined o_open o_line e9 q1_wage q1_delay q1_odds q1_clock q1_hasWeeks q1_streets_corners q1_streets_hours q1_extras_many q1_extras_cells q1_happenings_many q1_happenings_cells) H → va_D A (wd_X4_gatherReached E a_o a_o_line a_o_reached a_q1 a_q1_streets a_q1_names a_q1_extras a_q1_happenings a_q1_watchers a_q1_weeks a_q1_streets_roads a_q1_streets_takes a_q1_streets_hours a_q1_extras_cells a_q1_happenings_cells o_lined o_open o_line e9 q1_wage q1_delay q1_odds q1_clock q1_hasWeeks q1_streets_corners q1_streets_hours q1_extras_many q1_extras_cells q1_happenings_many q1_happenings_cells) → va_S A s.heap H locs → lv_has ls 4 [(0, .ref a_o)] → W p l e (rmd 4) s m aa below meth cd H locs 0 0 QQ (F0 m 42 ls []))) ?_ F (0, (jput o_reached 0 0)) e9 hit9 ?_ _ _ _ hP hD hS (lv_sub hl [1, 2, 0] rfl)
  · intro st9 r9 hf hk9 he9 H locs ls hP hD hS hl
    unfold X4_gatherReached_b9 at hf
    refine lv_iload_n hx hb dX4_gatherReached_9 rfl (lv_at hl 2 rfl) ?_
    refine lv_aload_n hx hb dX4_gatherReached_10 rfl (lv_at hl 0 rfl) ?_
    refine va_get (D := E.1) (ci := 4) (v := .int o_lined) (C := RX4) (T := TX4) (N := 4) hx hb hts inX4 hown hK hP 0 rfl rfl 1 (by decide) (hts _ fl_X4_22) (fun _ h9 => h9) rfl dX4_gatherReached_11 ?_
    refine lv_icmp_ge (tgt := 42) hx hb dX4_gatherReached_14 (by decide) (fun hc => ?_) (fun hc => ?_)
    · have hf := it_t hc hf
      exact he9 _ (Option.some.inj hf).symm _ _ _ hP hD hS (lv_sub hl [0] rfl)
    · have hf := it_f hc hf
      refine lv_aload_n hx hb dX4_gatherReached_17 rfl (lv_at hl 0 rfl) ?_
      refine va_get (D := E.1) (ci := 4) (v := .ref a_o_reached) (C := RX4) (T := TX4) (N := 4) hx hb hts inX4 hown hK hP 0 rfl rfl 2 (by decide) (hts _ fl_X4_15) (fun _ h9 => h9) rfl dX4_gatherReached_18 ?_
      refine lv_iconst (v := 1) hx hb dX4_gatherReached_21 (by decide) ?_
      refine lv_aload_n hx hb dX4_gatherReached_22 rfl (lv_at hl 0 rfl) ?_
      refine va_get (D := E.1) (ci := 4) (v := .ref a_o_line) (C := RX4) (T := TX4) (N := 4) hx hb hts inX4 hown hK hP 0 rfl rfl 0 (by decide) (hts _ fl_X4_11) (fun _ h9 => h9) rfl dX4_gatherReached_23 ?_
      refine lv_iload_n hx hb dX4_gatherReached_26 rfl (lv_at hl 2 rfl) ?_
      obtain ⟨hi, hf⟩ := ck hf
      refine r_iald 1 cx hP rfl hi dX4_gatherReached_27 ?_
      refine r_ishl hx hb dX4_gatherReached_28 ?_
      refine lv_aload_n hx hb dX4_gatherReached_29 rfl (lv_at hl 0 rfl) ?_
      refine lv_aload_n hx hb dX4_gatherReached_30 rfl (lv_at hl 1 rfl) ?_
      refine lv_iload_n hx hb dX4_gatherReached_31 rfl (lv_at hl 2 rfl) ?_
      obtain ⟨u32, hu32, hf⟩ := bd hf
      refine keepVI (ct_X4_comesFrom l E F a_o a_o_line a_o_reached a_q1 a_q1_streets a_q1_names a_q1_extras a_q1_happenings a_q1_watchers a_q1_weeks a_q1_streets_roads a_q1_streets_takes a_q1_streets_hours a_q1_extras_cells a_q1_happenings_cells o_lined o_open o_line q1_wage q1_delay q1_odds q1_clock q1_hasWeeks q1_streets_corners q1_streets_hours q1_extras_many q1_extras_cells q1_happenings_many q1_happenings_cells st9.1 u32 hu32) [0, 1, 3, 4, 5, 6, 7, 8, 9] cal_X4_comesFrom cav_X4_comesFrom lk_X4_87 cx hP hD hS hl dX4_gatherReached_32 rfl rfl rfl rfl (Nat.le_of_ble_eq_true rfl) ⟨Nat.le_of_ble_eq_true rfl, Nat.le_of_ble_eq_true rfl⟩ rfl (by decide) (fun H locs hP hS => ?_)
      obtain ⟨hi, hf⟩ := ck hf
      refine r_iast 2 cx hP hD hS rfl hi dX4_gatherReached_35 (fun H locs hP hD hS => ?_)
      have hP : va_P E.1 vwCl (wd_X4_gatherReached E a_o a_o_line a_o_reached a_q1 a_q1_streets a_q1_names a_q1_extras a_q1_happenings a_q1_watchers a_q1_weeks a_q1_streets_roads a_q1_streets_takes a_q1_streets_hours a_q1_extras_cells a_q1_happenings_cells o_lined o_open o_line (jput st9.2 (jshl 1 (jat o_line st9.1)) u32) q1_wage q1_delay q1_odds q1_clock q1_hasWeeks q1_streets_corners q1_streets_hours q1_extras_many q1_extras_cells q1_happenings_many q1_happenings_cells) H := hP
      have hD : va_D A (wd_X4_gatherReached E a_o a_o_line a_o_reached a_q1 a_q1_streets a_q1_names a_q1_extras a_q1_happenings a_q1_watchers a_q1_weeks a_q1_streets_roads a_q1_streets_takes a_q1_streets_hours a_q1_extras_cells a_q1_happenings_cells o_lined o_open o_line (jput st9.2 (jshl 1 (jat o_line st9.1)) u32) q1_wage q1_delay q1_odds q1_clock q1_hasWeeks q1_streets_corners q1_streets_hours q1_extras_many q1_extras_cells q1_happenings_many q1_happenings_cells) := hD
      refine lv_iinc (v := (st9.1 + 1)) (lv' := [(2, .int (st9.1 + 1)), (0, .ref a_o), (1, .ref a_q1)]) hx hb dX4_gatherReached_36 hl (k := 2) rfl rfl (by decide) rfl (fun ls hl => ?_)
      refine lv_goto (tgt := 9) hx hb dX4_gatherReached_39 (by decide) ?_
      exact hk9 _ (Option.some.inj hf).symm _ _ _ hP hD hS (lv_sub hl [1, 2, 0] rfl)
  · refine fun H locs ls hP hD hS hl => ?_
    refine lv_iconst (v := 1) hx hb dX4_gatherReached_42 (by decide) ?_
    refine lv_istore_n (lv' := [(2, .int 1), (0, .ref a_o)]) hx hb dX4_gatherReached_43 rfl hl (by decide) rfl (fun ls hl => ?_)
    obtain ⟨e44, hit44, hf⟩ := bd hf
    refine iter_W (b := X4_gatherReached_b44 F o_lined o_open o_line q1_clock q1_streets_hours q1_extras_many q1_extras_cells q1_happenings_many q1_happenings_cells) (P := fun st44 => ∀ (H : Heap) (locs : List Loc) (ls : Array Slot), va_P E.1 vwCl (wd_X4_gatherReached E a_o a_o_line a_o_reached a_q1 a_q1_streets a_q1_names a_q1_extras a_q1_happenings a_q1_watchers a_q1_weeks a_q1_streets_roads a_q1_streets_takes a_q1_streets_hours a_q1_extras_cells a_q1_happenings_cells o_lined o_open o_line st44.2 q1_wage q1_delay q1_odds q1_clock q1_hasWeeks q1_streets_corners q1_streets_hours q1_extras_many q1_extras_cells q1_happenings_many q1_happenings_cells) H → va_D A (wd_X4_gatherReached E a_o a_o_line a_o_reached a_q1 a_q1_streets a_q1_names a_q1_extras a_q1_happenings a_q1_watchers a_q1_weeks a_q1_streets_roads a_q1_streets_takes a_q1_streets_hours a_q1_extras_cells a_q1_happenings_cells o_lined o_open o_line st44.2 q1_wage q1_delay q1_odds q1_clock q1_hasWeeks q1_streets_corners q1_streets_hours q1_extras_many q1_extras_cells q1_happenings_many q1_happenings_cells) → va_S A s.heap H locs → lv_has ls 4 [(0, .ref a_o), (2, .int st44.1)] → W p l e (rmd 4) s m aa below meth cd H locs 0 0 QQ (F0 m 44 ls [])) (G := (fun (e44 : (Nat → Int32)) => ∀ (H : Heap) (locs : List Loc) (ls : Array Slot), va_P E.1 vwCl (wd_X4_gatherReached E a_o a_o_line a_o_reached a_q1 a_q1_streets a_q1_names a_q1_extras a_q1_happenings a_q1_watchers a_q1_weeks a_q1_streets_roads a_q1_streets_takes a_q1_streets_hours a_q1_extras_cells a_q1_happenings_cells o_lined o_open o_line e44 q1_wage q1_delay q1_odds q1_clock q1_hasWeeks q1_streets_corners q1_streets_hours q1_extras_many q1_extras_cells q1_happenings_many q1_happenings_cells) H → va_D A (wd_X4_gatherReached E a_o a_o_line a_o_reached a_q1 a_q1_streets a_q1_names a_q1_extras a_q1_happenings a_q1_watchers a_q1_weeks a_q1_streets_roads a_q1_streets_takes a_q1_streets_hours a_q1_extras_cells a_q1_happenings_cells o_lined o_open o_line e44 q1_wage q1_delay q1_odds q1_clock q1_hasWeeks q1_streets_corners q1_streets_hours q1_extras_many q1_extras_cells q1_happenings_many q1_happenings_cells) → va_S A s.heap H locs → lv_has ls 4 [] → W p l e (rmd 4) s m aa below meth cd H locs 0 0 QQ (F0 m 95 ls []))) ?_ F (1, e9) e44 hit44 ?_ _ _ _ hP hD hS (lv_sub hl [1, 0] rfl)
    · intro st44 r44 hf hk44 he44 H locs ls hP hD hS hl
      have hj89 : ∀ (v2 : Int32) (o_reached : Nat → Int32) (H : Heap) (locs : List Loc) (ls : Array Slot), X4_gatherReached_j89 F o_lined o_open o_line o_reached q1_clock q1_streets_hours q1_extras_many q1_extras_cells q1_happenings_many q1_happenings_cells v2 = some r44 → va_P E.1 vwCl (wd_X4_gatherReached E a_o a_o_line a_o_reached a_q1 a_q1_streets a_q1_names a_q1_extras a_q1_happenings a_q1_watchers a_q1_weeks a_q1_streets_roads a_q1_streets_takes a_q1_streets_hours a_q1_extras_cells a_q1_happenings_cells o_lined o_open o_line o_reached q1_wage q1_delay q1_odds q1_clock q1_hasWeeks q1_streets_corners q1_streets_hours q1_extras_many q1_extras_cells q1_happenings_many q1_happenings_cells) H → va_D A (wd_X4_gatherReached E a_o a_o_line a_o_reached a_q1 a_q1_streets a_q1_names a_q1_extras a_q1_happenings a_q1_watchers a_q1_weeks a_q1_streets_roads a_q1_streets_takes a_q1_streets_hours a_q1_extras_cells a_q1_happenings_cells o_lined o_open o_line o_reached q1_wage q1_delay q1_odds q1_clock q1_hasWeeks q1_streets_corners q1_streets_hours q1_extras_many q1_extras_cells q1_happenings_many q1_happenings_cells) → va_S A s.heap H locs → lv_has ls 4 [(0, .ref a_o), (2, .int v2)] → W p l e (rmd 4) s m aa below meth cd H locs 0 0 QQ (F0 m 89 ls []) := by
        intro v2 o_reached H locs ls hf hP hD hS hl
        unfold X4_gatherReached_j89 at hf
        refine lv_iinc (v := (v2 + 1)) (lv' := [(2, .int (v2 + 1)), (0, .ref a_o)]) hx hb dX4_gatherReached_89 hl (k := 1) rfl rfl (by decide) rfl (fun ls hl => ?_)
        refine lv_goto (tgt := 44) hx hb dX4_gatherReached_92 (by decide) ?_
        exact hk44 _ (Option.some.inj hf).symm _ _ _ hP hD hS (lv_sub hl [1, 0] rfl)
      unfold X4_gatherReached_b44 at hf
      refine lv_iload_n hx hb dX4_gatherReached_44 rfl (lv_at hl 1 rfl) ?_
      refine lv_aload_n hx hb dX4_gatherReached_45 rfl (lv_at hl 0 rfl) ?_
      refine va_get (D := E.1) (ci := 4) (v := .int o_open) (C := RX4) (T := TX4) (N := 4) hx hb hts inX4 hown hK hP 0 rfl rfl 3 (by decide) (hts _ fl_X4_18) (fun _ h9 => h9) rfl dX4_gatherReached_46 ?_
      refine lv_icmp_gt (tgt := 95) hx hb dX4_gatherReached_49 (by decide) (fun hc => ?_) (fun hc => ?_)
      · have hf := it_t hc hf
        exact he44 _ (Option.some.inj hf).symm _ _ _ hP hD hS (lv_sub hl [] rfl)
      · have hf := it_f hc hf
        refine lv_iload_n hx hb dX4_gatherReached_52 rfl (lv_at hl 1 rfl) ?_
        refine lv_iload_n hx hb dX4_gatherReached_53 rfl (lv_at hl 1 rfl) ?_
        refine lv_ineg hx hb dX4_gatherReached_54 ?_
        refine lv_iand hx hb dX4_gatherReached_55 ?_
        refine lv_istore_n (lv' := [(3, .int (st44.1 &&& (-st44.1))), (0, .ref a_o), (2, .int st44.1)]) hx hb dX4_gatherReached_56 rfl hl (by decide) rfl (fun ls hl => ?_)
        refine lv_iload_n hx hb dX4_gatherReached_57 rfl (lv_at hl 2 rfl) ?_
        refine lv_aload_n hx hb dX4_gatherReached_58 rfl (lv_at hl 1 rfl) ?_
        refine va_get (D := E.1) (ci := 4) (v := .int o_open) (C := RX4) (T := TX4) (N := 4) hx hb hts inX4 hown hK hP 0 rfl rfl 3 (by decide) (hts _ fl_X4_18) (fun _ h9 => h9) rfl dX4_gatherReached_59 ?_
        refine lv_iconst (v := (-1)) hx hb dX4_gatherReached_62 (by decide) ?_
        refine lv_ixor hx hb dX4_gatherReached_63 ?_
        refine lv_iand hx hb dX4_gatherReached_64 ?_
        refine lv_if_ne (tgt := 89) hx hb dX4_gatherReached_65 (by decide) (fun hc => ?_) (fun hc => ?_)
        · have hf := it_f hc hf
          exact hj89 _ _ _ _ _ hf hP hD hS (lv_sub hl [1, 2] rfl)
        · have hf := it_t hc hf
          refine lv_aload_n hx hb dX4_gatherReached_68 rfl (lv_at hl 1 rfl) ?_
          refine va_get (D := E.1) (ci := 4) (v := .ref a_o_reached) (C := RX4) (T := TX4) (N := 4) hx hb hts inX4 hown hK hP 0 rfl rfl 2 (by decide) (hts _ fl_X4_15) (fun _ h9 => h9) rfl dX4_gatherReached_69 ?_
          refine lv_iload_n hx hb dX4_gatherReached_72 rfl (lv_at hl 2 rfl) ?_
          refine lv_aload_n hx hb dX4_gatherReached_73 rfl (lv_at hl 1 rfl) ?_
          refine va_get (D := E.1) (ci := 4) (v := .ref a_o_reached) (C := RX4) (T := TX4) (N := 4) hx hb hts inX4 hown hK hP 0 rfl rfl 2 (by decide) (hts _ fl_X4_15) (fun _ h9 => h9) rfl dX4_gatherReached_74 ?_
          refine lv_iload_n hx hb dX4_gatherReached_77 rfl (lv_at hl 0 rfl) ?_
          obtain ⟨hi, hf⟩ := ck hf
          refine r_iald 2 cx hP rfl hi dX4_gatherReached_78 ?_
          refine lv_aload_n hx hb dX4_gatherReached_79 rfl (lv_at hl 1 rfl) ?_
          refine va_get (D := E.1) (ci := 4) (v := .ref a_o_reached) (C := RX4) (T := TX4) (N := 4) hx hb hts inX4 hown hK hP 0 rfl rfl 2 (by decide) (hts _ fl_X4_15) (fun _ h9 => h9) rfl dX4_gatherReached_80 ?_
          refine lv_iload_n hx hb dX4_gatherReached_83 rfl (lv_at hl 2 rfl) ?_
          refine lv_iload_n hx hb dX4_gatherReached_84 rfl (lv_at hl 0 rfl) ?_
          refine lv_isub hx hb dX4_gatherReached_85 ?_
          obtain ⟨hi, hf⟩ := ck hf
          refine r_iald 2 cx hP rfl hi dX4_gatherReached_86 ?_
          refine lv_ior hx hb dX4_gatherReached_87 ?_
          obtain ⟨hi, hf⟩ := ck hf
          refine r_iast 2 cx hP hD hS rfl hi dX4_gatherReached_88 (fun H locs hP hD hS => ?_)
          have hP : va_P E.1 vwCl (wd_X4_gatherReached E a_o a_o_line a_o_reached a_q1 a_q1_streets a_q1_names a_q1_extras a_q1_happenings a_q1_watchers a_q1_weeks a_q1_streets_roads a_q1_streets_takes a_q1_streets_hours a_q1_extras_cells a_q1_happenings_cells o_lined o_open o_line (jput st44.2 st44.1 ((jat st44.2 (st44.1 &&& (-st44.1))) ||| (jat st44.2 (st44.1 - (st44.1 &&& (-st44.1)))))) q1_wage q1_delay q1_odds q1_clock q1_hasWeeks q1_streets_corners q1_streets_hours q1_extras_many q1_extras_cells q1_happenings_many q1_happenings_cells) H := hP
          have hD : va_D A (wd_X4_gatherReached E a_o a_o_line a_o_reached a_q1 a_q1_streets a_q1_names a_q1_extras a_q1_happenings a_q1_watchers a_q1_weeks a_q1_streets_roads a_q1_streets_takes a_q1_streets_hours a_q1_extras_cells a_q1_happenings_cells o_lined o_open o_line (jput st44.2 st44.1 ((jat st44.2 (st44.1 &&& (-st44.1))) ||| (jat st44.2 (st44.1 - (st44.1 &&& (-st44.1)))))) q1_wage q1_delay q1_odds q1_clock q1_hasWeeks q1_streets_corners q1_streets_hours q1_extras_many q1_extras_cells q1_happenings_many q1_happenings_cells) := hD
          exact hj89 _ _ _ _ _ hf hP hD hS (lv_sub hl [1, 2] rfl)
    · refine fun H locs ls hP hD hS hl => ?_
      obtain rfl := Option.some.inj hf
      subst hq
      exact retV cx hP hD hS dX4_gatherReached_95
def X4_isEnough_j51 (F : Nat) (o_open : Int32) (o_reached : Nat → Int32) (v2 : Int32) (v3 : Int32) : Option ((Int32) ⊕ ((Unit) ⊕ (Unit))) :=
  some (.inl (v3 + 1))
def X4_isEnough_b12 (F : Nat) (o_open : Int32) (o_reached : Nat → Int32) (v2 : Int32) (st12 : Int32) : Option ((Int32) ⊕ ((Unit) ⊕ (Unit))) :=
  if o_open < st12 then
  some (.inr (.inr (())))
  else
  if (st12 &&& (o_open ^^^ (-1))) = 0 then
  if ix st12 256 then
  (J6_bitCount_0f7a4 ((jat o_reached st12) &&& v2)).bind fun u39 =>
  (J6_bitCount_0f7a4 st12).bind fun u43 =>
  if u43 ≤ u39 then
  X4_isEnough_j51 F o_open o_reached v2 st12
  else
  some (.inr (.inl (())))
  else none
  else
  X4_isEnough_j51 F o_open o_reached v2 st12
def X4_isEnough (F : Nat) (o_open : Int32) (o_reached : Nat → Int32) (v1 : Int32) : Option (Int32) :=
  (iter (X4_isEnough_b12 F o_open o_reached ((jshl v1 8) ||| o_open)) F 1).bind (Sum.elim (fun (e12 : Unit) =>
    some 0) (fun (e12 : Unit) =>
    some 1))
abbrev wd_X4_isEnough (E : vE) (a_o a_o_line a_o_reached : Nat) (o_lined : Int32) (o_open : Int32) (o_reached : Nat → Int32) : va_W := [(a_o, .inr (4, [.ref a_o_line, .int o_lined, .ref a_o_reached, .int o_open])), (a_o_reached, .inl (E.2.1, 256, .inl o_reached))]
set_option maxHeartbeats 4000000 in
set_option maxRecDepth 100000 in
theorem ct_X4_isEnough (l : Launch) (E : vE) (F : Nat) (a_o a_o_line a_o_reached : Nat) (o_lined : Int32) (o_open : Int32) (o_reached : Nat → Int32) (v1 : Int32) (u : Int32) (hf : X4_isEnough F o_open o_reached v1 = some u) :
    CtI l yX4_isEnough cX4_isEnough 4 (some .boolean) 1 E [.ref a_o, .int v1] (wd_X4_isEnough E a_o a_o_line a_o_reached o_lined o_open o_reached) (wd_X4_isEnough E a_o a_o_line a_o_reached o_lined o_open o_reached) u := by
  refine ctI (by decide) (Nat.le_of_ble_eq_true rfl) ?_
  intro p e s m below meth cd A ls aa QQ hq cx hP hD hS hl
  obtain ⟨⟨hx, hb, hml, hown, hts⟩, hr, hlocks, hK, hA, hX⟩ := id cx
  have hl : lv_has ls 4 [(0, .ref a_o), (1, .int v1)] := hl
  unfold X4_isEnough at hf
  refine lv_iload_n hx hb dX4_isEnough_0 rfl (lv_at hl 1 rfl) ?_
  refine lv_bipush (v := 8) hx hb dX4_isEnough_1 (by decide) ?_
  refine r_ishl hx hb dX4_isEnough_3 ?_
  refine lv_aload_n hx hb dX4_isEnough_4 rfl (lv_at hl 0 rfl) ?_
  refine va_get (D := E.1) (ci := 4) (v := .int o_open) (C := RX4) (T := TX4) (N := 4) hx hb hts inX4 hown hK hP 0 rfl rfl 3 (by decide) (hts _ fl_X4_18) (fun _ h9 => h9) rfl dX4_isEnough_5 ?_
  refine lv_ior hx hb dX4_isEnough_8 ?_
  refine lv_istore_n (lv' := [(2, .int ((jshl v1 8) ||| o_open)), (0, .ref a_o), (1, .int v1)]) hx hb dX4_isEnough_9 rfl hl (by decide) rfl (fun ls hl => ?_)
  refine lv_iconst (v := 1) hx hb dX4_isEnough_10 (by decide) ?_
  refine lv_istore_n (lv' := [(3, .int 1), (2, .int ((jshl v1 8) ||| o_open)), (0, .ref a_o), (1, .int v1)]) hx hb dX4_isEnough_11 rfl hl (by decide) rfl (fun ls hl => ?_)
  obtain ⟨e12, hit12, hf⟩ := bd hf
  refine iter_W (b := X4_isEnough_b12 F o_open o_reached ((jshl v1 8) ||| o_open)) (P := fun st12 => ∀ (H : Heap) (locs : List Loc) (ls : Array Slot), va_P E.1 vwCl (wd_X4_isEnough E a_o a_o_line a_o_reached o_lined o_open o_reached) H → va_D A (wd_X4_isEnough E a_o a_o_line a_o_reached o_lined o_open o_reached) → va_S A s.heap H locs → lv_has ls 4 [(0, .ref a_o), (2, .int ((jshl v1 8) ||| o_open)), (3, .int st12)] → W p l e (rmd 1) s m aa below meth cd H locs 0 0 QQ (F0 m 12 ls [])) (G := (Sum.elim (fun (e12 : Unit) => ∀ (H : Heap) (locs : List Loc) (ls : Array Slot), va_P E.1 vwCl (wd_X4_isEnough E a_o a_o_line a_o_reached o_lined o_open o_reached) H → va_D A (wd_X4_isEnough E a_o a_o_line a_o_reached o_lined o_open o_reached) → va_S A s.heap H locs → lv_has ls 4 [] → W p l e (rmd 1) s m aa below meth cd H locs 0 0 QQ (F0 m 49 ls [])) (fun (e12 : Unit) => ∀ (H : Heap) (locs : List Loc) (ls : Array Slot), va_P E.1 vwCl (wd_X4_isEnough E a_o a_o_line a_o_reached o_lined o_open o_reached) H → va_D A (wd_X4_isEnough E a_o a_o_line a_o_reached o_lined o_open o_reached) → va_S A s.heap H locs → lv_has ls 4 [] → W p l e (rmd 1) s m aa below meth cd H locs 0 0 QQ (F0 m 57 ls [])))) ?_ F 1 e12 hit12 ?_ _ _ _ hP hD hS (lv_sub hl [2, 1, 0] rfl)
  · intro st12 r12 hf hk12 he12 H locs ls hP hD hS hl
    have hj51 : ∀ (v3 : Int32) (H : Heap) (locs : List Loc) (ls : Array Slot), X4_isEnough_j51 F o_open o_reached ((jshl v1 8) ||| o_open) v3 = some r12 → va_P E.1 vwCl (wd_X4_isEnough E a_o a_o_line a_o_reached o_lined o_open o_reached) H → va_D A (wd_X4_isEnough E a_o a_o_line a_o_reached o_lined o_open o_reached) → va_S A s.heap H locs → lv_has ls 4 [(0, .ref a_o), (2, .int ((jshl v1 8) ||| o_open)), (3, .int v3)] → W p l e (rmd 1) s m aa below meth cd H locs 0 0 QQ (F0 m 51 ls []) := by
      intro v3 H locs ls hf hP hD hS hl
      unfold X4_isEnough_j51 at hf
      refine lv_iinc (v := (v3 + 1)) (lv' := [(3, .int (v3 + 1)), (0, .ref a_o), (2, .int ((jshl v1 8) ||| o_open))]) hx hb dX4_isEnough_51 hl (k := 2) rfl rfl (by decide) rfl (fun ls hl => ?_)
      refine lv_goto (tgt := 12) hx hb dX4_isEnough_54 (by decide) ?_
      exact hk12 _ (Option.some.inj hf).symm _ _ _ hP hD hS (lv_sub hl [1, 2, 0] rfl)
    unfold X4_isEnough_b12 at hf
    refine lv_iload_n hx hb dX4_isEnough_12 rfl (lv_at hl 2 rfl) ?_
    refine lv_aload_n hx hb dX4_isEnough_13 rfl (lv_at hl 0 rfl) ?_
    refine va_get (D := E.1) (ci := 4) (v := .int o_open) (C := RX4) (T := TX4) (N := 4) hx hb hts inX4 hown hK hP 0 rfl rfl 3 (by decide) (hts _ fl_X4_18) (fun _ h9 => h9) rfl dX4_isEnough_14 ?_
    refine lv_icmp_gt (tgt := 57) hx hb dX4_isEnough_17 (by decide) (fun hc => ?_) (fun hc => ?_)
    · have hf := it_t hc hf
      exact he12 _ (Option.some.inj hf).symm _ _ _ hP hD hS (lv_sub hl [] rfl)
    · have hf := it_f hc hf
      refine lv_iload_n hx hb dX4_isEnough_20 rfl (lv_at hl 2 rfl) ?_
      refine lv_aload_n hx hb dX4_isEnough_21 rfl (lv_at hl 0 rfl) ?_
      refine va_get (D := E.1) (ci := 4) (v := .int o_open) (C := RX4) (T := TX4) (N := 4) hx hb hts inX4 hown hK hP 0 rfl rfl 3 (by decide) (hts _ fl_X4_18) (fun _ h9 => h9) rfl dX4_isEnough_22 ?_
      refine lv_iconst (v := (-1)) hx hb dX4_isEnough_25 (by decide) ?_
      refine lv_ixor hx hb dX4_isEnough_26 ?_
      refine lv_iand hx hb dX4_isEnough_27 ?_
      refine lv_if_ne (tgt := 51) hx hb dX4_isEnough_28 (by decide) (fun hc => ?_) (fun hc => ?_)
      · have hf := it_f hc hf
        exact hj51 _ _ _ _ hf hP hD hS (lv_sub hl [0, 1, 2] rfl)
      · have hf := it_t hc hf
        refine lv_aload_n hx hb dX4_isEnough_31 rfl (lv_at hl 0 rfl) ?_
        refine va_get (D := E.1) (ci := 4) (v := .ref a_o_reached) (C := RX4) (T := TX4) (N := 4) hx hb hts inX4 hown hK hP 0 rfl rfl 2 (by decide) (hts _ fl_X4_15) (fun _ h9 => h9) rfl dX4_isEnough_32 ?_
        refine lv_iload_n hx hb dX4_isEnough_35 rfl (lv_at hl 2 rfl) ?_
        obtain ⟨hi, hf⟩ := ck hf
        refine r_iald 1 cx hP rfl hi dX4_isEnough_36 ?_
        refine lv_iload_n hx hb dX4_isEnough_37 rfl (lv_at hl 1 rfl) ?_
        refine lv_iand hx hb dX4_isEnough_38 ?_
        obtain ⟨u39, hu39, hf⟩ := bd hf
        refine keepSI (ct_J6_bitCount_0f7a4 l E ((jat o_reached st12) &&& ((jshl v1 8) ||| o_open)) u39 hu39) [] cal_J6_bitCount_0f7a4 sta_J6_bitCount_0f7a4 lk_X4_71 cx hP hD hS hl dX4_isEnough_39 rfl rfl (Nat.le_of_ble_eq_true rfl) ⟨Nat.le_of_ble_eq_true rfl, Nat.le_of_ble_eq_true rfl⟩ rfl (by decide) (fun H locs hP hS => ?_)
        refine lv_iload_n hx hb dX4_isEnough_42 rfl (lv_at hl 2 rfl) ?_
        obtain ⟨u43, hu43, hf⟩ := bd hf
        refine keepSI (ct_J6_bitCount_0f7a4 l E st12 u43 hu43) [] cal_J6_bitCount_0f7a4 sta_J6_bitCount_0f7a4 lk_X4_71 cx hP hD hS hl dX4_isEnough_43 rfl rfl (Nat.le_of_ble_eq_true rfl) ⟨Nat.le_of_ble_eq_true rfl, Nat.le_of_ble_eq_true rfl⟩ rfl (by decide) (fun H locs hP hS => ?_)
        refine lv_icmp_ge (tgt := 51) hx hb dX4_isEnough_46 (by decide) (fun hc => ?_) (fun hc => ?_)
        · have hf := it_t hc hf
          exact hj51 _ _ _ _ hf hP hD hS (lv_sub hl [0, 1, 2] rfl)
        · have hf := it_f hc hf
          exact he12 _ (Option.some.inj hf).symm _ _ _ hP hD hS (lv_sub hl [] rfl)
  · rcases e12 with e12 | e12
    · have hf := se_l hf
      refine fun H locs ls hP hD hS hl => ?_
      refine lv_iconst (v := 0) hx hb dX4_isEnough_49 (by decide) ?_
      obtain rfl := Option.some.inj hf
      subst hq
      exact retZ cx rfl hP hD hS dX4_isEnough_50
    · have hf := se_r hf
      refine fun H locs ls hP hD hS hl => ?_
      refine lv_iconst (v := 1) hx hb dX4_isEnough_57 (by decide) ?_
      obtain rfl := Option.some.inj hf
      subst hq
      exact retZ cx rfl hP hD hS dX4_isEnough_58
def X4_smallestTeam_j60 (F : Nat) (o_lined : Int32) (o_open : Int32) (o_line : Nat → Int32) (o_reached : Nat → Int32) (q1_clock : Int32) (q1_streets_hours : Nat → Int32) (q1_extras_many : Int32) (q1_extras_cells : Nat → Int32) (q1_happenings_many : Int32) (q1_happenings_cells : Nat → Int32) (v2 : Int32) (v3 : Int32) : Option ((Int32 × Int32) ⊕ ((Int32))) :=
  some (.inl (v2, (v3 + 1)))
def X4_smallestTeam_j43 (F : Nat) (o_lined : Int32) (o_open : Int32) (o_line : Nat → Int32) (o_reached : Nat → Int32) (q1_clock : Int32) (q1_streets_hours : Nat → Int32) (q1_extras_many : Int32) (q1_extras_cells : Nat → Int32) (q1_happenings_many : Int32) (q1_happenings_cells : Nat → Int32) (v2 : Int32) (v3 : Int32) (k0 : Int32) : Option ((Int32 × Int32) ⊕ ((Int32))) :=
  if k0 = 0 then
  X4_smallestTeam_j60 F o_lined o_open o_line o_reached q1_clock q1_streets_hours q1_extras_many q1_extras_cells q1_happenings_many q1_happenings_cells v2 v3
  else
  (X4_isEnough F o_open o_reached v3).bind fun u52 =>
  if u52 = 0 then
  X4_smallestTeam_j60 F o_lined o_open o_line o_reached q1_clock q1_streets_hours q1_extras_many q1_extras_cells q1_happenings_many q1_happenings_cells v2 v3
  else
  X4_smallestTeam_j60 F o_lined o_open o_line o_reached q1_clock q1_streets_hours q1_extras_many q1_extras_cells q1_happenings_many q1_happenings_cells v3 v3
def X4_smallestTeam_j38 (F : Nat) (o_lined : Int32) (o_open : Int32) (o_line : Nat → Int32) (o_reached : Nat → Int32) (q1_clock : Int32) (q1_streets_hours : Nat → Int32) (q1_extras_many : Int32) (q1_extras_cells : Nat → Int32) (q1_happenings_many : Int32) (q1_happenings_cells : Nat → Int32) (v2 : Int32) (v3 : Int32) : Option ((Int32 × Int32) ⊕ ((Int32))) :=
  X4_smallestTeam_j43 F o_lined o_open o_line o_reached q1_clock q1_streets_hours q1_extras_many q1_extras_cells q1_happenings_many q1_happenings_cells v2 v3 1
def X4_smallestTeam_b9 (F : Nat) (o_lined : Int32) (o_open : Int32) (o_line : Nat → Int32) (o_reached : Nat → Int32) (q1_clock : Int32) (q1_streets_hours : Nat → Int32) (q1_extras_many : Int32) (q1_extras_cells : Nat → Int32) (q1_happenings_many : Int32) (q1_happenings_cells : Nat → Int32) (st9 : Int32 × Int32) : Option ((Int32 × Int32) ⊕ ((Int32))) :=
  if (jshl 1 q1_extras_many) ≤ st9.2 then
  some (.inr st9.1)
  else
  if st9.1 = (-1) then
  X4_smallestTeam_j38 F o_lined o_open o_line o_reached q1_clock q1_streets_hours q1_extras_many q1_extras_cells q1_happenings_many q1_happenings_cells st9.1 st9.2
  else
  (J6_bitCount_0f7a4 st9.2).bind fun u28 =>
  (J6_bitCount_0f7a4 st9.1).bind fun u32 =>
  if u32 ≤ u28 then
  X4_smallestTeam_j43 F o_lined o_open o_line o_reached q1_clock q1_streets_hours q1_extras_many q1_extras_cells q1_happenings_many q1_happenings_cells st9.1 st9.2 0
  else
  X4_smallestTeam_j38 F o_lined o_open o_line o_reached q1_clock q1_streets_hours q1_extras_many q1_extras_cells q1_happenings_many q1_happenings_cells st9.1 st9.2
def X4_smallestTeam (F : Nat) (o_lined : Int32) (o_open : Int32) (o_line : Nat → Int32) (o_reached : Nat → Int32) (q1_clock : Int32) (q1_streets_hours : Nat → Int32) (q1_extras_many : Int32) (q1_extras_cells : Nat → Int32) (q1_happenings_many : Int32) (q1_happenings_cells : Nat → Int32) : Option (Int32 × (Nat → Int32)) :=
  (X4_gatherReached F o_lined o_open o_line o_reached q1_clock q1_streets_hours q1_extras_many q1_extras_cells q1_happenings_many q1_happenings_cells).bind fun u2 =>
  (iter (X4_smallestTeam_b9 F o_lined o_open o_line u2 q1_clock q1_streets_hours q1_extras_many q1_extras_cells q1_happenings_many q1_happenings_cells) F ((-1), 0)).bind (fun (e9 : Int32) =>
    some (e9, u2))
abbrev wd_X4_smallestTeam (E : vE) (a_o a_o_line a_o_reached a_q1 a_q1_streets a_q1_names a_q1_extras a_q1_happenings a_q1_watchers a_q1_weeks a_q1_streets_roads a_q1_streets_takes a_q1_streets_hours a_q1_extras_cells a_q1_happenings_cells : Nat) (o_lined : Int32) (o_open : Int32) (o_line : Nat → Int32) (o_reached : Nat → Int32) (q1_wage : Int32) (q1_delay : Int32) (q1_odds : Int32) (q1_clock : Int32) (q1_hasWeeks : Int32) (q1_streets_corners : Int32) (q1_streets_hours : Nat → Int32) (q1_extras_many : Int32) (q1_extras_cells : Nat → Int32) (q1_happenings_many : Int32) (q1_happenings_cells : Nat → Int32) : va_W := [(a_o, .inr (4, [.ref a_o_line, .int o_lined, .ref a_o_reached, .int o_open])), (a_o_line, .inl (E.2.1, 8, .inl o_line)), (a_o_reached, .inl (E.2.1, 256, .inl o_reached)), (a_q1, .inr (0, [.int q1_wage, .int q1_delay, .int q1_odds, .int q1_clock, .int q1_hasWeeks, .ref a_q1_streets, .ref a_q1_names, .ref a_q1_extras, .ref a_q1_happenings, .ref a_q1_watchers, .ref a_q1_weeks])), (a_q1_streets, .inr (6, [.int q1_streets_corners, .ref a_q1_streets_roads, .ref a_q1_streets_takes, .ref a_q1_streets_hours])), (a_q1_streets_hours, .inl (E.2.1, 64, .inl q1_streets_hours)), (a_q1_extras, .inr (7, [.int 5, .ref a_q1_extras_cells, .int q1_extras_many])), (a_q1_extras_cells, .inl (E.2.1, 35, .inl q1_extras_cells)), (a_q1_happenings, .inr (7, [.int 5, .ref a_q1_happenings_cells, .int q1_happenings_many])), (a_q1_happenings_cells, .inl (E.2.1, 40, .inl q1_happenings_cells))]
set_option maxHeartbeats 4000000 in
set_option maxRecDepth 100000 in
theorem ct_X4_smallestTeam (l : Launch) (E : vE) (F : Nat) (a_o a_o_line a_o_reached a_q1 a_q1_streets a_q1_names a_q1_extras a_q1_happenings a_q1_watchers a_q1_weeks a_q1_streets_roads a_q1_streets_takes a_q1_streets_hours a_q1_extras_cells a_q1_happenings_cells : Nat) (o_lined : Int32) (o_open : Int32) (o_line : Nat → Int32) (o_reached : Nat → Int32) (q1_wage : Int32) (q1_delay : Int32) (q1_odds : Int32) (q1_clock : Int32) (q1_hasWeeks : Int32) (q1_streets_corners : Int32) (q1_streets_hours : Nat → Int32) (q1_extras_many : Int32) (q1_extras_cells : Nat → Int32) (q1_happenings_many : Int32) (q1_happenings_cells : Nat → Int32) (u : Int32 × (Nat → Int32)) (hf : X4_smallestTeam F o_lined o_open o_line o_reached q1_clock q1_streets_hours q1_extras_many q1_extras_cells q1_happenings_many q1_happenings_cells = some u) :
    CtI l yX4_smallestTeam cX4_smallestTeam 5 (some .int) 5 E [.ref a_o, .ref a_q1] (wd_X4_smallestTeam E a_o a_o_line a_o_reached a_q1 a_q1_streets a_q1_names a_q1_extras a_q1_happenings a_q1_watchers a_q1_weeks a_q1_streets_roads a_q1_streets_takes a_q1_streets_hours a_q1_extras_cells a_q1_happenings_cells o_lined o_open o_line o_reached q1_wage q1_delay q1_odds q1_clock q1_hasWeeks q1_streets_corners q1_streets_hours q1_extras_many q1_extras_cells q1_happenings_many q1_happenings_cells) (wd_X4_smallestTeam E a_o a_o_line a_o_reached a_q1 a_q1_streets a_q1_names a_q1_extras a_q1_happenings a_q1_watchers a_q1_weeks a_q1_streets_roads a_q1_streets_takes a_q1_streets_hours a_q1_extras_cells a_q1_happenings_cells o_lined o_open o_line u.2 q1_wage q1_delay q1_odds q1_clock q1_hasWeeks q1_streets_corners q1_streets_hours q1_extras_many q1_extras_cells q1_happenings_many q1_happenings_cells) u.1 := by
  refine ctI (by decide) (Nat.le_of_ble_eq_true rfl) ?_
  intro p e s m below meth cd A ls aa QQ hq cx hP hD hS hl
  obtain ⟨⟨hx, hb, hml, hown, hts⟩, hr, hlocks, hK, hA, hX⟩ := id cx
  have hl : lv_has ls 5 [(0, .ref a_o), (1, .ref a_q1)] := hl
  unfold X4_smallestTeam at hf
  refine lv_aload_n hx hb dX4_smallestTeam_0 rfl (lv_at hl 0 rfl) ?_
  refine lv_aload_n hx hb dX4_smallestTeam_1 rfl (lv_at hl 1 rfl) ?_
  obtain ⟨u2, hu2, hf⟩ := bd hf
  refine callVV (wn := (wd_X4_smallestTeam E a_o a_o_line a_o_reached a_q1 a_q1_streets a_q1_names a_q1_extras a_q1_happenings a_q1_watchers a_q1_weeks a_q1_streets_roads a_q1_streets_takes a_q1_streets_hours a_q1_extras_cells a_q1_happenings_cells o_lined o_open o_line u2 q1_wage q1_delay q1_odds q1_clock q1_hasWeeks q1_streets_corners q1_streets_hours q1_extras_many q1_extras_cells q1_happenings_many q1_happenings_cells)) (ct_X4_gatherReached l E F a_o a_o_line a_o_reached a_q1 a_q1_streets a_q1_names a_q1_extras a_q1_happenings a_q1_watchers a_q1_weeks a_q1_streets_roads a_q1_streets_takes a_q1_streets_hours a_q1_extras_cells a_q1_happenings_cells o_lined o_open o_line o_reached q1_wage q1_delay q1_odds q1_clock q1_hasWeeks q1_streets_corners q1_streets_hours q1_extras_many q1_extras_cells q1_happenings_many q1_happenings_cells u2 hu2) [0, 1, 2, 3, 4, 5, 6, 7, 8, 9] [] [0, 1, 2, 3, 4, 5, 6, 7, 8, 9] cal_X4_gatherReached cav_X4_gatherReached lk_X4_80 cx hP hD hS hl dX4_smallestTeam_2 rfl rfl rfl rfl (Nat.le_of_ble_eq_true rfl) ⟨Nat.le_of_ble_eq_true rfl, Nat.le_of_ble_eq_true rfl⟩ rfl (by decide) rfl (by decide) (by decide) rfl (by decide) (fun H locs hP hD hS => ?_)
  refine lv_iconst (v := (-1)) hx hb dX4_smallestTeam_5 (by decide) ?_
  refine lv_istore_n (lv' := [(2, .int (-1)), (0, .ref a_o), (1, .ref a_q1)]) hx hb dX4_smallestTeam_6 rfl hl (by decide) rfl (fun ls hl => ?_)
  refine lv_iconst (v := 0) hx hb dX4_smallestTeam_7 (by decide) ?_
  refine lv_istore_n (lv' := [(3, .int 0), (2, .int (-1)), (0, .ref a_o), (1, .ref a_q1)]) hx hb dX4_smallestTeam_8 rfl hl (by decide) rfl (fun ls hl => ?_)
  obtain ⟨e9, hit9, hf⟩ := bd hf
  refine iter_W (b := X4_smallestTeam_b9 F o_lined o_open o_line u2 q1_clock q1_streets_hours q1_extras_many q1_extras_cells q1_happenings_many q1_happenings_cells) (P := fun st9 => ∀ (H : Heap) (locs : List Loc) (ls : Array Slot), va_P E.1 vwCl (wd_X4_smallestTeam E a_o a_o_line a_o_reached a_q1 a_q1_streets a_q1_names a_q1_extras a_q1_happenings a_q1_watchers a_q1_weeks a_q1_streets_roads a_q1_streets_takes a_q1_streets_hours a_q1_extras_cells a_q1_happenings_cells o_lined o_open o_line u2 q1_wage q1_delay q1_odds q1_clock q1_hasWeeks q1_streets_corners q1_streets_hours q1_extras_many q1_extras_cells q1_happenings_many q1_happenings_cells) H → va_D A (wd_X4_smallestTeam E a_o a_o_line a_o_reached a_q1 a_q1_streets a_q1_names a_q1_extras a_q1_happenings a_q1_watchers a_q1_weeks a_q1_streets_roads a_q1_streets_takes a_q1_streets_hours a_q1_extras_cells a_q1_happenings_cells o_lined o_open o_line u2 q1_wage q1_delay q1_odds q1_clock q1_hasWeeks q1_streets_corners q1_streets_hours q1_extras_many q1_extras_cells q1_happenings_many q1_happenings_cells) → va_S A s.heap H locs → lv_has ls 5 [(0, .ref a_o), (1, .ref a_q1), (2, .int st9.1), (3, .int st9.2)] → W p l e (rmd 5) s m aa below meth cd H locs 0 0 QQ (F0 m 9 ls [])) (G := (fun (e9 : Int32) => ∀ (H : Heap) (locs : List Loc) (ls : Array Slot), va_P E.1 vwCl (wd_X4_smallestTeam E a_o a_o_line a_o_reached a_q1 a_q1_streets a_q1_names a_q1_extras a_q1_happenings a_q1_watchers a_q1_weeks a_q1_streets_roads a_q1_streets_takes a_q1_streets_hours a_q1_extras_cells a_q1_happenings_cells o_lined o_open o_line u2 q1_wage q1_delay q1_odds q1_clock q1_hasWeeks q1_streets_corners q1_streets_hours q1_extras_many q1_extras_cells q1_happenings_many q1_happenings_cells) H → va_D A (wd_X4_smallestTeam E a_o a_o_line a_o_reached a_q1 a_q1_streets a_q1_names a_q1_extras a_q1_happenings a_q1_watchers a_q1_weeks a_q1_streets_roads a_q1_streets_takes a_q1_streets_hours a_q1_extras_cells a_q1_happenings_cells o_lined o_open o_line u2 q1_wage q1_delay q1_odds q1_clock q1_hasWeeks q1_streets_corners q1_streets_hours q1_extras_many q1_extras_cells q1_happenings_many q1_happenings_cells) → va_S A s.heap H locs → lv_has ls 5 [(2, .int e9)] → W p l e (rmd 5) s m aa below meth cd H locs 0 0 QQ (F0 m 66 ls []))) ?_ F ((-1), 0) e9 hit9 ?_ _ _ _ hP hD hS (lv_sub hl [2, 3, 1, 0] rfl)
  · intro st9 r9 hf hk9 he9 H locs ls hP hD hS hl
    have hj60 : ∀ (v2 : Int32) (v3 : Int32) (H : Heap) (locs : List Loc) (ls : Array Slot), X4_smallestTeam_j60 F o_lined o_open o_line u2 q1_clock q1_streets_hours q1_extras_many q1_extras_cells q1_happenings_many q1_happenings_cells v2 v3 = some r9 → va_P E.1 vwCl (wd_X4_smallestTeam E a_o a_o_line a_o_reached a_q1 a_q1_streets a_q1_names a_q1_extras a_q1_happenings a_q1_watchers a_q1_weeks a_q1_streets_roads a_q1_streets_takes a_q1_streets_hours a_q1_extras_cells a_q1_happenings_cells o_lined o_open o_line u2 q1_wage q1_delay q1_odds q1_clock q1_hasWeeks q1_streets_corners q1_streets_hours q1_extras_many q1_extras_cells q1_happenings_many q1_happenings_cells) H → va_D A (wd_X4_smallestTeam E a_o a_o_line a_o_reached a_q1 a_q1_streets a_q1_names a_q1_extras a_q1_happenings a_q1_watchers a_q1_weeks a_q1_streets_roads a_q1_streets_takes a_q1_streets_hours a_q1_extras_cells a_q1_happenings_cells o_lined o_open o_line u2 q1_wage q1_delay q1_odds q1_clock q1_hasWeeks q1_streets_corners q1_streets_hours q1_extras_many q1_extras_cells q1_happenings_many q1_happenings_cells) → va_S A s.heap H locs → lv_has ls 5 [(0, .ref a_o), (1, .ref a_q1), (2, .int v2), (3, .int v3)] → W p l e (rmd 5) s m aa below meth cd H locs 0 0 QQ (F0 m 60 ls []) := by
      intro v2 v3 H locs ls hf hP hD hS hl
      unfold X4_smallestTeam_j60 at hf
      refine lv_iinc (v := (v3 + 1)) (lv' := [(3, .int (v3 + 1)), (0, .ref a_o), (1, .ref a_q1), (2, .int v2)]) hx hb dX4_smallestTeam_60 hl (k := 3) rfl rfl (by decide) rfl (fun ls hl => ?_)
      refine lv_goto (tgt := 9) hx hb dX4_smallestTeam_63 (by decide) ?_
      exact hk9 _ (Option.some.inj hf).symm _ _ _ hP hD hS (lv_sub hl [1, 2, 3, 0] rfl)
    have hj43 : ∀ (v2 : Int32) (v3 : Int32) (k0 : Int32) (H : Heap) (locs : List Loc) (ls : Array Slot), X4_smallestTeam_j43 F o_lined o_open o_line u2 q1_clock q1_streets_hours q1_extras_many q1_extras_cells q1_happenings_many q1_happenings_cells v2 v3 k0 = some r9 → va_P E.1 vwCl (wd_X4_smallestTeam E a_o a_o_line a_o_reached a_q1 a_q1_streets a_q1_names a_q1_extras a_q1_happenings a_q1_watchers a_q1_weeks a_q1_streets_roads a_q1_streets_takes a_q1_streets_hours a_q1_extras_cells a_q1_happenings_cells o_lined o_open o_line u2 q1_wage q1_delay q1_odds q1_clock q1_hasWeeks q1_streets_corners q1_streets_hours q1_extras_many q1_extras_cells q1_happenings_many q1_happenings_cells) H → va_D A (wd_X4_smallestTeam E a_o a_o_line a_o_reached a_q1 a_q1_streets a_q1_names a_q1_extras a_q1_happenings a_q1_watchers a_q1_weeks a_q1_streets_roads a_q1_streets_takes a_q1_streets_hours a_q1_extras_cells a_q1_happenings_cells o_lined o_open o_line u2 q1_wage q1_delay q1_odds q1_clock q1_hasWeeks q1_streets_corners q1_streets_hours q1_extras_many q1_extras_cells q1_happenings_many q1_happenings_cells) → va_S A s.heap H locs → lv_has ls 5 [(0, .ref a_o), (1, .ref a_q1), (2, .int v2), (3, .int v3)] → W p l e (rmd 5) s m aa below meth cd H locs 0 0 QQ (F0 m 43 ls [.int k0]) := by
      intro v2 v3 k0 H locs ls hf hP hD hS hl
      unfold X4_smallestTeam_j43 at hf
      refine lv_istore (lv' := [(4, .int k0), (0, .ref a_o), (1, .ref a_q1), (2, .int v2), (3, .int v3)]) hx hb dX4_smallestTeam_43 hl (by decide) rfl (fun ls hl => ?_)
      refine lv_iload hx hb dX4_smallestTeam_45 (lv_at hl 0 rfl) ?_
      refine lv_if_eq (tgt := 60) hx hb dX4_smallestTeam_47 (by decide) (fun hc => ?_) (fun hc => ?_)
      · have hf := it_t hc hf
        exact hj60 _ _ _ _ _ hf hP hD hS (lv_sub hl [1, 2, 3, 4] rfl)
      · have hf := it_f hc hf
        refine lv_aload_n hx hb dX4_smallestTeam_50 rfl (lv_at hl 1 rfl) ?_
        refine lv_iload_n hx hb dX4_smallestTeam_51 rfl (lv_at hl 4 rfl) ?_
        obtain ⟨u52, hu52, hf⟩ := bd hf
        refine keepVI (ct_X4_isEnough l E F a_o a_o_line a_o_reached o_lined o_open u2 v3 u52 hu52) [0, 2] cal_X4_isEnough cav_X4_isEnough lk_X4_84 cx hP hD hS hl dX4_smallestTeam_52 rfl rfl rfl rfl (Nat.le_of_ble_eq_true rfl) ⟨Nat.le_of_ble_eq_true rfl, Nat.le_of_ble_eq_true rfl⟩ rfl (by decide) (fun H locs hP hS => ?_)
        refine lv_if_eq (tgt := 60) hx hb dX4_smallestTeam_55 (by decide) (fun hc => ?_) (fun hc => ?_)
        · have hf := it_t hc hf
          exact hj60 _ _ _ _ _ hf hP hD hS (lv_sub hl [1, 2, 3, 4] rfl)
        · have hf := it_f hc hf
          refine lv_iload_n hx hb dX4_smallestTeam_58 rfl (lv_at hl 4 rfl) ?_
          refine lv_istore_n (lv' := [(2, .int v3), (4, .int k0), (0, .ref a_o), (1, .ref a_q1), (3, .int v3)]) hx hb dX4_smallestTeam_59 rfl hl (by decide) rfl (fun ls hl => ?_)
          exact hj60 _ _ _ _ _ hf hP hD hS (lv_sub hl [2, 3, 0, 4] rfl)
    have hj38 : ∀ (v2 : Int32) (v3 : Int32) (H : Heap) (locs : List Loc) (ls : Array Slot), X4_smallestTeam_j38 F o_lined o_open o_line u2 q1_clock q1_streets_hours q1_extras_many q1_extras_cells q1_happenings_many q1_happenings_cells v2 v3 = some r9 → va_P E.1 vwCl (wd_X4_smallestTeam E a_o a_o_line a_o_reached a_q1 a_q1_streets a_q1_names a_q1_extras a_q1_happenings a_q1_watchers a_q1_weeks a_q1_streets_roads a_q1_streets_takes a_q1_streets_hours a_q1_extras_cells a_q1_happenings_cells o_lined o_open o_line u2 q1_wage q1_delay q1_odds q1_clock q1_hasWeeks q1_streets_corners q1_streets_hours q1_extras_many q1_extras_cells q1_happenings_many q1_happenings_cells) H → va_D A (wd_X4_smallestTeam E a_o a_o_line a_o_reached a_q1 a_q1_streets a_q1_names a_q1_extras a_q1_happenings a_q1_watchers a_q1_weeks a_q1_streets_roads a_q1_streets_takes a_q1_streets_hours a_q1_extras_cells a_q1_happenings_cells o_lined o_open o_line u2 q1_wage q1_delay q1_odds q1_clock q1_hasWeeks q1_streets_corners q1_streets_hours q1_extras_many q1_extras_cells q1_happenings_many q1_happenings_cells) → va_S A s.heap H locs → lv_has ls 5 [(0, .ref a_o), (1, .ref a_q1), (2, .int v2), (3, .int v3)] → W p l e (rmd 5) s m aa below meth cd H locs 0 0 QQ (F0 m 38 ls []) := by
      intro v2 v3 H locs ls hf hP hD hS hl
      unfold X4_smallestTeam_j38 at hf
      refine lv_iconst (v := 1) hx hb dX4_smallestTeam_38 (by decide) ?_
      refine lv_goto (tgt := 43) hx hb dX4_smallestTeam_39 (by decide) ?_
      exact hj43 _ _ _ _ _ _ hf hP hD hS (lv_sub hl [0, 1, 2, 3] rfl)
    unfold X4_smallestTeam_b9 at hf
    refine lv_iload_n hx hb dX4_smallestTeam_9 rfl (lv_at hl 3 rfl) ?_
    refine lv_iconst (v := 1) hx hb dX4_smallestTeam_10 (by decide) ?_
    refine lv_aload_n hx hb dX4_smallestTeam_11 rfl (lv_at hl 1 rfl) ?_
    refine va_get (D := E.1) (ci := 0) (v := .ref a_q1_extras) (C := RX0) (T := TX0) (N := 11) hx hb hts inX0 hown hK hP 3 rfl rfl 7 (by decide) (hts _ fl_X4_47) (fun _ h9 => h9) rfl dX4_smallestTeam_12 ?_
    refine va_get (D := E.1) (ci := 7) (v := .int q1_extras_many) (C := RX7) (T := TX7) (N := 3) hx hb hts inX7 hown hK hP 6 rfl rfl 2 (by decide) (hts _ fl_X4_31) (fun _ h9 => h9) rfl dX4_smallestTeam_15 ?_
    refine r_ishl hx hb dX4_smallestTeam_18 ?_
    refine lv_icmp_ge (tgt := 66) hx hb dX4_smallestTeam_19 (by decide) (fun hc => ?_) (fun hc => ?_)
    · have hf := it_t hc hf
      exact he9 _ (Option.some.inj hf).symm _ _ _ hP hD hS (lv_sub hl [2] rfl)
    · have hf := it_f hc hf
      refine lv_iload_n hx hb dX4_smallestTeam_22 rfl (lv_at hl 2 rfl) ?_
      refine lv_iconst (v := (-1)) hx hb dX4_smallestTeam_23 (by decide) ?_
      refine lv_icmp_eq (tgt := 38) hx hb dX4_smallestTeam_24 (by decide) (fun hc => ?_) (fun hc => ?_)
      · have hf := it_t hc hf
        exact hj38 _ _ _ _ _ hf hP hD hS (lv_sub hl [0, 1, 2, 3] rfl)
      · have hf := it_f hc hf
        refine lv_iload_n hx hb dX4_smallestTeam_27 rfl (lv_at hl 3 rfl) ?_
        obtain ⟨u28, hu28, hf⟩ := bd hf
        refine keepSI (ct_J6_bitCount_0f7a4 l E st9.2 u28 hu28) [] cal_J6_bitCount_0f7a4 sta_J6_bitCount_0f7a4 lk_X4_71 cx hP hD hS hl dX4_smallestTeam_28 rfl rfl (Nat.le_of_ble_eq_true rfl) ⟨Nat.le_of_ble_eq_true rfl, Nat.le_of_ble_eq_true rfl⟩ rfl (by decide) (fun H locs hP hS => ?_)
        refine lv_iload_n hx hb dX4_smallestTeam_31 rfl (lv_at hl 2 rfl) ?_
        obtain ⟨u32, hu32, hf⟩ := bd hf
        refine keepSI (ct_J6_bitCount_0f7a4 l E st9.1 u32 hu32) [] cal_J6_bitCount_0f7a4 sta_J6_bitCount_0f7a4 lk_X4_71 cx hP hD hS hl dX4_smallestTeam_32 rfl rfl (Nat.le_of_ble_eq_true rfl) ⟨Nat.le_of_ble_eq_true rfl, Nat.le_of_ble_eq_true rfl⟩ rfl (by decide) (fun H locs hP hS => ?_)
        refine lv_icmp_ge (tgt := 42) hx hb dX4_smallestTeam_35 (by decide) (fun hc => ?_) (fun hc => ?_)
        · have hf := it_t hc hf
          refine lv_iconst (v := 0) hx hb dX4_smallestTeam_42 (by decide) ?_
          exact hj43 _ _ _ _ _ _ hf hP hD hS (lv_sub hl [0, 1, 2, 3] rfl)
        · have hf := it_f hc hf
          exact hj38 _ _ _ _ _ hf hP hD hS (lv_sub hl [0, 1, 2, 3] rfl)
  · refine fun H locs ls hP hD hS hl => ?_
    refine lv_iload_n hx hb dX4_smallestTeam_66 rfl (lv_at hl 0 rfl) ?_
    obtain rfl := Option.some.inj hf
    subst hq
    exact retI cx hP hD hS dX4_smallestTeam_67
def X5_greatestBut_j55 (F : Nat) (q1_happenings_many : Int32) (q1_happenings_cells : Nat → Int32) (v2 : Int32) (v3 : Int32) (v4 : Int32) : Option ((Int32 × Int32) ⊕ ((Int32))) :=
  some (.inl (v3, (v4 + 1)))
def X5_greatestBut_b5 (F : Nat) (q1_happenings_many : Int32) (q1_happenings_cells : Nat → Int32) (v2 : Int32) (st5 : Int32 × Int32) : Option ((Int32 × Int32) ⊕ ((Int32))) :=
  if q1_happenings_many ≤ st5.2 then
  some (.inr st5.1)
  else
  (X0_isToCome q1_happenings_many q1_happenings_cells st5.2).bind fun u20 =>
  if u20 = 0 then
  X5_greatestBut_j55 F q1_happenings_many q1_happenings_cells v2 st5.1 st5.2
  else
  (X7_get 40 5 q1_happenings_many q1_happenings_cells st5.2 (0 : Int32)).bind fun u33 =>
  if u33 = v2 then
  X5_greatestBut_j55 F q1_happenings_many q1_happenings_cells v2 st5.1 st5.2
  else
  (X7_get 40 5 q1_happenings_many q1_happenings_cells st5.2 (2 : Int32)).bind fun u48 =>
  (J9_max_7cf53 st5.1 u48).bind fun u51 =>
  X5_greatestBut_j55 F q1_happenings_many q1_happenings_cells v2 u51 st5.2
def X5_greatestBut (F : Nat) (q1_happenings_many : Int32) (q1_happenings_cells : Nat → Int32) (v2 : Int32) : Option (Int32) :=
  (iter (X5_greatestBut_b5 F q1_happenings_many q1_happenings_cells v2) F (0, 0)).bind (fun (e5 : Int32) =>
    some e5)
abbrev wd_X5_greatestBut (E : vE) (a_o a_o_worth a_q1 a_q1_streets a_q1_names a_q1_extras a_q1_happenings a_q1_watchers a_q1_weeks a_q1_happenings_cells : Nat) (q1_wage : Int32) (q1_delay : Int32) (q1_odds : Int32) (q1_clock : Int32) (q1_hasWeeks : Int32) (q1_happenings_many : Int32) (q1_happenings_cells : Nat → Int32) : va_W := [(a_o, .inr (5, [.ref a_o_worth])), (a_q1, .inr (0, [.int q1_wage, .int q1_delay, .int q1_odds, .int q1_clock, .int q1_hasWeeks, .ref a_q1_streets, .ref a_q1_names, .ref a_q1_extras, .ref a_q1_happenings, .ref a_q1_watchers, .ref a_q1_weeks])), (a_q1_happenings, .inr (7, [.int 5, .ref a_q1_happenings_cells, .int q1_happenings_many])), (a_q1_happenings_cells, .inl (E.2.1, 40, .inl q1_happenings_cells))]
set_option maxHeartbeats 4000000 in
set_option maxRecDepth 100000 in
theorem ct_X5_greatestBut (l : Launch) (E : vE) (F : Nat) (a_o a_o_worth a_q1 a_q1_streets a_q1_names a_q1_extras a_q1_happenings a_q1_watchers a_q1_weeks a_q1_happenings_cells : Nat) (q1_wage : Int32) (q1_delay : Int32) (q1_odds : Int32) (q1_clock : Int32) (q1_hasWeeks : Int32) (q1_happenings_many : Int32) (q1_happenings_cells : Nat → Int32) (v2 : Int32) (u : Int32) (hf : X5_greatestBut F q1_happenings_many q1_happenings_cells v2 = some u) :
    CtI l yX5_greatestBut cX5_greatestBut 5 (some .int) 2 E [.ref a_o, .ref a_q1, .int v2] (wd_X5_greatestBut E a_o a_o_worth a_q1 a_q1_streets a_q1_names a_q1_extras a_q1_happenings a_q1_watchers a_q1_weeks a_q1_happenings_cells q1_wage q1_delay q1_odds q1_clock q1_hasWeeks q1_happenings_many q1_happenings_cells) (wd_X5_greatestBut E a_o a_o_worth a_q1 a_q1_streets a_q1_names a_q1_extras a_q1_happenings a_q1_watchers a_q1_weeks a_q1_happenings_cells q1_wage q1_delay q1_odds q1_clock q1_hasWeeks q1_happenings_many q1_happenings_cells) u := by
  refine ctI (by decide) (Nat.le_of_ble_eq_true rfl) ?_
  intro p e s m below meth cd A ls aa QQ hq cx hP hD hS hl
  obtain ⟨⟨hx, hb, hml, hown, hts⟩, hr, hlocks, hK, hA, hX⟩ := id cx
  have hl : lv_has ls 5 [(0, .ref a_o), (1, .ref a_q1), (2, .int v2)] := hl
  unfold X5_greatestBut at hf
  refine lv_iconst (v := 0) hx hb dX5_greatestBut_0 (by decide) ?_
  refine lv_istore_n (lv' := [(3, .int 0), (0, .ref a_o), (1, .ref a_q1), (2, .int v2)]) hx hb dX5_greatestBut_1 rfl hl (by decide) rfl (fun ls hl => ?_)
  refine lv_iconst (v := 0) hx hb dX5_greatestBut_2 (by decide) ?_
  refine lv_istore (lv' := [(4, .int 0), (3, .int 0), (0, .ref a_o), (1, .ref a_q1), (2, .int v2)]) hx hb dX5_greatestBut_3 hl (by decide) rfl (fun ls hl => ?_)
  obtain ⟨e5, hit5, hf⟩ := bd hf
  refine iter_W (b := X5_greatestBut_b5 F q1_happenings_many q1_happenings_cells v2) (P := fun st5 => ∀ (H : Heap) (locs : List Loc) (ls : Array Slot), va_P E.1 vwCl (wd_X5_greatestBut E a_o a_o_worth a_q1 a_q1_streets a_q1_names a_q1_extras a_q1_happenings a_q1_watchers a_q1_weeks a_q1_happenings_cells q1_wage q1_delay q1_odds q1_clock q1_hasWeeks q1_happenings_many q1_happenings_cells) H → va_D A (wd_X5_greatestBut E a_o a_o_worth a_q1 a_q1_streets a_q1_names a_q1_extras a_q1_happenings a_q1_watchers a_q1_weeks a_q1_happenings_cells q1_wage q1_delay q1_odds q1_clock q1_hasWeeks q1_happenings_many q1_happenings_cells) → va_S A s.heap H locs → lv_has ls 5 [(1, .ref a_q1), (2, .int v2), (3, .int st5.1), (4, .int st5.2)] → W p l e (rmd 2) s m aa below meth cd H locs 0 0 QQ (F0 m 5 ls [])) (G := (fun (e5 : Int32) => ∀ (H : Heap) (locs : List Loc) (ls : Array Slot), va_P E.1 vwCl (wd_X5_greatestBut E a_o a_o_worth a_q1 a_q1_streets a_q1_names a_q1_extras a_q1_happenings a_q1_watchers a_q1_weeks a_q1_happenings_cells q1_wage q1_delay q1_odds q1_clock q1_hasWeeks q1_happenings_many q1_happenings_cells) H → va_D A (wd_X5_greatestBut E a_o a_o_worth a_q1 a_q1_streets a_q1_names a_q1_extras a_q1_happenings a_q1_watchers a_q1_weeks a_q1_happenings_cells q1_wage q1_delay q1_odds q1_clock q1_hasWeeks q1_happenings_many q1_happenings_cells) → va_S A s.heap H locs → lv_has ls 5 [(3, .int e5)] → W p l e (rmd 2) s m aa below meth cd H locs 0 0 QQ (F0 m 61 ls []))) ?_ F (0, 0) e5 hit5 ?_ _ _ _ hP hD hS (lv_sub hl [3, 4, 1, 0] rfl)
  · intro st5 r5 hf hk5 he5 H locs ls hP hD hS hl
    have hj55 : ∀ (v3 : Int32) (v4 : Int32) (H : Heap) (locs : List Loc) (ls : Array Slot), X5_greatestBut_j55 F q1_happenings_many q1_happenings_cells v2 v3 v4 = some r5 → va_P E.1 vwCl (wd_X5_greatestBut E a_o a_o_worth a_q1 a_q1_streets a_q1_names a_q1_extras a_q1_happenings a_q1_watchers a_q1_weeks a_q1_happenings_cells q1_wage q1_delay q1_odds q1_clock q1_hasWeeks q1_happenings_many q1_happenings_cells) H → va_D A (wd_X5_greatestBut E a_o a_o_worth a_q1 a_q1_streets a_q1_names a_q1_extras a_q1_happenings a_q1_watchers a_q1_weeks a_q1_happenings_cells q1_wage q1_delay q1_odds q1_clock q1_hasWeeks q1_happenings_many q1_happenings_cells) → va_S A s.heap H locs → lv_has ls 5 [(1, .ref a_q1), (2, .int v2), (3, .int v3), (4, .int v4)] → W p l e (rmd 2) s m aa below meth cd H locs 0 0 QQ (F0 m 55 ls []) := by
      intro v3 v4 H locs ls hf hP hD hS hl
      unfold X5_greatestBut_j55 at hf
      refine lv_iinc (v := (v4 + 1)) (lv' := [(4, .int (v4 + 1)), (1, .ref a_q1), (2, .int v2), (3, .int v3)]) hx hb dX5_greatestBut_55 hl (k := 3) rfl rfl (by decide) rfl (fun ls hl => ?_)
      refine lv_goto (tgt := 5) hx hb dX5_greatestBut_58 (by decide) ?_
      exact hk5 _ (Option.some.inj hf).symm _ _ _ hP hD hS (lv_sub hl [1, 2, 3, 0] rfl)
    unfold X5_greatestBut_b5 at hf
    refine lv_iload hx hb dX5_greatestBut_5 (lv_at hl 3 rfl) ?_
    refine lv_aload_n hx hb dX5_greatestBut_7 rfl (lv_at hl 0 rfl) ?_
    refine va_get (D := E.1) (ci := 0) (v := .ref a_q1_happenings) (C := RX0) (T := TX0) (N := 11) hx hb hts inX0 hown hK hP 1 rfl rfl 8 (by decide) (hts _ fl_X5_17) (fun _ h9 => h9) rfl dX5_greatestBut_8 ?_
    refine va_get (D := E.1) (ci := 7) (v := .int q1_happenings_many) (C := RX7) (T := TX7) (N := 3) hx hb hts inX7 hown hK hP 2 rfl rfl 2 (by decide) (hts _ fl_X5_23) (fun _ h9 => h9) rfl dX5_greatestBut_11 ?_
    refine lv_icmp_ge (tgt := 61) hx hb dX5_greatestBut_14 (by decide) (fun hc => ?_) (fun hc => ?_)
    · have hf := it_t hc hf
      exact he5 _ (Option.some.inj hf).symm _ _ _ hP hD hS (lv_sub hl [2] rfl)
    · have hf := it_f hc hf
      refine lv_aload_n hx hb dX5_greatestBut_17 rfl (lv_at hl 0 rfl) ?_
      refine lv_iload hx hb dX5_greatestBut_18 (lv_at hl 3 rfl) ?_
      obtain ⟨u20, hu20, hf⟩ := bd hf
      refine keepVI (ct_X0_isToCome l E a_q1 a_q1_streets a_q1_names a_q1_extras a_q1_happenings a_q1_watchers a_q1_weeks a_q1_happenings_cells q1_wage q1_delay q1_odds q1_clock q1_hasWeeks q1_happenings_many q1_happenings_cells st5.2 u20 hu20) [1, 2, 3] cal_X0_isToCome cav_X0_isToCome lk_X5_29 cx hP hD hS hl dX5_greatestBut_20 rfl rfl rfl rfl (Nat.le_of_ble_eq_true rfl) ⟨Nat.le_of_ble_eq_true rfl, Nat.le_of_ble_eq_true rfl⟩ rfl (by decide) (fun H locs hP hS => ?_)
      refine lv_if_eq (tgt := 55) hx hb dX5_greatestBut_23 (by decide) (fun hc => ?_) (fun hc => ?_)
      · have hf := it_t hc hf
        exact hj55 _ _ _ _ _ hf hP hD hS (lv_sub hl [0, 1, 2, 3] rfl)
      · have hf := it_f hc hf
        refine lv_aload_n hx hb dX5_greatestBut_26 rfl (lv_at hl 0 rfl) ?_
        refine va_get (D := E.1) (ci := 0) (v := .ref a_q1_happenings) (C := RX0) (T := TX0) (N := 11) hx hb hts inX0 hown hK hP 1 rfl rfl 8 (by decide) (hts _ fl_X5_17) (fun _ h9 => h9) rfl dX5_greatestBut_27 ?_
        refine lv_iload hx hb dX5_greatestBut_30 (lv_at hl 3 rfl) ?_
        refine lv_iconst (v := 0) hx hb dX5_greatestBut_32 (by decide) ?_
        obtain ⟨u33, hu33, hf⟩ := bd hf
        refine keepVI (ct_X7_get l E a_q1_happenings a_q1_happenings_cells 40 5 q1_happenings_many q1_happenings_cells st5.2 (0 : Int32) u33 hu33) [2, 3] cal_X7_get cav_X7_get lk_X5_33 cx hP hD hS hl dX5_greatestBut_33 rfl rfl rfl rfl (Nat.le_of_ble_eq_true rfl) ⟨Nat.le_of_ble_eq_true rfl, Nat.le_of_ble_eq_true rfl⟩ rfl (by decide) (fun H locs hP hS => ?_)
        refine lv_iload_n hx hb dX5_greatestBut_36 rfl (lv_at hl 1 rfl) ?_
        refine lv_icmp_eq (tgt := 55) hx hb dX5_greatestBut_37 (by decide) (fun hc => ?_) (fun hc => ?_)
        · have hf := it_t hc hf
          exact hj55 _ _ _ _ _ hf hP hD hS (lv_sub hl [0, 1, 2, 3] rfl)
        · have hf := it_f hc hf
          refine lv_iload_n hx hb dX5_greatestBut_40 rfl (lv_at hl 2 rfl) ?_
          refine lv_aload_n hx hb dX5_greatestBut_41 rfl (lv_at hl 0 rfl) ?_
          refine va_get (D := E.1) (ci := 0) (v := .ref a_q1_happenings) (C := RX0) (T := TX0) (N := 11) hx hb hts inX0 hown hK hP 1 rfl rfl 8 (by decide) (hts _ fl_X5_17) (fun _ h9 => h9) rfl dX5_greatestBut_42 ?_
          refine lv_iload hx hb dX5_greatestBut_45 (lv_at hl 3 rfl) ?_
          refine lv_iconst (v := 2) hx hb dX5_greatestBut_47 (by decide) ?_
          obtain ⟨u48, hu48, hf⟩ := bd hf
          refine keepVI (ct_X7_get l E a_q1_happenings a_q1_happenings_cells 40 5 q1_happenings_many q1_happenings_cells st5.2 (2 : Int32) u48 hu48) [2, 3] cal_X7_get cav_X7_get lk_X5_33 cx hP hD hS hl dX5_greatestBut_48 rfl rfl rfl rfl (Nat.le_of_ble_eq_true rfl) ⟨Nat.le_of_ble_eq_true rfl, Nat.le_of_ble_eq_true rfl⟩ rfl (by decide) (fun H locs hP hS => ?_)
          obtain ⟨u51, hu51, hf⟩ := bd hf
          refine keepSI (ct_J9_max_7cf53 l E st5.1 u48 u51 hu51) [] cal_J9_max_7cf53 sta_J9_max_7cf53 lk_X5_37 cx hP hD hS hl dX5_greatestBut_51 rfl rfl (Nat.le_of_ble_eq_true rfl) ⟨Nat.le_of_ble_eq_true rfl, Nat.le_of_ble_eq_true rfl⟩ rfl (by decide) (fun H locs hP hS => ?_)
          refine lv_istore_n (lv' := [(3, .int u51), (1, .ref a_q1), (2, .int v2), (4, .int st5.2)]) hx hb dX5_greatestBut_54 rfl hl (by decide) rfl (fun ls hl => ?_)
          exact hj55 _ _ _ _ _ hf hP hD hS (lv_sub hl [1, 2, 0, 3] rfl)
  · refine fun H locs ls hP hD hS hl => ?_
    refine lv_iload_n hx hb dX5_greatestBut_61 rfl (lv_at hl 0 rfl) ?_
    obtain rfl := Option.some.inj hf
    subst hq
    exact retI cx hP hD hS dX5_greatestBut_62
def X5_bestPost_j45 (F : Nat) (q1_streets_corners : Int32) (q1_happenings_many : Int32) (q1_happenings_cells : Nat → Int32) (v2 : Int32) (v3 : Int32) (v4 : Int32) : Option ((Int32 × Int32 × Int32) ⊕ ((Int32))) :=
  some (.inl (v2, v3, (v4 + 1)))
def X5_bestPost_j39 (F : Nat) (q1_streets_corners : Int32) (q1_happenings_many : Int32) (q1_happenings_cells : Nat → Int32) (v4 : Int32) (v5 : Int32) : Option ((Int32 × Int32 × Int32) ⊕ ((Int32))) :=
  X5_bestPost_j45 F q1_streets_corners q1_happenings_many q1_happenings_cells v4 v5 v4
def X5_bestPost_b7 (F : Nat) (q1_streets_corners : Int32) (q1_happenings_many : Int32) (q1_happenings_cells : Nat → Int32) (st7 : Int32 × Int32 × Int32) : Option ((Int32 × Int32 × Int32) ⊕ ((Int32))) :=
  if q1_streets_corners ≤ st7.2.2 then
  some (.inr st7.1)
  else
  (X5_greatestBut F q1_happenings_many q1_happenings_cells st7.2.2).bind fun u23 =>
  if st7.1 = (-1) then
  X5_bestPost_j39 F q1_streets_corners q1_happenings_many q1_happenings_cells st7.2.2 u23
  else
  if st7.2.1 ≤ u23 then
  X5_bestPost_j45 F q1_streets_corners q1_happenings_many q1_happenings_cells st7.1 st7.2.1 st7.2.2
  else
  X5_bestPost_j39 F q1_streets_corners q1_happenings_many q1_happenings_cells st7.2.2 u23
def X5_bestPost (F : Nat) (q1_streets_corners : Int32) (q1_happenings_many : Int32) (q1_happenings_cells : Nat → Int32) : Option (Int32) :=
  (iter (X5_bestPost_b7 F q1_streets_corners q1_happenings_many q1_happenings_cells) F ((-1), 0, 0)).bind (fun (e7 : Int32) =>
    some e7)
abbrev wd_X5_bestPost (E : vE) (a_o a_o_worth a_q1 a_q1_streets a_q1_names a_q1_extras a_q1_happenings a_q1_watchers a_q1_weeks a_q1_streets_roads a_q1_streets_takes a_q1_streets_hours a_q1_happenings_cells : Nat) (q1_wage : Int32) (q1_delay : Int32) (q1_odds : Int32) (q1_clock : Int32) (q1_hasWeeks : Int32) (q1_streets_corners : Int32) (q1_happenings_many : Int32) (q1_happenings_cells : Nat → Int32) : va_W := [(a_o, .inr (5, [.ref a_o_worth])), (a_q1, .inr (0, [.int q1_wage, .int q1_delay, .int q1_odds, .int q1_clock, .int q1_hasWeeks, .ref a_q1_streets, .ref a_q1_names, .ref a_q1_extras, .ref a_q1_happenings, .ref a_q1_watchers, .ref a_q1_weeks])), (a_q1_streets, .inr (6, [.int q1_streets_corners, .ref a_q1_streets_roads, .ref a_q1_streets_takes, .ref a_q1_streets_hours])), (a_q1_happenings, .inr (7, [.int 5, .ref a_q1_happenings_cells, .int q1_happenings_many])), (a_q1_happenings_cells, .inl (E.2.1, 40, .inl q1_happenings_cells))]
set_option maxHeartbeats 4000000 in
set_option maxRecDepth 100000 in
theorem ct_X5_bestPost (l : Launch) (E : vE) (F : Nat) (a_o a_o_worth a_q1 a_q1_streets a_q1_names a_q1_extras a_q1_happenings a_q1_watchers a_q1_weeks a_q1_streets_roads a_q1_streets_takes a_q1_streets_hours a_q1_happenings_cells : Nat) (q1_wage : Int32) (q1_delay : Int32) (q1_odds : Int32) (q1_clock : Int32) (q1_hasWeeks : Int32) (q1_streets_corners : Int32) (q1_happenings_many : Int32) (q1_happenings_cells : Nat → Int32) (u : Int32) (hf : X5_bestPost F q1_streets_corners q1_happenings_many q1_happenings_cells = some u) :
    CtI l yX5_bestPost cX5_bestPost 6 (some .int) 3 E [.ref a_o, .ref a_q1] (wd_X5_bestPost E a_o a_o_worth a_q1 a_q1_streets a_q1_names a_q1_extras a_q1_happenings a_q1_watchers a_q1_weeks a_q1_streets_roads a_q1_streets_takes a_q1_streets_hours a_q1_happenings_cells q1_wage q1_delay q1_odds q1_clock q1_hasWeeks q1_streets_corners q1_happenings_many q1_happenings_cells) (wd_X5_bestPost E a_o a_o_worth a_q1 a_q1_streets a_q1_names a_q1_extras a_q1_happenings a_q1_watchers a_q1_weeks a_q1_streets_roads a_q1_streets_takes a_q1_streets_hours a_q1_happenings_cells q1_wage q1_delay q1_odds q1_clock q1_hasWeeks q1_streets_corners q1_happenings_many q1_happenings_cells) u := by
  refine ctI (by decide) (Nat.le_of_ble_eq_true rfl) ?_
  intro p e s m below meth cd A ls aa QQ hq cx hP hD hS hl
  obtain ⟨⟨hx, hb, hml, hown, hts⟩, hr, hlocks, hK, hA, hX⟩ := id cx
  have hl : lv_has ls 6 [(0, .ref a_o), (1, .ref a_q1)] := hl
  unfold X5_bestPost at hf
  refine lv_iconst (v := (-1)) hx hb dX5_bestPost_0 (by decide) ?_
  refine lv_istore_n (lv' := [(2, .int (-1)), (0, .ref a_o), (1, .ref a_q1)]) hx hb dX5_bestPost_1 rfl hl (by decide) rfl (fun ls hl => ?_)
  refine lv_iconst (v := 0) hx hb dX5_bestPost_2 (by decide) ?_
  refine lv_istore_n (lv' := [(3, .int 0), (2, .int (-1)), (0, .ref a_o), (1, .ref a_q1)]) hx hb dX5_bestPost_3 rfl hl (by decide) rfl (fun ls hl => ?_)
  refine lv_iconst (v := 0) hx hb dX5_bestPost_4 (by decide) ?_
  refine lv_istore (lv' := [(4, .int 0), (3, .int 0), (2, .int (-1)), (0, .ref a_o), (1, .ref a_q1)]) hx hb dX5_bestPost_5 hl (by decide) rfl (fun ls hl => ?_)
  obtain ⟨e7, hit7, hf⟩ := bd hf
  refine iter_W (b := X5_bestPost_b7 F q1_streets_corners q1_happenings_many q1_happenings_cells) (P := fun st7 => ∀ (H : Heap) (locs : List Loc) (ls : Array Slot), va_P E.1 vwCl (wd_X5_bestPost E a_o a_o_worth a_q1 a_q1_streets a_q1_names a_q1_extras a_q1_happenings a_q1_watchers a_q1_weeks a_q1_streets_roads a_q1_streets_takes a_q1_streets_hours a_q1_happenings_cells q1_wage q1_delay q1_odds q1_clock q1_hasWeeks q1_streets_corners q1_happenings_many q1_happenings_cells) H → va_D A (wd_X5_bestPost E a_o a_o_worth a_q1 a_q1_streets a_q1_names a_q1_extras a_q1_happenings a_q1_watchers a_q1_weeks a_q1_streets_roads a_q1_streets_takes a_q1_streets_hours a_q1_happenings_cells q1_wage q1_delay q1_odds q1_clock q1_hasWeeks q1_streets_corners q1_happenings_many q1_happenings_cells) → va_S A s.heap H locs → lv_has ls 6 [(0, .ref a_o), (1, .ref a_q1), (2, .int st7.1), (3, .int st7.2.1), (4, .int st7.2.2)] → W p l e (rmd 3) s m aa below meth cd H locs 0 0 QQ (F0 m 7 ls [])) (G := (fun (e7 : Int32) => ∀ (H : Heap) (locs : List Loc) (ls : Array Slot), va_P E.1 vwCl (wd_X5_bestPost E a_o a_o_worth a_q1 a_q1_streets a_q1_names a_q1_extras a_q1_happenings a_q1_watchers a_q1_weeks a_q1_streets_roads a_q1_streets_takes a_q1_streets_hours a_q1_happenings_cells q1_wage q1_delay q1_odds q1_clock q1_hasWeeks q1_streets_corners q1_happenings_many q1_happenings_cells) H → va_D A (wd_X5_bestPost E a_o a_o_worth a_q1 a_q1_streets a_q1_names a_q1_extras a_q1_happenings a_q1_watchers a_q1_weeks a_q1_streets_roads a_q1_streets_takes a_q1_streets_hours a_q1_happenings_cells q1_wage q1_delay q1_odds q1_clock q1_hasWeeks q1_streets_corners q1_happenings_many q1_happenings_cells) → va_S A s.heap H locs → lv_has ls 6 [(2, .int e7)] → W p l e (rmd 3) s m aa below meth cd H locs 0 0 QQ (F0 m 51 ls []))) ?_ F ((-1), 0, 0) e7 hit7 ?_ _ _ _ hP hD hS (lv_sub hl [3, 4, 2, 1, 0] rfl)
  · intro st7 r7 hf hk7 he7 H locs ls hP hD hS hl
    have hj45 : ∀ (v2 : Int32) (v3 : Int32) (v4 : Int32) (H : Heap) (locs : List Loc) (ls : Array Slot), X5_bestPost_j45 F q1_streets_corners q1_happenings_many q1_happenings_cells v2 v3 v4 = some r7 → va_P E.1 vwCl (wd_X5_bestPost E a_o a_o_worth a_q1 a_q1_streets a_q1_names a_q1_extras a_q1_happenings a_q1_watchers a_q1_weeks a_q1_streets_roads a_q1_streets_takes a_q1_streets_hours a_q1_happenings_cells q1_wage q1_delay q1_odds q1_clock q1_hasWeeks q1_streets_corners q1_happenings_many q1_happenings_cells) H → va_D A (wd_X5_bestPost E a_o a_o_worth a_q1 a_q1_streets a_q1_names a_q1_extras a_q1_happenings a_q1_watchers a_q1_weeks a_q1_streets_roads a_q1_streets_takes a_q1_streets_hours a_q1_happenings_cells q1_wage q1_delay q1_odds q1_clock q1_hasWeeks q1_streets_corners q1_happenings_many q1_happenings_cells) → va_S A s.heap H locs → lv_has ls 6 [(0, .ref a_o), (1, .ref a_q1), (2, .int v2), (3, .int v3), (4, .int v4)] → W p l e (rmd 3) s m aa below meth cd H locs 0 0 QQ (F0 m 45 ls []) := by
      intro v2 v3 v4 H locs ls hf hP hD hS hl
      unfold X5_bestPost_j45 at hf
      refine lv_iinc (v := (v4 + 1)) (lv' := [(4, .int (v4 + 1)), (0, .ref a_o), (1, .ref a_q1), (2, .int v2), (3, .int v3)]) hx hb dX5_bestPost_45 hl (k := 4) rfl rfl (by decide) rfl (fun ls hl => ?_)
      refine lv_goto (tgt := 7) hx hb dX5_bestPost_48 (by decide) ?_
      exact hk7 _ (Option.some.inj hf).symm _ _ _ hP hD hS (lv_sub hl [1, 2, 3, 4, 0] rfl)
    have hj39 : ∀ (v4 : Int32) (v5 : Int32) (H : Heap) (locs : List Loc) (ls : Array Slot), X5_bestPost_j39 F q1_streets_corners q1_happenings_many q1_happenings_cells v4 v5 = some r7 → va_P E.1 vwCl (wd_X5_bestPost E a_o a_o_worth a_q1 a_q1_streets a_q1_names a_q1_extras a_q1_happenings a_q1_watchers a_q1_weeks a_q1_streets_roads a_q1_streets_takes a_q1_streets_hours a_q1_happenings_cells q1_wage q1_delay q1_odds q1_clock q1_hasWeeks q1_streets_corners q1_happenings_many q1_happenings_cells) H → va_D A (wd_X5_bestPost E a_o a_o_worth a_q1 a_q1_streets a_q1_names a_q1_extras a_q1_happenings a_q1_watchers a_q1_weeks a_q1_streets_roads a_q1_streets_takes a_q1_streets_hours a_q1_happenings_cells q1_wage q1_delay q1_odds q1_clock q1_hasWeeks q1_streets_corners q1_happenings_many q1_happenings_cells) → va_S A s.heap H locs → lv_has ls 6 [(0, .ref a_o), (1, .ref a_q1), (4, .int v4), (5, .int v5)] → W p l e (rmd 3) s m aa below meth cd H locs 0 0 QQ (F0 m 39 ls []) := by
      intro v4 v5 H locs ls hf hP hD hS hl
      unfold X5_bestPost_j39 at hf
      refine lv_iload hx hb dX5_bestPost_39 (lv_at hl 2 rfl) ?_
      refine lv_istore_n (lv' := [(2, .int v4), (0, .ref a_o), (1, .ref a_q1), (4, .int v4), (5, .int v5)]) hx hb dX5_bestPost_41 rfl hl (by decide) rfl (fun ls hl => ?_)
      refine lv_iload hx hb dX5_bestPost_42 (lv_at hl 4 rfl) ?_
      refine lv_istore_n (lv' := [(3, .int v5), (2, .int v4), (0, .ref a_o), (1, .ref a_q1), (4, .int v4), (5, .int v5)]) hx hb dX5_bestPost_44 rfl hl (by decide) rfl (fun ls hl => ?_)
      exact hj45 _ _ _ _ _ _ hf hP hD hS (lv_sub hl [2, 3, 1, 0, 4] rfl)
    unfold X5_bestPost_b7 at hf
    refine lv_iload hx hb dX5_bestPost_7 (lv_at hl 4 rfl) ?_
    refine lv_aload_n hx hb dX5_bestPost_9 rfl (lv_at hl 1 rfl) ?_
    refine va_get (D := E.1) (ci := 0) (v := .ref a_q1_streets) (C := RX0) (T := TX0) (N := 11) hx hb hts inX0 hown hK hP 1 rfl rfl 5 (by decide) (hts _ fl_X5_42) (fun _ h9 => h9) rfl dX5_bestPost_10 ?_
    refine va_get (D := E.1) (ci := 6) (v := .int q1_streets_corners) (C := RX6) (T := TX6) (N := 4) hx hb hts inX6 hown hK hP 2 rfl rfl 0 (by decide) (hts _ fl_X5_46) (fun _ h9 => h9) rfl dX5_bestPost_13 ?_
    refine lv_icmp_ge (tgt := 51) hx hb dX5_bestPost_16 (by decide) (fun hc => ?_) (fun hc => ?_)
    · have hf := it_t hc hf
      exact he7 _ (Option.some.inj hf).symm _ _ _ hP hD hS (lv_sub hl [2] rfl)
    · have hf := it_f hc hf
      refine lv_aload_n hx hb dX5_bestPost_19 rfl (lv_at hl 0 rfl) ?_
      refine lv_aload_n hx hb dX5_bestPost_20 rfl (lv_at hl 1 rfl) ?_
      refine lv_iload hx hb dX5_bestPost_21 (lv_at hl 4 rfl) ?_
      obtain ⟨u23, hu23, hf⟩ := bd hf
      refine keepVI (ct_X5_greatestBut l E F a_o a_o_worth a_q1 a_q1_streets a_q1_names a_q1_extras a_q1_happenings a_q1_watchers a_q1_weeks a_q1_happenings_cells q1_wage q1_delay q1_odds q1_clock q1_hasWeeks q1_happenings_many q1_happenings_cells st7.2.2 u23 hu23) [0, 1, 3, 4] cal_X5_greatestBut cav_X5_greatestBut lk_X5_49 cx hP hD hS hl dX5_bestPost_23 rfl rfl rfl rfl (Nat.le_of_ble_eq_true rfl) ⟨Nat.le_of_ble_eq_true rfl, Nat.le_of_ble_eq_true rfl⟩ rfl (by decide) (fun H locs hP hS => ?_)
      refine lv_istore (lv' := [(5, .int u23), (0, .ref a_o), (1, .ref a_q1), (2, .int st7.1), (3, .int st7.2.1), (4, .int st7.2.2)]) hx hb dX5_bestPost_26 hl (by decide) rfl (fun ls hl => ?_)
      refine lv_iload_n hx hb dX5_bestPost_28 rfl (lv_at hl 3 rfl) ?_
      refine lv_iconst (v := (-1)) hx hb dX5_bestPost_29 (by decide) ?_
      refine lv_icmp_eq (tgt := 39) hx hb dX5_bestPost_30 (by decide) (fun hc => ?_) (fun hc => ?_)
      · have hf := it_t hc hf
        exact hj39 _ _ _ _ _ hf hP hD hS (lv_sub hl [1, 2, 5, 0] rfl)
      · have hf := it_f hc hf
        refine lv_iload hx hb dX5_bestPost_33 (lv_at hl 0 rfl) ?_
        refine lv_iload_n hx hb dX5_bestPost_35 rfl (lv_at hl 4 rfl) ?_
        refine lv_icmp_ge (tgt := 45) hx hb dX5_bestPost_36 (by decide) (fun hc => ?_) (fun hc => ?_)
        · have hf := it_t hc hf
          exact hj45 _ _ _ _ _ _ hf hP hD hS (lv_sub hl [1, 2, 3, 4, 5] rfl)
        · have hf := it_f hc hf
          exact hj39 _ _ _ _ _ hf hP hD hS (lv_sub hl [1, 2, 5, 0] rfl)
  · refine fun H locs ls hP hD hS hl => ?_
    refine lv_iload_n hx hb dX5_bestPost_51 rfl (lv_at hl 0 rfl) ?_
    obtain rfl := Option.some.inj hf
    subst hq
    exact retI cx hP hD hS dX5_bestPost_52
def X5_forget_b2 (F : Nat) (st2 : Int32 × (Nat → Int32)) : Option ((Int32 × (Nat → Int32)) ⊕ (((Nat → Int32)))) :=
  if (4096 : Int32) ≤ st2.1 then
  some (.inr st2.2)
  else
  if ix st2.1 4096 then
  some (.inl ((st2.1 + 1), (jput st2.2 st2.1 (-1))))
  else none
def X5_forget (F : Nat) (o_worth : Nat → Int32) : Option ((Nat → Int32)) :=
  (iter (X5_forget_b2 F) F (0, o_worth)).bind (fun (e2 : (Nat → Int32)) =>
    some e2)
abbrev wd_X5_forget (E : vE) (a_o a_o_worth : Nat) (o_worth : Nat → Int32) : va_W := [(a_o, .inr (5, [.ref a_o_worth])), (a_o_worth, .inl (E.2.1, 4096, .inl o_worth))]
set_option maxHeartbeats 4000000 in
set_option maxRecDepth 100000 in
theorem ct_X5_forget (l : Launch) (E : vE) (F : Nat) (a_o a_o_worth : Nat) (o_worth : Nat → Int32) (u : (Nat → Int32)) (hf : X5_forget F o_worth = some u) :
    CtV l yX5_forget cX5_forget 2 none 0 E [.ref a_o] (wd_X5_forget E a_o a_o_worth o_worth) (wd_X5_forget E a_o a_o_worth u) := by
  refine ctV (by decide) (Nat.le_of_ble_eq_true rfl) ?_
  intro p e s m below meth cd A ls aa QQ hq cx hP hD hS hl
  obtain ⟨⟨hx, hb, hml, hown, hts⟩, hr, hlocks, hK, hA, hX⟩ := id cx
  have hl : lv_has ls 2 [(0, .ref a_o)] := hl
  unfold X5_forget at hf
  refine lv_iconst (v := 0) hx hb dX5_forget_0 (by decide) ?_
  refine lv_istore_n (lv' := [(1, .int 0), (0, .ref a_o)]) hx hb dX5_forget_1 rfl hl (by decide) rfl (fun ls hl => ?_)
  obtain ⟨e2, hit2, hf⟩ := bd hf
  refine iter_W (b := X5_forget_b2 F) (P := fun st2 => ∀ (H : Heap) (locs : List Loc) (ls : Array Slot), va_P E.1 vwCl (wd_X5_forget E a_o a_o_worth st2.2) H → va_D A (wd_X5_forget E a_o a_o_worth st2.2) → va_S A s.heap H locs → lv_has ls 2 [(0, .ref a_o), (1, .int st2.1)] → W p l e (rmd 0) s m aa below meth cd H locs 0 0 QQ (F0 m 2 ls [])) (G := (fun (e2 : (Nat → Int32)) => ∀ (H : Heap) (locs : List Loc) (ls : Array Slot), va_P E.1 vwCl (wd_X5_forget E a_o a_o_worth e2) H → va_D A (wd_X5_forget E a_o a_o_worth e2) → va_S A s.heap H locs → lv_has ls 2 [] → W p l e (rmd 0) s m aa below meth cd H locs 0 0 QQ (F0 m 24 ls []))) ?_ F (0, o_worth) e2 hit2 ?_ _ _ _ hP hD hS (lv_sub hl [1, 0] rfl)
  · intro st2 r2 hf hk2 he2 H locs ls hP hD hS hl
    unfold X5_forget_b2 at hf
    refine lv_iload_n hx hb dX5_forget_2 rfl (lv_at hl 1 rfl) ?_
    refine lv_aload_n hx hb dX5_forget_3 rfl (lv_at hl 0 rfl) ?_
    refine va_get (D := E.1) (ci := 5) (v := .ref a_o_worth) (C := RX5) (T := TX5) (N := 1) hx hb hts inX5 hown hK hP 0 rfl rfl 0 (by decide) (hts _ fl_X5_13) (fun _ h9 => h9) rfl dX5_forget_4 ?_
    refine va_alen (v := 4096) hx hb hK hP 1 0 rfl rfl (by decide) dX5_forget_7 ?_
    refine lv_icmp_ge (tgt := 24) hx hb dX5_forget_8 (by decide) (fun hc => ?_) (fun hc => ?_)
    · have hf := it_t hc hf
      exact he2 _ (Option.some.inj hf).symm _ _ _ hP hD hS (lv_sub hl [] rfl)
    · have hf := it_f hc hf
      refine lv_aload_n hx hb dX5_forget_11 rfl (lv_at hl 0 rfl) ?_
      refine va_get (D := E.1) (ci := 5) (v := .ref a_o_worth) (C := RX5) (T := TX5) (N := 1) hx hb hts inX5 hown hK hP 0 rfl rfl 0 (by decide) (hts _ fl_X5_13) (fun _ h9 => h9) rfl dX5_forget_12 ?_
      refine lv_iload_n hx hb dX5_forget_15 rfl (lv_at hl 1 rfl) ?_
      refine lv_iconst (v := (-1)) hx hb dX5_forget_16 (by decide) ?_
      obtain ⟨hi, hf⟩ := ck hf
      refine r_iast 1 cx hP hD hS rfl hi dX5_forget_17 (fun H locs hP hD hS => ?_)
      have hP : va_P E.1 vwCl (wd_X5_forget E a_o a_o_worth (jput st2.2 st2.1 (-1))) H := hP
      have hD : va_D A (wd_X5_forget E a_o a_o_worth (jput st2.2 st2.1 (-1))) := hD
      refine lv_iinc (v := (st2.1 + 1)) (lv' := [(1, .int (st2.1 + 1)), (0, .ref a_o)]) hx hb dX5_forget_18 hl (k := 1) rfl rfl (by decide) rfl (fun ls hl => ?_)
      refine lv_goto (tgt := 2) hx hb dX5_forget_21 (by decide) ?_
      exact hk2 _ (Option.some.inj hf).symm _ _ _ hP hD hS (lv_sub hl [1, 0] rfl)
  · refine fun H locs ls hP hD hS hl => ?_
    obtain rfl := Option.some.inj hf
    subst hq
    exact retV cx hP hD hS dX5_forget_24
def X5_canMove_j17 (q0_streets_takes : Nat → Int32) : Option (Int32) :=
  some 1
def X5_canMove (q0_streets_takes : Nat → Int32) (v1 : Int32) (v2 : Int32) : Option (Int32) :=
  if v1 = v2 then
  X5_canMove_j17 q0_streets_takes
  else
  (X6_takesBetween q0_streets_takes v1 v2).bind fun u11 =>
  if u11 ≤ 0 then
  some 0
  else
  X5_canMove_j17 q0_streets_takes
abbrev wd_X5_canMove (E : vE) (a_q0 a_q0_streets a_q0_names a_q0_extras a_q0_happenings a_q0_watchers a_q0_weeks a_q0_streets_roads a_q0_streets_takes a_q0_streets_hours : Nat) (q0_wage : Int32) (q0_delay : Int32) (q0_odds : Int32) (q0_clock : Int32) (q0_hasWeeks : Int32) (q0_streets_corners : Int32) (q0_streets_takes : Nat → Int32) : va_W := [(a_q0, .inr (0, [.int q0_wage, .int q0_delay, .int q0_odds, .int q0_clock, .int q0_hasWeeks, .ref a_q0_streets, .ref a_q0_names, .ref a_q0_extras, .ref a_q0_happenings, .ref a_q0_watchers, .ref a_q0_weeks])), (a_q0_streets, .inr (6, [.int q0_streets_corners, .ref a_q0_streets_roads, .ref a_q0_streets_takes, .ref a_q0_streets_hours])), (a_q0_streets_takes, .inl (E.2.1, 64, .inl q0_streets_takes))]
set_option maxHeartbeats 4000000 in
set_option maxRecDepth 100000 in
theorem ct_X5_canMove (l : Launch) (E : vE) (a_q0 a_q0_streets a_q0_names a_q0_extras a_q0_happenings a_q0_watchers a_q0_weeks a_q0_streets_roads a_q0_streets_takes a_q0_streets_hours : Nat) (q0_wage : Int32) (q0_delay : Int32) (q0_odds : Int32) (q0_clock : Int32) (q0_hasWeeks : Int32) (q0_streets_corners : Int32) (q0_streets_takes : Nat → Int32) (v1 : Int32) (v2 : Int32) (u : Int32) (hf : X5_canMove q0_streets_takes v1 v2 = some u) :
    CtI l yX5_canMove cX5_canMove 3 (some .boolean) 2 E [.ref a_q0, .int v1, .int v2] (wd_X5_canMove E a_q0 a_q0_streets a_q0_names a_q0_extras a_q0_happenings a_q0_watchers a_q0_weeks a_q0_streets_roads a_q0_streets_takes a_q0_streets_hours q0_wage q0_delay q0_odds q0_clock q0_hasWeeks q0_streets_corners q0_streets_takes) (wd_X5_canMove E a_q0 a_q0_streets a_q0_names a_q0_extras a_q0_happenings a_q0_watchers a_q0_weeks a_q0_streets_roads a_q0_streets_takes a_q0_streets_hours q0_wage q0_delay q0_odds q0_clock q0_hasWeeks q0_streets_corners q0_streets_takes) u := by
  refine ctI (by decide) (Nat.le_of_ble_eq_true rfl) ?_
  intro p e s m below meth cd A ls aa QQ hq cx hP hD hS hl
  obtain ⟨⟨hx, hb, hml, hown, hts⟩, hr, hlocks, hK, hA, hX⟩ := id cx
  have hl : lv_has ls 3 [(0, .ref a_q0), (1, .int v1), (2, .int v2)] := hl
  have hj17 : ∀ (H : Heap) (locs : List Loc) (ls : Array Slot), X5_canMove_j17 q0_streets_takes = some u → va_P E.1 vwCl (wd_X5_canMove E a_q0 a_q0_streets a_q0_names a_q0_extras a_q0_happenings a_q0_watchers a_q0_weeks a_q0_streets_roads a_q0_streets_takes a_q0_streets_hours q0_wage q0_delay q0_odds q0_clock q0_hasWeeks q0_streets_corners q0_streets_takes) H → va_D A (wd_X5_canMove E a_q0 a_q0_streets a_q0_names a_q0_extras a_q0_happenings a_q0_watchers a_q0_weeks a_q0_streets_roads a_q0_streets_takes a_q0_streets_hours q0_wage q0_delay q0_odds q0_clock q0_hasWeeks q0_streets_corners q0_streets_takes) → va_S A s.heap H locs → lv_has ls 3 [] → W p l e (rmd 2) s m aa below meth cd H locs 0 0 QQ (F0 m 17 ls []) := by
    intro H locs ls hf hP hD hS hl
    unfold X5_canMove_j17 at hf
    refine lv_iconst (v := 1) hx hb dX5_canMove_17 (by decide) ?_
    refine lv_goto (tgt := 22) hx hb dX5_canMove_18 (by decide) ?_
    obtain rfl := Option.some.inj hf
    subst hq
    exact retZ cx rfl hP hD hS dX5_canMove_22
  unfold X5_canMove at hf
  refine lv_iload_n hx hb dX5_canMove_0 rfl (lv_at hl 1 rfl) ?_
  refine lv_iload_n hx hb dX5_canMove_1 rfl (lv_at hl 2 rfl) ?_
  refine lv_icmp_eq (tgt := 17) hx hb dX5_canMove_2 (by decide) (fun hc => ?_) (fun hc => ?_)
  · have hf := it_t hc hf
    exact hj17  _ _ _ hf hP hD hS (lv_sub hl [] rfl)
  · have hf := it_f hc hf
    refine lv_aload_n hx hb dX5_canMove_5 rfl (lv_at hl 0 rfl) ?_
    refine va_get (D := E.1) (ci := 0) (v := .ref a_q0_streets) (C := RX0) (T := TX0) (N := 11) hx hb hts inX0 hown hK hP 0 rfl rfl 5 (by decide) (hts _ fl_X5_42) (fun _ h9 => h9) rfl dX5_canMove_6 ?_
    refine lv_iload_n hx hb dX5_canMove_9 rfl (lv_at hl 1 rfl) ?_
    refine lv_iload_n hx hb dX5_canMove_10 rfl (lv_at hl 2 rfl) ?_
    obtain ⟨u11, hu11, hf⟩ := bd hf
    refine keepVI (ct_X6_takesBetween l E a_q0_streets a_q0_streets_roads a_q0_streets_takes a_q0_streets_hours q0_streets_corners q0_streets_takes v1 v2 u11 hu11) [1, 2] cal_X6_takesBetween cav_X6_takesBetween lk_X5_67 cx hP hD hS hl dX5_canMove_11 rfl rfl rfl rfl (Nat.le_of_ble_eq_true rfl) ⟨Nat.le_of_ble_eq_true rfl, Nat.le_of_ble_eq_true rfl⟩ rfl (by decide) (fun H locs hP hS => ?_)
    refine lv_if_le (tgt := 21) hx hb dX5_canMove_14 (by decide) (fun hc => ?_) (fun hc => ?_)
    · have hf := it_t hc hf
      refine lv_iconst (v := 0) hx hb dX5_canMove_21 (by decide) ?_
      obtain rfl := Option.some.inj hf
      subst hq
      exact retZ cx rfl hP hD hS dX5_canMove_22
    · have hf := it_f hc hf
      exact hj17  _ _ _ hf hP hD hS (lv_sub hl [] rfl)
def X6_hoursToAll_j35 (F : Nat) (o_corners : Int32) (o_hours : Nat → Int32) (v1 : Int32) (v3 : Int32) (k0 : Int32) (k1 : Int32) : Option ((Int32 × Int32) ⊕ ((Int32))) :=
  some (.inl ((k1 + k0), (v3 + 1)))
def X6_hoursToAll_b4 (F : Nat) (o_corners : Int32) (o_hours : Nat → Int32) (v1 : Int32) (st4 : Int32 × Int32) : Option ((Int32 × Int32) ⊕ ((Int32))) :=
  if o_corners ≤ st4.2 then
  some (.inr st4.1)
  else
  (X6_hoursBetween o_hours v1 st4.2).bind fun u15 =>
  if u15 = (-1) then
  X6_hoursToAll_j35 F o_corners o_hours v1 st4.2 1000 st4.1
  else
  X6_hoursToAll_j35 F o_corners o_hours v1 st4.2 u15 st4.1
def X6_hoursToAll (F : Nat) (o_corners : Int32) (o_hours : Nat → Int32) (v1 : Int32) : Option (Int32) :=
  (iter (X6_hoursToAll_b4 F o_corners o_hours v1) F (0, 0)).bind (fun (e4 : Int32) =>
    some e4)
abbrev wd_X6_hoursToAll (E : vE) (a_o a_o_roads a_o_takes a_o_hours : Nat) (o_corners : Int32) (o_hours : Nat → Int32) : va_W := [(a_o, .inr (6, [.int o_corners, .ref a_o_roads, .ref a_o_takes, .ref a_o_hours])), (a_o_hours, .inl (E.2.1, 64, .inl o_hours))]
set_option maxHeartbeats 4000000 in
set_option maxRecDepth 100000 in
theorem ct_X6_hoursToAll (l : Launch) (E : vE) (F : Nat) (a_o a_o_roads a_o_takes a_o_hours : Nat) (o_corners : Int32) (o_hours : Nat → Int32) (v1 : Int32) (u : Int32) (hf : X6_hoursToAll F o_corners o_hours v1 = some u) :
    CtI l yX6_hoursToAll cX6_hoursToAll 5 (some .int) 2 E [.ref a_o, .int v1] (wd_X6_hoursToAll E a_o a_o_roads a_o_takes a_o_hours o_corners o_hours) (wd_X6_hoursToAll E a_o a_o_roads a_o_takes a_o_hours o_corners o_hours) u := by
  refine ctI (by decide) (Nat.le_of_ble_eq_true rfl) ?_
  intro p e s m below meth cd A ls aa QQ hq cx hP hD hS hl
  obtain ⟨⟨hx, hb, hml, hown, hts⟩, hr, hlocks, hK, hA, hX⟩ := id cx
  have hl : lv_has ls 5 [(0, .ref a_o), (1, .int v1)] := hl
  unfold X6_hoursToAll at hf
  refine lv_iconst (v := 0) hx hb dX6_hoursToAll_0 (by decide) ?_
  refine lv_istore_n (lv' := [(2, .int 0), (0, .ref a_o), (1, .int v1)]) hx hb dX6_hoursToAll_1 rfl hl (by decide) rfl (fun ls hl => ?_)
  refine lv_iconst (v := 0) hx hb dX6_hoursToAll_2 (by decide) ?_
  refine lv_istore_n (lv' := [(3, .int 0), (2, .int 0), (0, .ref a_o), (1, .int v1)]) hx hb dX6_hoursToAll_3 rfl hl (by decide) rfl (fun ls hl => ?_)
  obtain ⟨e4, hit4, hf⟩ := bd hf
  refine iter_W (b := X6_hoursToAll_b4 F o_corners o_hours v1) (P := fun st4 => ∀ (H : Heap) (locs : List Loc) (ls : Array Slot), va_P E.1 vwCl (wd_X6_hoursToAll E a_o a_o_roads a_o_takes a_o_hours o_corners o_hours) H → va_D A (wd_X6_hoursToAll E a_o a_o_roads a_o_takes a_o_hours o_corners o_hours) → va_S A s.heap H locs → lv_has ls 5 [(0, .ref a_o), (1, .int v1), (2, .int st4.1), (3, .int st4.2)] → W p l e (rmd 2) s m aa below meth cd H locs 0 0 QQ (F0 m 4 ls [])) (G := (fun (e4 : Int32) => ∀ (H : Heap) (locs : List Loc) (ls : Array Slot), va_P E.1 vwCl (wd_X6_hoursToAll E a_o a_o_roads a_o_takes a_o_hours o_corners o_hours) H → va_D A (wd_X6_hoursToAll E a_o a_o_roads a_o_takes a_o_hours o_corners o_hours) → va_S A s.heap H locs → lv_has ls 5 [(2, .int e4)] → W p l e (rmd 2) s m aa below meth cd H locs 0 0 QQ (F0 m 43 ls []))) ?_ F (0, 0) e4 hit4 ?_ _ _ _ hP hD hS (lv_sub hl [2, 3, 1, 0] rfl)
  · intro st4 r4 hf hk4 he4 H locs ls hP hD hS hl
    have hj35 : ∀ (v3 : Int32) (k0 : Int32) (k1 : Int32) (H : Heap) (locs : List Loc) (ls : Array Slot), X6_hoursToAll_j35 F o_corners o_hours v1 v3 k0 k1 = some r4 → va_P E.1 vwCl (wd_X6_hoursToAll E a_o a_o_roads a_o_takes a_o_hours o_corners o_hours) H → va_D A (wd_X6_hoursToAll E a_o a_o_roads a_o_takes a_o_hours o_corners o_hours) → va_S A s.heap H locs → lv_has ls 5 [(0, .ref a_o), (1, .int v1), (3, .int v3)] → W p l e (rmd 2) s m aa below meth cd H locs 0 0 QQ (F0 m 35 ls [.int k0, .int k1]) := by
      intro v3 k0 k1 H locs ls hf hP hD hS hl
      unfold X6_hoursToAll_j35 at hf
      refine lv_iadd hx hb dX6_hoursToAll_35 ?_
      refine lv_istore_n (lv' := [(2, .int (k1 + k0)), (0, .ref a_o), (1, .int v1), (3, .int v3)]) hx hb dX6_hoursToAll_36 rfl hl (by decide) rfl (fun ls hl => ?_)
      refine lv_iinc (v := (v3 + 1)) (lv' := [(3, .int (v3 + 1)), (2, .int (k1 + k0)), (0, .ref a_o), (1, .int v1)]) hx hb dX6_hoursToAll_37 hl (k := 3) rfl rfl (by decide) rfl (fun ls hl => ?_)
      refine lv_goto (tgt := 4) hx hb dX6_hoursToAll_40 (by decide) ?_
      exact hk4 _ (Option.some.inj hf).symm _ _ _ hP hD hS (lv_sub hl [2, 3, 1, 0] rfl)
    unfold X6_hoursToAll_b4 at hf
    refine lv_iload_n hx hb dX6_hoursToAll_4 rfl (lv_at hl 3 rfl) ?_
    refine lv_aload_n hx hb dX6_hoursToAll_5 rfl (lv_at hl 0 rfl) ?_
    refine va_get (D := E.1) (ci := 6) (v := .int o_corners) (C := RX6) (T := TX6) (N := 4) hx hb hts inX6 hown hK hP 0 rfl rfl 0 (by decide) (hts _ fl_X6_27) (fun _ h9 => h9) rfl dX6_hoursToAll_6 ?_
    refine lv_icmp_ge (tgt := 43) hx hb dX6_hoursToAll_9 (by decide) (fun hc => ?_) (fun hc => ?_)
    · have hf := it_t hc hf
      exact he4 _ (Option.some.inj hf).symm _ _ _ hP hD hS (lv_sub hl [2] rfl)
    · have hf := it_f hc hf
      refine lv_aload_n hx hb dX6_hoursToAll_12 rfl (lv_at hl 0 rfl) ?_
      refine lv_iload_n hx hb dX6_hoursToAll_13 rfl (lv_at hl 1 rfl) ?_
      refine lv_iload_n hx hb dX6_hoursToAll_14 rfl (lv_at hl 3 rfl) ?_
      obtain ⟨u15, hu15, hf⟩ := bd hf
      refine keepVI (ct_X6_hoursBetween l E a_o a_o_roads a_o_takes a_o_hours o_corners o_hours v1 st4.2 u15 hu15) [0, 1] cal_X6_hoursBetween cav_X6_hoursBetween lk_X6_72 cx hP hD hS hl dX6_hoursToAll_15 rfl rfl rfl rfl (Nat.le_of_ble_eq_true rfl) ⟨Nat.le_of_ble_eq_true rfl, Nat.le_of_ble_eq_true rfl⟩ rfl (by decide) (fun H locs hP hS => ?_)
      refine lv_istore (lv' := [(4, .int u15), (0, .ref a_o), (1, .int v1), (2, .int st4.1), (3, .int st4.2)]) hx hb dX6_hoursToAll_18 hl (by decide) rfl (fun ls hl => ?_)
      refine lv_iload_n hx hb dX6_hoursToAll_20 rfl (lv_at hl 3 rfl) ?_
      refine lv_iload hx hb dX6_hoursToAll_21 (lv_at hl 0 rfl) ?_
      refine lv_iconst (v := (-1)) hx hb dX6_hoursToAll_23 (by decide) ?_
      refine lv_icmp_ne (tgt := 33) hx hb dX6_hoursToAll_24 (by decide) (fun hc => ?_) (fun hc => ?_)
      · have hf := it_f hc hf
        refine lv_iload hx hb dX6_hoursToAll_33 (lv_at hl 0 rfl) ?_
        exact hj35 _ _ _ _ _ _ hf hP hD hS (lv_sub hl [1, 2, 4] rfl)
      · have hf := it_t hc hf
        refine lv_sipush (v := 1000) hx hb dX6_hoursToAll_27 (by decide) ?_
        refine lv_goto (tgt := 35) hx hb dX6_hoursToAll_30 (by decide) ?_
        exact hj35 _ _ _ _ _ _ hf hP hD hS (lv_sub hl [1, 2, 4] rfl)
  · refine fun H locs ls hP hD hS hl => ?_
    refine lv_iload_n hx hb dX6_hoursToAll_43 rfl (lv_at hl 0 rfl) ?_
    obtain rfl := Option.some.inj hf
    subst hq
    exact retI cx hP hD hS dX6_hoursToAll_44
def X6_middle_j45 (F : Nat) (o_corners : Int32) (o_hours : Nat → Int32) (v1 : Int32) (v2 : Int32) (v3 : Int32) : Option ((Int32 × Int32 × Int32) ⊕ ((Int32))) :=
  some (.inl (v1, v2, (v3 + 1)))
def X6_middle_j40 (F : Nat) (o_corners : Int32) (o_hours : Nat → Int32) (v3 : Int32) (v4 : Int32) : Option ((Int32 × Int32 × Int32) ⊕ ((Int32))) :=
  X6_middle_j45 F o_corners o_hours v3 v4 v3
def X6_middle_b6 (F : Nat) (o_corners : Int32) (o_hours : Nat → Int32) (st6 : Int32 × Int32 × Int32) : Option ((Int32 × Int32 × Int32) ⊕ ((Int32))) :=
  if o_corners ≤ st6.2.2 then
  some (.inr st6.1)
  else
  (X6_hoursToAll F o_corners o_hours st6.2.2).bind fun u16 =>
  if (1000 : Int32) ≤ u16 then
  X6_middle_j45 F o_corners o_hours st6.1 st6.2.1 st6.2.2
  else
  if st6.1 = (-1) then
  X6_middle_j40 F o_corners o_hours st6.2.2 u16
  else
  if st6.2.1 ≤ u16 then
  X6_middle_j45 F o_corners o_hours st6.1 st6.2.1 st6.2.2
  else
  X6_middle_j40 F o_corners o_hours st6.2.2 u16
def X6_middle (F : Nat) (o_corners : Int32) (o_hours : Nat → Int32) : Option (Int32) :=
  (iter (X6_middle_b6 F o_corners o_hours) F ((-1), 0, 0)).bind (fun (e6 : Int32) =>
    some e6)
abbrev wd_X6_middle (E : vE) (a_o a_o_roads a_o_takes a_o_hours : Nat) (o_corners : Int32) (o_hours : Nat → Int32) : va_W := [(a_o, .inr (6, [.int o_corners, .ref a_o_roads, .ref a_o_takes, .ref a_o_hours])), (a_o_hours, .inl (E.2.1, 64, .inl o_hours))]
set_option maxHeartbeats 4000000 in
set_option maxRecDepth 100000 in
theorem ct_X6_middle (l : Launch) (E : vE) (F : Nat) (a_o a_o_roads a_o_takes a_o_hours : Nat) (o_corners : Int32) (o_hours : Nat → Int32) (u : Int32) (hf : X6_middle F o_corners o_hours = some u) :
    CtI l yX6_middle cX6_middle 5 (some .int) 3 E [.ref a_o] (wd_X6_middle E a_o a_o_roads a_o_takes a_o_hours o_corners o_hours) (wd_X6_middle E a_o a_o_roads a_o_takes a_o_hours o_corners o_hours) u := by
  refine ctI (by decide) (Nat.le_of_ble_eq_true rfl) ?_
  intro p e s m below meth cd A ls aa QQ hq cx hP hD hS hl
  obtain ⟨⟨hx, hb, hml, hown, hts⟩, hr, hlocks, hK, hA, hX⟩ := id cx
  have hl : lv_has ls 5 [(0, .ref a_o)] := hl
  unfold X6_middle at hf
  refine lv_iconst (v := (-1)) hx hb dX6_middle_0 (by decide) ?_
  refine lv_istore_n (lv' := [(1, .int (-1)), (0, .ref a_o)]) hx hb dX6_middle_1 rfl hl (by decide) rfl (fun ls hl => ?_)
  refine lv_iconst (v := 0) hx hb dX6_middle_2 (by decide) ?_
  refine lv_istore_n (lv' := [(2, .int 0), (1, .int (-1)), (0, .ref a_o)]) hx hb dX6_middle_3 rfl hl (by decide) rfl (fun ls hl => ?_)
  refine lv_iconst (v := 0) hx hb dX6_middle_4 (by decide) ?_
  refine lv_istore_n (lv' := [(3, .int 0), (2, .int 0), (1, .int (-1)), (0, .ref a_o)]) hx hb dX6_middle_5 rfl hl (by decide) rfl (fun ls hl => ?_)
  obtain ⟨e6, hit6, hf⟩ := bd hf
  refine iter_W (b := X6_middle_b6 F o_corners o_hours) (P := fun st6 => ∀ (H : Heap) (locs : List Loc) (ls : Array Slot), va_P E.1 vwCl (wd_X6_middle E a_o a_o_roads a_o_takes a_o_hours o_corners o_hours) H → va_D A (wd_X6_middle E a_o a_o_roads a_o_takes a_o_hours o_corners o_hours) → va_S A s.heap H locs → lv_has ls 5 [(0, .ref a_o), (1, .int st6.1), (2, .int st6.2.1), (3, .int st6.2.2)] → W p l e (rmd 3) s m aa below meth cd H locs 0 0 QQ (F0 m 6 ls [])) (G := (fun (e6 : Int32) => ∀ (H : Heap) (locs : List Loc) (ls : Array Slot), va_P E.1 vwCl (wd_X6_middle E a_o a_o_roads a_o_takes a_o_hours o_corners o_hours) H → va_D A (wd_X6_middle E a_o a_o_roads a_o_takes a_o_hours o_corners o_hours) → va_S A s.heap H locs → lv_has ls 5 [(1, .int e6)] → W p l e (rmd 3) s m aa below meth cd H locs 0 0 QQ (F0 m 51 ls []))) ?_ F ((-1), 0, 0) e6 hit6 ?_ _ _ _ hP hD hS (lv_sub hl [3, 2, 1, 0] rfl)
  · intro st6 r6 hf hk6 he6 H locs ls hP hD hS hl
    have hj45 : ∀ (v1 : Int32) (v2 : Int32) (v3 : Int32) (H : Heap) (locs : List Loc) (ls : Array Slot), X6_middle_j45 F o_corners o_hours v1 v2 v3 = some r6 → va_P E.1 vwCl (wd_X6_middle E a_o a_o_roads a_o_takes a_o_hours o_corners o_hours) H → va_D A (wd_X6_middle E a_o a_o_roads a_o_takes a_o_hours o_corners o_hours) → va_S A s.heap H locs → lv_has ls 5 [(0, .ref a_o), (1, .int v1), (2, .int v2), (3, .int v3)] → W p l e (rmd 3) s m aa below meth cd H locs 0 0 QQ (F0 m 45 ls []) := by
      intro v1 v2 v3 H locs ls hf hP hD hS hl
      unfold X6_middle_j45 at hf
      refine lv_iinc (v := (v3 + 1)) (lv' := [(3, .int (v3 + 1)), (0, .ref a_o), (1, .int v1), (2, .int v2)]) hx hb dX6_middle_45 hl (k := 3) rfl rfl (by decide) rfl (fun ls hl => ?_)
      refine lv_goto (tgt := 6) hx hb dX6_middle_48 (by decide) ?_
      exact hk6 _ (Option.some.inj hf).symm _ _ _ hP hD hS (lv_sub hl [1, 2, 3, 0] rfl)
    have hj40 : ∀ (v3 : Int32) (v4 : Int32) (H : Heap) (locs : List Loc) (ls : Array Slot), X6_middle_j40 F o_corners o_hours v3 v4 = some r6 → va_P E.1 vwCl (wd_X6_middle E a_o a_o_roads a_o_takes a_o_hours o_corners o_hours) H → va_D A (wd_X6_middle E a_o a_o_roads a_o_takes a_o_hours o_corners o_hours) → va_S A s.heap H locs → lv_has ls 5 [(0, .ref a_o), (3, .int v3), (4, .int v4)] → W p l e (rmd 3) s m aa below meth cd H locs 0 0 QQ (F0 m 40 ls []) := by
      intro v3 v4 H locs ls hf hP hD hS hl
      unfold X6_middle_j40 at hf
      refine lv_iload_n hx hb dX6_middle_40 rfl (lv_at hl 1 rfl) ?_
      refine lv_istore_n (lv' := [(1, .int v3), (0, .ref a_o), (3, .int v3), (4, .int v4)]) hx hb dX6_middle_41 rfl hl (by decide) rfl (fun ls hl => ?_)
      refine lv_iload hx hb dX6_middle_42 (lv_at hl 3 rfl) ?_
      refine lv_istore_n (lv' := [(2, .int v4), (1, .int v3), (0, .ref a_o), (3, .int v3), (4, .int v4)]) hx hb dX6_middle_44 rfl hl (by decide) rfl (fun ls hl => ?_)
      exact hj45 _ _ _ _ _ _ hf hP hD hS (lv_sub hl [2, 1, 0, 3] rfl)
    unfold X6_middle_b6 at hf
    refine lv_iload_n hx hb dX6_middle_6 rfl (lv_at hl 3 rfl) ?_
    refine lv_aload_n hx hb dX6_middle_7 rfl (lv_at hl 0 rfl) ?_
    refine va_get (D := E.1) (ci := 6) (v := .int o_corners) (C := RX6) (T := TX6) (N := 4) hx hb hts inX6 hown hK hP 0 rfl rfl 0 (by decide) (hts _ fl_X6_27) (fun _ h9 => h9) rfl dX6_middle_8 ?_
    refine lv_icmp_ge (tgt := 51) hx hb dX6_middle_11 (by decide) (fun hc => ?_) (fun hc => ?_)
    · have hf := it_t hc hf
      exact he6 _ (Option.some.inj hf).symm _ _ _ hP hD hS (lv_sub hl [1] rfl)
    · have hf := it_f hc hf
      refine lv_aload_n hx hb dX6_middle_14 rfl (lv_at hl 0 rfl) ?_
      refine lv_iload_n hx hb dX6_middle_15 rfl (lv_at hl 3 rfl) ?_
      obtain ⟨u16, hu16, hf⟩ := bd hf
      refine keepVI (ct_X6_hoursToAll l E F a_o a_o_roads a_o_takes a_o_hours o_corners o_hours st6.2.2 u16 hu16) [0, 1] cal_X6_hoursToAll cav_X6_hoursToAll lk_X6_75 cx hP hD hS hl dX6_middle_16 rfl rfl rfl rfl (Nat.le_of_ble_eq_true rfl) ⟨Nat.le_of_ble_eq_true rfl, Nat.le_of_ble_eq_true rfl⟩ rfl (by decide) (fun H locs hP hS => ?_)
      refine lv_istore (lv' := [(4, .int u16), (0, .ref a_o), (1, .int st6.1), (2, .int st6.2.1), (3, .int st6.2.2)]) hx hb dX6_middle_19 hl (by decide) rfl (fun ls hl => ?_)
      refine lv_iload hx hb dX6_middle_21 (lv_at hl 0 rfl) ?_
      refine lv_sipush (v := 1000) hx hb dX6_middle_23 (by decide) ?_
      refine lv_icmp_ge (tgt := 45) hx hb dX6_middle_26 (by decide) (fun hc => ?_) (fun hc => ?_)
      · have hf := it_t hc hf
        exact hj45 _ _ _ _ _ _ hf hP hD hS (lv_sub hl [1, 2, 3, 4] rfl)
      · have hf := it_f hc hf
        refine lv_iload_n hx hb dX6_middle_29 rfl (lv_at hl 2 rfl) ?_
        refine lv_iconst (v := (-1)) hx hb dX6_middle_30 (by decide) ?_
        refine lv_icmp_eq (tgt := 40) hx hb dX6_middle_31 (by decide) (fun hc => ?_) (fun hc => ?_)
        · have hf := it_t hc hf
          exact hj40 _ _ _ _ _ hf hP hD hS (lv_sub hl [1, 4, 0] rfl)
        · have hf := it_f hc hf
          refine lv_iload hx hb dX6_middle_34 (lv_at hl 0 rfl) ?_
          refine lv_iload_n hx hb dX6_middle_36 rfl (lv_at hl 3 rfl) ?_
          refine lv_icmp_ge (tgt := 45) hx hb dX6_middle_37 (by decide) (fun hc => ?_) (fun hc => ?_)
          · have hf := it_t hc hf
            exact hj45 _ _ _ _ _ _ hf hP hD hS (lv_sub hl [1, 2, 3, 4] rfl)
          · have hf := it_f hc hf
            exact hj40 _ _ _ _ _ hf hP hD hS (lv_sub hl [1, 4, 0] rfl)
  · refine fun H locs ls hP hD hS hl => ?_
    refine lv_iload_n hx hb dX6_middle_51 rfl (lv_at hl 0 rfl) ?_
    obtain rfl := Option.some.inj hf
    subst hq
    exact retI cx hP hD hS dX6_middle_52
