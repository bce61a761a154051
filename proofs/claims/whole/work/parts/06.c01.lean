def X0_onRoads_j33 (F : Nat) (o_extras_many : Int32) (o_extras_cells : Nat → Int32) (v1 : Int32) (v2 : Int32) : Option ((Int32 × Int32) ⊕ ((Int32))) :=
  some (.inl (v1, (v2 + 1)))
def X0_onRoads_b4 (F : Nat) (o_extras_many : Int32) (o_extras_cells : Nat → Int32) (st4 : Int32 × Int32) : Option ((Int32 × Int32) ⊕ ((Int32))) :=
  if o_extras_many ≤ st4.2 then
  some (.inr st4.1)
  else
  (X7_get 35 5 o_extras_many o_extras_cells st4.2 (1 : Int32)).bind fun u21 =>
  if u21 ≤ 0 then
  X0_onRoads_j33 F o_extras_many o_extras_cells st4.1 st4.2
  else
  X0_onRoads_j33 F o_extras_many o_extras_cells (st4.1 ||| (jshl 1 st4.2)) st4.2
def X0_onRoads (F : Nat) (o_extras_many : Int32) (o_extras_cells : Nat → Int32) : Option (Int32) :=
  (iter (X0_onRoads_b4 F o_extras_many o_extras_cells) F (0, 0)).bind (fun (e4 : Int32) =>
    some e4)
abbrev wd_X0_onRoads (E : vE) (a_o a_o_streets a_o_names a_o_extras a_o_happenings a_o_watchers a_o_weeks a_o_extras_cells : Nat) (o_wage : Int32) (o_delay : Int32) (o_odds : Int32) (o_clock : Int32) (o_hasWeeks : Int32) (o_extras_many : Int32) (o_extras_cells : Nat → Int32) : va_W := [(a_o, .inr (0, [.int o_wage, .int o_delay, .int o_odds, .int o_clock, .int o_hasWeeks, .ref a_o_streets, .ref a_o_names, .ref a_o_extras, .ref a_o_happenings, .ref a_o_watchers, .ref a_o_weeks])), (a_o_extras, .inr (7, [.int 5, .ref a_o_extras_cells, .int o_extras_many])), (a_o_extras_cells, .inl (E.2.1, 35, .inl o_extras_cells))]
set_option maxHeartbeats 4000000 in
set_option maxRecDepth 100000 in
theorem ct_X0_onRoads (l : Launch) (E : vE) (F : Nat) (a_o a_o_streets a_o_names a_o_extras a_o_happenings a_o_watchers a_o_weeks a_o_extras_cells : Nat) (o_wage : Int32) (o_delay : Int32) (o_odds : Int32) (o_clock : Int32) (o_hasWeeks : Int32) (o_extras_many : Int32) (o_extras_cells : Nat → Int32) (u : Int32) (hf : X0_onRoads F o_extras_many o_extras_cells = some u) :
    CtI l yX0_onRoads cX0_onRoads 3 (some .int) 1 E [.ref a_o] (wd_X0_onRoads E a_o a_o_streets a_o_names a_o_extras a_o_happenings a_o_watchers a_o_weeks a_o_extras_cells o_wage o_delay o_odds o_clock o_hasWeeks o_extras_many o_extras_cells) (wd_X0_onRoads E a_o a_o_streets a_o_names a_o_extras a_o_happenings a_o_watchers a_o_weeks a_o_extras_cells o_wage o_delay o_odds o_clock o_hasWeeks o_extras_many o_extras_cells) u := by
  refine ctI (by decide) (Nat.le_of_ble_eq_true rfl) ?_
  intro p e s m below meth cd A ls aa QQ hq cx hP hD hS hl
  obtain ⟨⟨hx, hb, hml, hown, hts⟩, hr, hlocks, hK, hA, hX⟩ := id cx
  have hl : lv_has ls 3 [(0, .ref a_o)] := hl
  unfold X0_onRoads at hf
  refine lv_iconst (v := 0) hx hb dX0_onRoads_0 (by decide) ?_
  refine lv_istore_n (lv' := [(1, .int 0), (0, .ref a_o)]) hx hb dX0_onRoads_1 rfl hl (by decide) rfl (fun ls hl => ?_)
  refine lv_iconst (v := 0) hx hb dX0_onRoads_2 (by decide) ?_
  refine lv_istore_n (lv' := [(2, .int 0), (1, .int 0), (0, .ref a_o)]) hx hb dX0_onRoads_3 rfl hl (by decide) rfl (fun ls hl => ?_)
  obtain ⟨e4, hit4, hf⟩ := bd hf
  refine iter_W (b := X0_onRoads_b4 F o_extras_many o_extras_cells) (P := fun st4 => ∀ (H : Heap) (locs : List Loc) (ls : Array Slot), va_P E.1 vwCl (wd_X0_onRoads E a_o a_o_streets a_o_names a_o_extras a_o_happenings a_o_watchers a_o_weeks a_o_extras_cells o_wage o_delay o_odds o_clock o_hasWeeks o_extras_many o_extras_cells) H → va_D A (wd_X0_onRoads E a_o a_o_streets a_o_names a_o_extras a_o_happenings a_o_watchers a_o_weeks a_o_extras_cells o_wage o_delay o_odds o_clock o_hasWeeks o_extras_many o_extras_cells) → va_S A s.heap H locs → lv_has ls 3 [(0, .ref a_o), (1, .int st4.1), (2, .int st4.2)] → W p l e (rmd 1) s m aa below meth cd H locs 0 0 QQ (F0 m 4 ls [])) (G := (fun (e4 : Int32) => ∀ (H : Heap) (locs : List Loc) (ls : Array Slot), va_P E.1 vwCl (wd_X0_onRoads E a_o a_o_streets a_o_names a_o_extras a_o_happenings a_o_watchers a_o_weeks a_o_extras_cells o_wage o_delay o_odds o_clock o_hasWeeks o_extras_many o_extras_cells) H → va_D A (wd_X0_onRoads E a_o a_o_streets a_o_names a_o_extras a_o_happenings a_o_watchers a_o_weeks a_o_extras_cells o_wage o_delay o_odds o_clock o_hasWeeks o_extras_many o_extras_cells) → va_S A s.heap H locs → lv_has ls 3 [(1, .int e4)] → W p l e (rmd 1) s m aa below meth cd H locs 0 0 QQ (F0 m 39 ls []))) ?_ F (0, 0) e4 hit4 ?_ _ _ _ hP hD hS (lv_sub hl [2, 1, 0] rfl)
  · intro st4 r4 hf hk4 he4 H locs ls hP hD hS hl
    have hj33 : ∀ (v1_j33 : Int32) (v2_j33 : Int32) (H : Heap) (locs : List Loc) (ls : Array Slot), X0_onRoads_j33 F o_extras_many o_extras_cells v1_j33 v2_j33 = some r4 → va_P E.1 vwCl (wd_X0_onRoads E a_o a_o_streets a_o_names a_o_extras a_o_happenings a_o_watchers a_o_weeks a_o_extras_cells o_wage o_delay o_odds o_clock o_hasWeeks o_extras_many o_extras_cells) H → va_D A (wd_X0_onRoads E a_o a_o_streets a_o_names a_o_extras a_o_happenings a_o_watchers a_o_weeks a_o_extras_cells o_wage o_delay o_odds o_clock o_hasWeeks o_extras_many o_extras_cells) → va_S A s.heap H locs → lv_has ls 3 [(0, .ref a_o), (1, .int v1_j33), (2, .int v2_j33)] → W p l e (rmd 1) s m aa below meth cd H locs 0 0 QQ (F0 m 33 ls []) := by
      intro v1_j33 v2_j33 H locs ls hf hP hD hS hl
      unfold X0_onRoads_j33 at hf
      refine lv_iinc (v := (v2_j33 + 1)) (lv' := [(2, .int (v2_j33 + 1)), (0, .ref a_o), (1, .int v1_j33)]) hx hb dX0_onRoads_33 hl (k := 2) rfl rfl (by decide) rfl (fun ls hl => ?_)
      refine lv_goto (tgt := 4) hx hb dX0_onRoads_36 (by decide) ?_
      exact hk4 _ (Option.some.inj hf).symm _ _ _ hP hD hS (lv_sub hl [1, 2, 0] rfl)
    unfold X0_onRoads_b4 at hf
    refine lv_iload_n hx hb dX0_onRoads_4 rfl (lv_at hl 2 rfl) ?_
    refine lv_aload_n hx hb dX0_onRoads_5 rfl (lv_at hl 0 rfl) ?_
    refine va_get (D := E.1) (ci := 0) (v := .ref a_o_extras) (C := RX0) (T := TX0) (N := 11) hx hb hts inX0 hown hK hP 0 rfl rfl 7 (by decide) (hts _ fl_X0_30) (fun _ h9 => h9) rfl dX0_onRoads_6 ?_
    refine va_get (D := E.1) (ci := 7) (v := .int o_extras_many) (C := RX7) (T := TX7) (N := 3) hx hb hts inX7 hown hK hP 1 rfl rfl 2 (by decide) (hts _ fl_X0_67) (fun _ h9 => h9) rfl dX0_onRoads_9 ?_
    refine lv_icmp_ge (tgt := 39) hx hb dX0_onRoads_12 (by decide) (fun hc => ?_) (fun hc => ?_)
    · have hf := it_t hc hf
      exact he4 _ (Option.some.inj hf).symm _ _ _ hP hD hS (lv_sub hl [1] rfl)
    · have hf := it_f hc hf
      refine lv_aload_n hx hb dX0_onRoads_15 rfl (lv_at hl 0 rfl) ?_
      refine va_get (D := E.1) (ci := 0) (v := .ref a_o_extras) (C := RX0) (T := TX0) (N := 11) hx hb hts inX0 hown hK hP 0 rfl rfl 7 (by decide) (hts _ fl_X0_30) (fun _ h9 => h9) rfl dX0_onRoads_16 ?_
      refine lv_iload_n hx hb dX0_onRoads_19 rfl (lv_at hl 2 rfl) ?_
      refine lv_iconst (v := 1) hx hb dX0_onRoads_20 (by decide) ?_
      obtain ⟨u21, hu21, hf⟩ := bd hf
      refine keepVI (ct_X7_get l E a_o_extras a_o_extras_cells 35 5 o_extras_many o_extras_cells st4.2 (1 : Int32) u21 hu21) [1, 2] cal_X7_get cav_X7_get lk_X0_92 cx hP hD hS hl dX0_onRoads_21 rfl rfl rfl rfl (Nat.le_of_ble_eq_true rfl) ⟨Nat.le_of_ble_eq_true rfl, Nat.le_of_ble_eq_true rfl⟩ rfl (by decide) (fun H locs hP hS => ?_)
      refine lv_if_le (tgt := 33) hx hb dX0_onRoads_24 (by decide) (fun hc => ?_) (fun hc => ?_)
      · have hf := it_t hc hf
        exact hj33 _ _ _ _ _ hf hP hD hS (lv_sub hl [0, 1, 2] rfl)
      · have hf := it_f hc hf
        refine lv_iload_n hx hb dX0_onRoads_27 rfl (lv_at hl 1 rfl) ?_
        refine lv_iconst (v := 1) hx hb dX0_onRoads_28 (by decide) ?_
        refine lv_iload_n hx hb dX0_onRoads_29 rfl (lv_at hl 2 rfl) ?_
        refine r_ishl hx hb dX0_onRoads_30 ?_
        refine lv_ior hx hb dX0_onRoads_31 ?_
        refine lv_istore_n (lv' := [(1, .int (st4.1 ||| (jshl 1 st4.2))), (0, .ref a_o), (2, .int st4.2)]) hx hb dX0_onRoads_32 rfl hl (by decide) rfl (fun ls hl => ?_)
        exact hj33 _ _ _ _ _ hf hP hD hS (lv_sub hl [1, 0, 2] rfl)
  · refine fun H locs ls hP hD hS hl => ?_
    refine lv_iload_n hx hb dX0_onRoads_39 rfl (lv_at hl 0 rfl) ?_
    obtain rfl := Option.some.inj hf
    subst hq
    exact retI cx hP hD hS dX0_onRoads_40
def X0_isAt_j29 (o_extras_many : Int32) (o_extras_cells : Nat → Int32) : Option (Int32) :=
  some 0
def X0_isAt (o_extras_many : Int32) (o_extras_cells : Nat → Int32) (v1 : Int32) (v2 : Int32) : Option (Int32) :=
  (X7_get 35 5 o_extras_many o_extras_cells v1 (1 : Int32)).bind fun u6 =>
  if u6 = 0 then
  (X7_get 35 5 o_extras_many o_extras_cells v1 (0 : Int32)).bind fun u18 =>
  if u18 = v2 then
  some 1
  else
  X0_isAt_j29 o_extras_many o_extras_cells
  else
  X0_isAt_j29 o_extras_many o_extras_cells
abbrev wd_X0_isAt (E : vE) (a_o a_o_streets a_o_names a_o_extras a_o_happenings a_o_watchers a_o_weeks a_o_extras_cells : Nat) (o_wage : Int32) (o_delay : Int32) (o_odds : Int32) (o_clock : Int32) (o_hasWeeks : Int32) (o_extras_many : Int32) (o_extras_cells : Nat → Int32) : va_W := [(a_o, .inr (0, [.int o_wage, .int o_delay, .int o_odds, .int o_clock, .int o_hasWeeks, .ref a_o_streets, .ref a_o_names, .ref a_o_extras, .ref a_o_happenings, .ref a_o_watchers, .ref a_o_weeks])), (a_o_extras, .inr (7, [.int 5, .ref a_o_extras_cells, .int o_extras_many])), (a_o_extras_cells, .inl (E.2.1, 35, .inl o_extras_cells))]
set_option maxHeartbeats 4000000 in
set_option maxRecDepth 100000 in
theorem ct_X0_isAt (l : Launch) (E : vE) (a_o a_o_streets a_o_names a_o_extras a_o_happenings a_o_watchers a_o_weeks a_o_extras_cells : Nat) (o_wage : Int32) (o_delay : Int32) (o_odds : Int32) (o_clock : Int32) (o_hasWeeks : Int32) (o_extras_many : Int32) (o_extras_cells : Nat → Int32) (v1 : Int32) (v2 : Int32) (u : Int32) (hf : X0_isAt o_extras_many o_extras_cells v1 v2 = some u) :
    CtI l yX0_isAt cX0_isAt 3 (some .boolean) 1 E [.ref a_o, .int v1, .int v2] (wd_X0_isAt E a_o a_o_streets a_o_names a_o_extras a_o_happenings a_o_watchers a_o_weeks a_o_extras_cells o_wage o_delay o_odds o_clock o_hasWeeks o_extras_many o_extras_cells) (wd_X0_isAt E a_o a_o_streets a_o_names a_o_extras a_o_happenings a_o_watchers a_o_weeks a_o_extras_cells o_wage o_delay o_odds o_clock o_hasWeeks o_extras_many o_extras_cells) u := by
  refine ctI (by decide) (Nat.le_of_ble_eq_true rfl) ?_
  intro p e s m below meth cd A ls aa QQ hq cx hP hD hS hl
  obtain ⟨⟨hx, hb, hml, hown, hts⟩, hr, hlocks, hK, hA, hX⟩ := id cx
  have hl : lv_has ls 3 [(0, .ref a_o), (1, .int v1), (2, .int v2)] := hl
  have hj29 : ∀ (H : Heap) (locs : List Loc) (ls : Array Slot), X0_isAt_j29 o_extras_many o_extras_cells = some u → va_P E.1 vwCl (wd_X0_isAt E a_o a_o_streets a_o_names a_o_extras a_o_happenings a_o_watchers a_o_weeks a_o_extras_cells o_wage o_delay o_odds o_clock o_hasWeeks o_extras_many o_extras_cells) H → va_D A (wd_X0_isAt E a_o a_o_streets a_o_names a_o_extras a_o_happenings a_o_watchers a_o_weeks a_o_extras_cells o_wage o_delay o_odds o_clock o_hasWeeks o_extras_many o_extras_cells) → va_S A s.heap H locs → lv_has ls 3 [] → W p l e (rmd 1) s m aa below meth cd H locs 0 0 QQ (F0 m 29 ls []) := by
    intro H locs ls hf hP hD hS hl
    unfold X0_isAt_j29 at hf
    refine lv_iconst (v := 0) hx hb dX0_isAt_29 (by decide) ?_
    obtain rfl := Option.some.inj hf
    subst hq
    exact retZ cx rfl hP hD hS dX0_isAt_30
  unfold X0_isAt at hf
  refine lv_aload_n hx hb dX0_isAt_0 rfl (lv_at hl 0 rfl) ?_
  refine va_get (D := E.1) (ci := 0) (v := .ref a_o_extras) (C := RX0) (T := TX0) (N := 11) hx hb hts inX0 hown hK hP 0 rfl rfl 7 (by decide) (hts _ fl_X0_30) (fun _ h9 => h9) rfl dX0_isAt_1 ?_
  refine lv_iload_n hx hb dX0_isAt_4 rfl (lv_at hl 1 rfl) ?_
  refine lv_iconst (v := 1) hx hb dX0_isAt_5 (by decide) ?_
  obtain ⟨u6, hu6, hf⟩ := bd hf
  refine keepVI (ct_X7_get l E a_o_extras a_o_extras_cells 35 5 o_extras_many o_extras_cells v1 (1 : Int32) u6 hu6) [1, 2] cal_X7_get cav_X7_get lk_X0_92 cx hP hD hS hl dX0_isAt_6 rfl rfl rfl rfl (Nat.le_of_ble_eq_true rfl) ⟨Nat.le_of_ble_eq_true rfl, Nat.le_of_ble_eq_true rfl⟩ rfl (by decide) (fun H locs hP hS => ?_)
  refine lv_if_ne (tgt := 29) hx hb dX0_isAt_9 (by decide) (fun hc => ?_) (fun hc => ?_)
  · have hf := it_f hc hf
    exact hj29  _ _ _ hf hP hD hS (lv_sub hl [] rfl)
  · have hf := it_t hc hf
    refine lv_aload_n hx hb dX0_isAt_12 rfl (lv_at hl 0 rfl) ?_
    refine va_get (D := E.1) (ci := 0) (v := .ref a_o_extras) (C := RX0) (T := TX0) (N := 11) hx hb hts inX0 hown hK hP 0 rfl rfl 7 (by decide) (hts _ fl_X0_30) (fun _ h9 => h9) rfl dX0_isAt_13 ?_
    refine lv_iload_n hx hb dX0_isAt_16 rfl (lv_at hl 1 rfl) ?_
    refine lv_iconst (v := 0) hx hb dX0_isAt_17 (by decide) ?_
    obtain ⟨u18, hu18, hf⟩ := bd hf
    refine keepVI (ct_X7_get l E a_o_extras a_o_extras_cells 35 5 o_extras_many o_extras_cells v1 (0 : Int32) u18 hu18) [1, 2] cal_X7_get cav_X7_get lk_X0_92 cx hP hD hS hl dX0_isAt_18 rfl rfl rfl rfl (Nat.le_of_ble_eq_true rfl) ⟨Nat.le_of_ble_eq_true rfl, Nat.le_of_ble_eq_true rfl⟩ rfl (by decide) (fun H locs hP hS => ?_)
    refine lv_iload_n hx hb dX0_isAt_21 rfl (lv_at hl 2 rfl) ?_
    refine lv_icmp_ne (tgt := 29) hx hb dX0_isAt_22 (by decide) (fun hc => ?_) (fun hc => ?_)
    · have hf := it_f hc hf
      exact hj29  _ _ _ hf hP hD hS (lv_sub hl [] rfl)
    · have hf := it_t hc hf
      refine lv_iconst (v := 1) hx hb dX0_isAt_25 (by decide) ?_
      refine lv_goto (tgt := 30) hx hb dX0_isAt_26 (by decide) ?_
      obtain rfl := Option.some.inj hf
      subst hq
      exact retZ cx rfl hP hD hS dX0_isAt_30
def X0_behind_j30 (F : Nat) (o_extras_many : Int32) (o_extras_cells : Nat → Int32) (v1 : Int32) (v2 : Int32) (v3 : Int32) : Option ((Int32 × Int32) ⊕ ((Int32))) :=
  some (.inl (v2, (v3 + 1)))
def X0_behind_b4 (F : Nat) (o_extras_many : Int32) (o_extras_cells : Nat → Int32) (v1 : Int32) (st4 : Int32 × Int32) : Option ((Int32 × Int32) ⊕ ((Int32))) :=
  if o_extras_many ≤ st4.2 then
  some (.inr st4.1)
  else
  (X0_isAt o_extras_many o_extras_cells st4.2 v1).bind fun u18 =>
  if u18 = 0 then
  X0_behind_j30 F o_extras_many o_extras_cells v1 st4.1 st4.2
  else
  X0_behind_j30 F o_extras_many o_extras_cells v1 (st4.1 ||| (jshl 1 st4.2)) st4.2
def X0_behind (F : Nat) (o_extras_many : Int32) (o_extras_cells : Nat → Int32) (v1 : Int32) : Option (Int32) :=
  (iter (X0_behind_b4 F o_extras_many o_extras_cells v1) F (0, 0)).bind (fun (e4 : Int32) =>
    some e4)
abbrev wd_X0_behind (E : vE) (a_o a_o_streets a_o_names a_o_extras a_o_happenings a_o_watchers a_o_weeks a_o_extras_cells : Nat) (o_wage : Int32) (o_delay : Int32) (o_odds : Int32) (o_clock : Int32) (o_hasWeeks : Int32) (o_extras_many : Int32) (o_extras_cells : Nat → Int32) : va_W := [(a_o, .inr (0, [.int o_wage, .int o_delay, .int o_odds, .int o_clock, .int o_hasWeeks, .ref a_o_streets, .ref a_o_names, .ref a_o_extras, .ref a_o_happenings, .ref a_o_watchers, .ref a_o_weeks])), (a_o_extras, .inr (7, [.int 5, .ref a_o_extras_cells, .int o_extras_many])), (a_o_extras_cells, .inl (E.2.1, 35, .inl o_extras_cells))]
set_option maxHeartbeats 4000000 in
set_option maxRecDepth 100000 in
theorem ct_X0_behind (l : Launch) (E : vE) (F : Nat) (a_o a_o_streets a_o_names a_o_extras a_o_happenings a_o_watchers a_o_weeks a_o_extras_cells : Nat) (o_wage : Int32) (o_delay : Int32) (o_odds : Int32) (o_clock : Int32) (o_hasWeeks : Int32) (o_extras_many : Int32) (o_extras_cells : Nat → Int32) (v1 : Int32) (u : Int32) (hf : X0_behind F o_extras_many o_extras_cells v1 = some u) :
    CtI l yX0_behind cX0_behind 4 (some .int) 2 E [.ref a_o, .int v1] (wd_X0_behind E a_o a_o_streets a_o_names a_o_extras a_o_happenings a_o_watchers a_o_weeks a_o_extras_cells o_wage o_delay o_odds o_clock o_hasWeeks o_extras_many o_extras_cells) (wd_X0_behind E a_o a_o_streets a_o_names a_o_extras a_o_happenings a_o_watchers a_o_weeks a_o_extras_cells o_wage o_delay o_odds o_clock o_hasWeeks o_extras_many o_extras_cells) u := by
  refine ctI (by decide) (Nat.le_of_ble_eq_true rfl) ?_
  intro p e s m below meth cd A ls aa QQ hq cx hP hD hS hl
  obtain ⟨⟨hx, hb, hml, hown, hts⟩, hr, hlocks, hK, hA, hX⟩ := id cx
  have hl : lv_has ls 4 [(0, .ref a_o), (1, .int v1)] := hl
  unfold X0_behind at hf
  refine lv_iconst (v := 0) hx hb dX0_behind_0 (by decide) ?_
  refine lv_istore_n (lv' := [(2, .int 0), (0, .ref a_o), (1, .int v1)]) hx hb dX0_behind_1 rfl hl (by decide) rfl (fun ls hl => ?_)
  refine lv_iconst (v := 0) hx hb dX0_behind_2 (by decide) ?_
  refine lv_istore_n (lv' := [(3, .int 0), (2, .int 0), (0, .ref a_o), (1, .int v1)]) hx hb dX0_behind_3 rfl hl (by decide) rfl (fun ls hl => ?_)
  obtain ⟨e4, hit4, hf⟩ := bd hf
  refine iter_W (b := X0_behind_b4 F o_extras_many o_extras_cells v1) (P := fun st4 => ∀ (H : Heap) (locs : List Loc) (ls : Array Slot), va_P E.1 vwCl (wd_X0_behind E a_o a_o_streets a_o_names a_o_extras a_o_happenings a_o_watchers a_o_weeks a_o_extras_cells o_wage o_delay o_odds o_clock o_hasWeeks o_extras_many o_extras_cells) H → va_D A (wd_X0_behind E a_o a_o_streets a_o_names a_o_extras a_o_happenings a_o_watchers a_o_weeks a_o_extras_cells o_wage o_delay o_odds o_clock o_hasWeeks o_extras_many o_extras_cells) → va_S A s.heap H locs → lv_has ls 4 [(0, .ref a_o), (1, .int v1), (2, .int st4.1), (3, .int st4.2)] → W p l e (rmd 2) s m aa below meth cd H locs 0 0 QQ (F0 m 4 ls [])) (G := (fun (e4 : Int32) => ∀ (H : Heap) (locs : List Loc) (ls : Array Slot), va_P E.1 vwCl (wd_X0_behind E a_o a_o_streets a_o_names a_o_extras a_o_happenings a_o_watchers a_o_weeks a_o_extras_cells o_wage o_delay o_odds o_clock o_hasWeeks o_extras_many o_extras_cells) H → va_D A (wd_X0_behind E a_o a_o_streets a_o_names a_o_extras a_o_happenings a_o_watchers a_o_weeks a_o_extras_cells o_wage o_delay o_odds o_clock o_hasWeeks o_extras_many o_extras_cells) → va_S A s.heap H locs → lv_has ls 4 [(2, .int e4)] → W p l e (rmd 2) s m aa below meth cd H locs 0 0 QQ (F0 m 36 ls []))) ?_ F (0, 0) e4 hit4 ?_ _ _ _ hP hD hS (lv_sub hl [2, 3, 1, 0] rfl)
  · intro st4 r4 hf hk4 he4 H locs ls hP hD hS hl
    have hj30 : ∀ (v2_j30 : Int32) (v3_j30 : Int32) (H : Heap) (locs : List Loc) (ls : Array Slot), X0_behind_j30 F o_extras_many o_extras_cells v1 v2_j30 v3_j30 = some r4 → va_P E.1 vwCl (wd_X0_behind E a_o a_o_streets a_o_names a_o_extras a_o_happenings a_o_watchers a_o_weeks a_o_extras_cells o_wage o_delay o_odds o_clock o_hasWeeks o_extras_many o_extras_cells) H → va_D A (wd_X0_behind E a_o a_o_streets a_o_names a_o_extras a_o_happenings a_o_watchers a_o_weeks a_o_extras_cells o_wage o_delay o_odds o_clock o_hasWeeks o_extras_many o_extras_cells) → va_S A s.heap H locs → lv_has ls 4 [(0, .ref a_o), (1, .int v1), (2, .int v2_j30), (3, .int v3_j30)] → W p l e (rmd 2) s m aa below meth cd H locs 0 0 QQ (F0 m 30 ls []) := by
      intro v2_j30 v3_j30 H locs ls hf hP hD hS hl
      unfold X0_behind_j30 at hf
      refine lv_iinc (v := (v3_j30 + 1)) (lv' := [(3, .int (v3_j30 + 1)), (0, .ref a_o), (1, .int v1), (2, .int v2_j30)]) hx hb dX0_behind_30 hl (k := 3) rfl rfl (by decide) rfl (fun ls hl => ?_)
      refine lv_goto (tgt := 4) hx hb dX0_behind_33 (by decide) ?_
      exact hk4 _ (Option.some.inj hf).symm _ _ _ hP hD hS (lv_sub hl [1, 2, 3, 0] rfl)
    unfold X0_behind_b4 at hf
    refine lv_iload_n hx hb dX0_behind_4 rfl (lv_at hl 3 rfl) ?_
    refine lv_aload_n hx hb dX0_behind_5 rfl (lv_at hl 0 rfl) ?_
    refine va_get (D := E.1) (ci := 0) (v := .ref a_o_extras) (C := RX0) (T := TX0) (N := 11) hx hb hts inX0 hown hK hP 0 rfl rfl 7 (by decide) (hts _ fl_X0_30) (fun _ h9 => h9) rfl dX0_behind_6 ?_
    refine va_get (D := E.1) (ci := 7) (v := .int o_extras_many) (C := RX7) (T := TX7) (N := 3) hx hb hts inX7 hown hK hP 1 rfl rfl 2 (by decide) (hts _ fl_X0_67) (fun _ h9 => h9) rfl dX0_behind_9 ?_
    refine lv_icmp_ge (tgt := 36) hx hb dX0_behind_12 (by decide) (fun hc => ?_) (fun hc => ?_)
    · have hf := it_t hc hf
      exact he4 _ (Option.some.inj hf).symm _ _ _ hP hD hS (lv_sub hl [2] rfl)
    · have hf := it_f hc hf
      refine lv_aload_n hx hb dX0_behind_15 rfl (lv_at hl 0 rfl) ?_
      refine lv_iload_n hx hb dX0_behind_16 rfl (lv_at hl 3 rfl) ?_
      refine lv_iload_n hx hb dX0_behind_17 rfl (lv_at hl 1 rfl) ?_
      obtain ⟨u18, hu18, hf⟩ := bd hf
      refine keepVI (ct_X0_isAt l E a_o a_o_streets a_o_names a_o_extras a_o_happenings a_o_watchers a_o_weeks a_o_extras_cells o_wage o_delay o_odds o_clock o_hasWeeks o_extras_many o_extras_cells st4.2 v1 u18 hu18) [0, 1, 2] cal_X0_isAt cav_X0_isAt lk_X0_95 cx hP hD hS hl dX0_behind_18 rfl rfl rfl rfl (Nat.le_of_ble_eq_true rfl) ⟨Nat.le_of_ble_eq_true rfl, Nat.le_of_ble_eq_true rfl⟩ rfl (by decide) (fun H locs hP hS => ?_)
      refine lv_if_eq (tgt := 30) hx hb dX0_behind_21 (by decide) (fun hc => ?_) (fun hc => ?_)
      · have hf := it_t hc hf
        exact hj30 _ _ _ _ _ hf hP hD hS (lv_sub hl [0, 1, 2, 3] rfl)
      · have hf := it_f hc hf
        refine lv_iload_n hx hb dX0_behind_24 rfl (lv_at hl 2 rfl) ?_
        refine lv_iconst (v := 1) hx hb dX0_behind_25 (by decide) ?_
        refine lv_iload_n hx hb dX0_behind_26 rfl (lv_at hl 3 rfl) ?_
        refine r_ishl hx hb dX0_behind_27 ?_
        refine lv_ior hx hb dX0_behind_28 ?_
        refine lv_istore_n (lv' := [(2, .int (st4.1 ||| (jshl 1 st4.2))), (0, .ref a_o), (1, .int v1), (3, .int st4.2)]) hx hb dX0_behind_29 rfl hl (by decide) rfl (fun ls hl => ?_)
        exact hj30 _ _ _ _ _ hf hP hD hS (lv_sub hl [1, 2, 0, 3] rfl)
  · refine fun H locs ls hP hD hS hl => ?_
    refine lv_iload_n hx hb dX0_behind_36 rfl (lv_at hl 0 rfl) ?_
    obtain rfl := Option.some.inj hf
    subst hq
    exact retI cx hP hD hS dX0_behind_37
def X0_whereabouts (o_extras_many : Int32) (o_extras_cells : Nat → Int32) (v1 : Int32) : Option (Int32) :=
  (X7_get 35 5 o_extras_many o_extras_cells v1 (0 : Int32)).bind fun u6 =>
  (X7_get 35 5 o_extras_many o_extras_cells v1 (1 : Int32)).bind fun u16 =>
  if u16 ≤ 0 then
  some u6
  else
  some (10 + u6)
abbrev wd_X0_whereabouts (E : vE) (a_o a_o_streets a_o_names a_o_extras a_o_happenings a_o_watchers a_o_weeks a_o_extras_cells : Nat) (o_wage : Int32) (o_delay : Int32) (o_odds : Int32) (o_clock : Int32) (o_hasWeeks : Int32) (o_extras_many : Int32) (o_extras_cells : Nat → Int32) : va_W := [(a_o, .inr (0, [.int o_wage, .int o_delay, .int o_odds, .int o_clock, .int o_hasWeeks, .ref a_o_streets, .ref a_o_names, .ref a_o_extras, .ref a_o_happenings, .ref a_o_watchers, .ref a_o_weeks])), (a_o_extras, .inr (7, [.int 5, .ref a_o_extras_cells, .int o_extras_many])), (a_o_extras_cells, .inl (E.2.1, 35, .inl o_extras_cells))]
set_option maxHeartbeats 4000000 in
set_option maxRecDepth 100000 in
theorem ct_X0_whereabouts (l : Launch) (E : vE) (a_o a_o_streets a_o_names a_o_extras a_o_happenings a_o_watchers a_o_weeks a_o_extras_cells : Nat) (o_wage : Int32) (o_delay : Int32) (o_odds : Int32) (o_clock : Int32) (o_hasWeeks : Int32) (o_extras_many : Int32) (o_extras_cells : Nat → Int32) (v1 : Int32) (u : Int32) (hf : X0_whereabouts o_extras_many o_extras_cells v1 = some u) :
    CtI l yX0_whereabouts cX0_whereabouts 3 (some .int) 1 E [.ref a_o, .int v1] (wd_X0_whereabouts E a_o a_o_streets a_o_names a_o_extras a_o_happenings a_o_watchers a_o_weeks a_o_extras_cells o_wage o_delay o_odds o_clock o_hasWeeks o_extras_many o_extras_cells) (wd_X0_whereabouts E a_o a_o_streets a_o_names a_o_extras a_o_happenings a_o_watchers a_o_weeks a_o_extras_cells o_wage o_delay o_odds o_clock o_hasWeeks o_extras_many o_extras_cells) u := by
  refine ctI (by decide) (Nat.le_of_ble_eq_true rfl) ?_
  intro p e s m below meth cd A ls aa QQ hq cx hP hD hS hl
  obtain ⟨⟨hx, hb, hml, hown, hts⟩, hr, hlocks, hK, hA, hX⟩ := id cx
  have hl : lv_has ls 3 [(0, .ref a_o), (1, .int v1)] := hl
  unfold X0_whereabouts at hf
  refine lv_aload_n hx hb dX0_whereabouts_0 rfl (lv_at hl 0 rfl) ?_
  refine va_get (D := E.1) (ci := 0) (v := .ref a_o_extras) (C := RX0) (T := TX0) (N := 11) hx hb hts inX0 hown hK hP 0 rfl rfl 7 (by decide) (hts _ fl_X0_30) (fun _ h9 => h9) rfl dX0_whereabouts_1 ?_
  refine lv_iload_n hx hb dX0_whereabouts_4 rfl (lv_at hl 1 rfl) ?_
  refine lv_iconst (v := 0) hx hb dX0_whereabouts_5 (by decide) ?_
  obtain ⟨u6, hu6, hf⟩ := bd hf
  refine keepVI (ct_X7_get l E a_o_extras a_o_extras_cells 35 5 o_extras_many o_extras_cells v1 (0 : Int32) u6 hu6) [1, 2] cal_X7_get cav_X7_get lk_X0_92 cx hP hD hS hl dX0_whereabouts_6 rfl rfl rfl rfl (Nat.le_of_ble_eq_true rfl) ⟨Nat.le_of_ble_eq_true rfl, Nat.le_of_ble_eq_true rfl⟩ rfl (by decide) (fun H locs hP hS => ?_)
  refine lv_istore_n (lv' := [(2, .int u6), (0, .ref a_o), (1, .int v1)]) hx hb dX0_whereabouts_9 rfl hl (by decide) rfl (fun ls hl => ?_)
  refine lv_aload_n hx hb dX0_whereabouts_10 rfl (lv_at hl 1 rfl) ?_
  refine va_get (D := E.1) (ci := 0) (v := .ref a_o_extras) (C := RX0) (T := TX0) (N := 11) hx hb hts inX0 hown hK hP 0 rfl rfl 7 (by decide) (hts _ fl_X0_30) (fun _ h9 => h9) rfl dX0_whereabouts_11 ?_
  refine lv_iload_n hx hb dX0_whereabouts_14 rfl (lv_at hl 2 rfl) ?_
  refine lv_iconst (v := 1) hx hb dX0_whereabouts_15 (by decide) ?_
  obtain ⟨u16, hu16, hf⟩ := bd hf
  refine keepVI (ct_X7_get l E a_o_extras a_o_extras_cells 35 5 o_extras_many o_extras_cells v1 (1 : Int32) u16 hu16) [1, 2] cal_X7_get cav_X7_get lk_X0_92 cx hP hD hS hl dX0_whereabouts_16 rfl rfl rfl rfl (Nat.le_of_ble_eq_true rfl) ⟨Nat.le_of_ble_eq_true rfl, Nat.le_of_ble_eq_true rfl⟩ rfl (by decide) (fun H locs hP hS => ?_)
  refine lv_if_le (tgt := 29) hx hb dX0_whereabouts_19 (by decide) (fun hc => ?_) (fun hc => ?_)
  · have hf := it_t hc hf
    refine lv_iload_n hx hb dX0_whereabouts_29 rfl (lv_at hl 0 rfl) ?_
    obtain rfl := Option.some.inj hf
    subst hq
    exact retI cx hP hD hS dX0_whereabouts_30
  · have hf := it_f hc hf
    refine lv_bipush (v := 10) hx hb dX0_whereabouts_22 (by decide) ?_
    refine lv_iload_n hx hb dX0_whereabouts_24 rfl (lv_at hl 0 rfl) ?_
    refine lv_iadd hx hb dX0_whereabouts_25 ?_
    refine lv_goto (tgt := 30) hx hb dX0_whereabouts_26 (by decide) ?_
    obtain rfl := Option.some.inj hf
    subst hq
    exact retI cx hP hD hS dX0_whereabouts_30
def X0_isOrdered (o_extras_many : Int32) (o_extras_cells : Nat → Int32) (v1 : Int32) (v2 : Int32) : Option (Int32) :=
  (X7_get 35 5 o_extras_many o_extras_cells v1 (2 : Int32)).bind fun u6 =>
  if ((jshr u6 v2) &&& 1) = 1 then
  some 1
  else
  some 0
abbrev wd_X0_isOrdered (E : vE) (a_o a_o_streets a_o_names a_o_extras a_o_happenings a_o_watchers a_o_weeks a_o_extras_cells : Nat) (o_wage : Int32) (o_delay : Int32) (o_odds : Int32) (o_clock : Int32) (o_hasWeeks : Int32) (o_extras_many : Int32) (o_extras_cells : Nat → Int32) : va_W := [(a_o, .inr (0, [.int o_wage, .int o_delay, .int o_odds, .int o_clock, .int o_hasWeeks, .ref a_o_streets, .ref a_o_names, .ref a_o_extras, .ref a_o_happenings, .ref a_o_watchers, .ref a_o_weeks])), (a_o_extras, .inr (7, [.int 5, .ref a_o_extras_cells, .int o_extras_many])), (a_o_extras_cells, .inl (E.2.1, 35, .inl o_extras_cells))]
set_option maxHeartbeats 4000000 in
set_option maxRecDepth 100000 in
theorem ct_X0_isOrdered (l : Launch) (E : vE) (a_o a_o_streets a_o_names a_o_extras a_o_happenings a_o_watchers a_o_weeks a_o_extras_cells : Nat) (o_wage : Int32) (o_delay : Int32) (o_odds : Int32) (o_clock : Int32) (o_hasWeeks : Int32) (o_extras_many : Int32) (o_extras_cells : Nat → Int32) (v1 : Int32) (v2 : Int32) (u : Int32) (hf : X0_isOrdered o_extras_many o_extras_cells v1 v2 = some u) :
    CtI l yX0_isOrdered cX0_isOrdered 3 (some .boolean) 1 E [.ref a_o, .int v1, .int v2] (wd_X0_isOrdered E a_o a_o_streets a_o_names a_o_extras a_o_happenings a_o_watchers a_o_weeks a_o_extras_cells o_wage o_delay o_odds o_clock o_hasWeeks o_extras_many o_extras_cells) (wd_X0_isOrdered E a_o a_o_streets a_o_names a_o_extras a_o_happenings a_o_watchers a_o_weeks a_o_extras_cells o_wage o_delay o_odds o_clock o_hasWeeks o_extras_many o_extras_cells) u := by
  refine ctI (by decide) (Nat.le_of_ble_eq_true rfl) ?_
  intro p e s m below meth cd A ls aa QQ hq cx hP hD hS hl
  obtain ⟨⟨hx, hb, hml, hown, hts⟩, hr, hlocks, hK, hA, hX⟩ := id cx
  have hl : lv_has ls 3 [(0, .ref a_o), (1, .int v1), (2, .int v2)] := hl
  unfold X0_isOrdered at hf
  refine lv_aload_n hx hb dX0_isOrdered_0 rfl (lv_at hl 0 rfl) ?_
  refine va_get (D := E.1) (ci := 0) (v := .ref a_o_extras) (C := RX0) (T := TX0) (N := 11) hx hb hts inX0 hown hK hP 0 rfl rfl 7 (by decide) (hts _ fl_X0_30) (fun _ h9 => h9) rfl dX0_isOrdered_1 ?_
  refine lv_iload_n hx hb dX0_isOrdered_4 rfl (lv_at hl 1 rfl) ?_
  refine lv_iconst (v := 2) hx hb dX0_isOrdered_5 (by decide) ?_
  obtain ⟨u6, hu6, hf⟩ := bd hf
  refine keepVI (ct_X7_get l E a_o_extras a_o_extras_cells 35 5 o_extras_many o_extras_cells v1 (2 : Int32) u6 hu6) [1, 2] cal_X7_get cav_X7_get lk_X0_92 cx hP hD hS hl dX0_isOrdered_6 rfl rfl rfl rfl (Nat.le_of_ble_eq_true rfl) ⟨Nat.le_of_ble_eq_true rfl, Nat.le_of_ble_eq_true rfl⟩ rfl (by decide) (fun H locs hP hS => ?_)
  refine lv_iload_n hx hb dX0_isOrdered_9 rfl (lv_at hl 2 rfl) ?_
  refine r_ishr hx hb dX0_isOrdered_10 ?_
  refine lv_iconst (v := 1) hx hb dX0_isOrdered_11 (by decide) ?_
  refine lv_iand hx hb dX0_isOrdered_12 ?_
  refine lv_iconst (v := 1) hx hb dX0_isOrdered_13 (by decide) ?_
  refine lv_icmp_ne (tgt := 21) hx hb dX0_isOrdered_14 (by decide) (fun hc => ?_) (fun hc => ?_)
  · have hf := it_f hc hf
    refine lv_iconst (v := 0) hx hb dX0_isOrdered_21 (by decide) ?_
    obtain rfl := Option.some.inj hf
    subst hq
    exact retZ cx rfl hP hD hS dX0_isOrdered_22
  · have hf := it_t hc hf
    refine lv_iconst (v := 1) hx hb dX0_isOrdered_17 (by decide) ?_
    refine lv_goto (tgt := 22) hx hb dX0_isOrdered_18 (by decide) ?_
    obtain rfl := Option.some.inj hf
    subst hq
    exact retZ cx rfl hP hD hS dX0_isOrdered_22
def X0_turnOrder (o_extras_many : Int32) (o_extras_cells : Nat → Int32) (v1 : Int32) (v2 : Int32) : Option ((Nat → Int32)) :=
  (X7_get 35 5 o_extras_many o_extras_cells v1 (2 : Int32)).bind fun u12 =>
  (X7_set 35 5 o_extras_many o_extras_cells v1 (2 : Int32) (u12 ^^^ (jshl 1 v2))).bind fun u19 =>
  some u19
abbrev wd_X0_turnOrder (E : vE) (a_o a_o_streets a_o_names a_o_extras a_o_happenings a_o_watchers a_o_weeks a_o_extras_cells : Nat) (o_wage : Int32) (o_delay : Int32) (o_odds : Int32) (o_clock : Int32) (o_hasWeeks : Int32) (o_extras_many : Int32) (o_extras_cells : Nat → Int32) : va_W := [(a_o, .inr (0, [.int o_wage, .int o_delay, .int o_odds, .int o_clock, .int o_hasWeeks, .ref a_o_streets, .ref a_o_names, .ref a_o_extras, .ref a_o_happenings, .ref a_o_watchers, .ref a_o_weeks])), (a_o_extras, .inr (7, [.int 5, .ref a_o_extras_cells, .int o_extras_many])), (a_o_extras_cells, .inl (E.2.1, 35, .inl o_extras_cells))]
set_option maxHeartbeats 4000000 in
set_option maxRecDepth 100000 in
theorem ct_X0_turnOrder (l : Launch) (E : vE) (a_o a_o_streets a_o_names a_o_extras a_o_happenings a_o_watchers a_o_weeks a_o_extras_cells : Nat) (o_wage : Int32) (o_delay : Int32) (o_odds : Int32) (o_clock : Int32) (o_hasWeeks : Int32) (o_extras_many : Int32) (o_extras_cells : Nat → Int32) (v1 : Int32) (v2 : Int32) (u : (Nat → Int32)) (hf : X0_turnOrder o_extras_many o_extras_cells v1 v2 = some u) :
    CtV l yX0_turnOrder cX0_turnOrder 3 none 1 E [.ref a_o, .int v1, .int v2] (wd_X0_turnOrder E a_o a_o_streets a_o_names a_o_extras a_o_happenings a_o_watchers a_o_weeks a_o_extras_cells o_wage o_delay o_odds o_clock o_hasWeeks o_extras_many o_extras_cells) (wd_X0_turnOrder E a_o a_o_streets a_o_names a_o_extras a_o_happenings a_o_watchers a_o_weeks a_o_extras_cells o_wage o_delay o_odds o_clock o_hasWeeks o_extras_many u) := by
  refine ctV (by decide) (Nat.le_of_ble_eq_true rfl) ?_
  intro p e s m below meth cd A ls aa QQ hq cx hP hD hS hl
  obtain ⟨⟨hx, hb, hml, hown, hts⟩, hr, hlocks, hK, hA, hX⟩ := id cx
  have hl : lv_has ls 3 [(0, .ref a_o), (1, .int v1), (2, .int v2)] := hl
  unfold X0_turnOrder at hf
  refine lv_aload_n hx hb dX0_turnOrder_0 rfl (lv_at hl 0 rfl) ?_
  refine va_get (D := E.1) (ci := 0) (v := .ref a_o_extras) (C := RX0) (T := TX0) (N := 11) hx hb hts inX0 hown hK hP 0 rfl rfl 7 (by decide) (hts _ fl_X0_30) (fun _ h9 => h9) rfl dX0_turnOrder_1 ?_
  refine lv_iload_n hx hb dX0_turnOrder_4 rfl (lv_at hl 1 rfl) ?_
  refine lv_iconst (v := 2) hx hb dX0_turnOrder_5 (by decide) ?_
  refine lv_aload_n hx hb dX0_turnOrder_6 rfl (lv_at hl 0 rfl) ?_
  refine va_get (D := E.1) (ci := 0) (v := .ref a_o_extras) (C := RX0) (T := TX0) (N := 11) hx hb hts inX0 hown hK hP 0 rfl rfl 7 (by decide) (hts _ fl_X0_30) (fun _ h9 => h9) rfl dX0_turnOrder_7 ?_
  refine lv_iload_n hx hb dX0_turnOrder_10 rfl (lv_at hl 1 rfl) ?_
  refine lv_iconst (v := 2) hx hb dX0_turnOrder_11 (by decide) ?_
  obtain ⟨u12, hu12, hf⟩ := bd hf
  refine keepVI (ct_X7_get l E a_o_extras a_o_extras_cells 35 5 o_extras_many o_extras_cells v1 (2 : Int32) u12 hu12) [1, 2] cal_X7_get cav_X7_get lk_X0_92 cx hP hD hS hl dX0_turnOrder_12 rfl rfl rfl rfl (Nat.le_of_ble_eq_true rfl) ⟨Nat.le_of_ble_eq_true rfl, Nat.le_of_ble_eq_true rfl⟩ rfl (by decide) (fun H locs hP hS => ?_)
  refine lv_iconst (v := 1) hx hb dX0_turnOrder_15 (by decide) ?_
  refine lv_iload_n hx hb dX0_turnOrder_16 rfl (lv_at hl 2 rfl) ?_
  refine r_ishl hx hb dX0_turnOrder_17 ?_
  refine lv_ixor hx hb dX0_turnOrder_18 ?_
  obtain ⟨u19, hu19, hf⟩ := bd hf
  refine callVV (wn := (wd_X0_turnOrder E a_o a_o_streets a_o_names a_o_extras a_o_happenings a_o_watchers a_o_weeks a_o_extras_cells o_wage o_delay o_odds o_clock o_hasWeeks o_extras_many u19)) (n1 := 3) (ct_X7_set l E a_o_extras a_o_extras_cells 35 5 o_extras_many o_extras_cells v1 (2 : Int32) (u12 ^^^ (jshl 1 v2)) u19 hu19) [1, 2] cal_X7_set cav_X7_set lk_X0_84 cx hP hD hS hl dX0_turnOrder_19 rfl rfl rfl rfl (Nat.le_of_ble_eq_true rfl) ⟨Nat.le_of_ble_eq_true rfl, Nat.le_of_ble_eq_true rfl⟩ rfl (by decide +kernel) rfl [none, some 0, some 1] rfl (by decide +kernel) rfl (fun H locs hP hD hS => ?_)
  obtain rfl := Option.some.inj hf
  subst hq
  exact retV cx hP hD hS dX0_turnOrder_22
def X7_raiseBy (n_o_cells : Nat) (o_width : Int32) (o_many : Int32) (o_cells : Nat → Int32) (v1 : Int32) (v2 : Int32) (v3 : Int32) : Option ((Nat → Int32)) :=
  (X7_get n_o_cells o_width o_many o_cells v1 v2).bind fun u6 =>
  (X7_set n_o_cells o_width o_many o_cells v1 v2 (u6 + v3)).bind fun u11 =>
  some u11
abbrev wd_X7_raiseBy (E : vE) (a_o a_o_cells : Nat) (n_o_cells : Nat) (o_width : Int32) (o_many : Int32) (o_cells : Nat → Int32) : va_W := [(a_o, .inr (7, [.int o_width, .ref a_o_cells, .int o_many])), (a_o_cells, .inl (E.2.1, n_o_cells, .inl o_cells))]
set_option maxHeartbeats 4000000 in
set_option maxRecDepth 100000 in
theorem ct_X7_raiseBy (l : Launch) (E : vE) (a_o a_o_cells : Nat) (n_o_cells : Nat) (o_width : Int32) (o_many : Int32) (o_cells : Nat → Int32) (v1 : Int32) (v2 : Int32) (v3 : Int32) (u : (Nat → Int32)) (hf : X7_raiseBy n_o_cells o_width o_many o_cells v1 v2 v3 = some u) :
    CtV l yX7_raiseBy cX7_raiseBy 4 none 1 E [.ref a_o, .int v1, .int v2, .int v3] (wd_X7_raiseBy E a_o a_o_cells n_o_cells o_width o_many o_cells) (wd_X7_raiseBy E a_o a_o_cells n_o_cells o_width o_many u) := by
  refine ctV (by decide) (Nat.le_of_ble_eq_true rfl) ?_
  intro p e s m below meth cd A ls aa QQ hq cx hP hD hS hl
  obtain ⟨⟨hx, hb, hml, hown, hts⟩, hr, hlocks, hK, hA, hX⟩ := id cx
  have hl : lv_has ls 4 [(0, .ref a_o), (1, .int v1), (2, .int v2), (3, .int v3)] := hl
  unfold X7_raiseBy at hf
  refine lv_aload_n hx hb dX7_raiseBy_0 rfl (lv_at hl 0 rfl) ?_
  refine lv_iload_n hx hb dX7_raiseBy_1 rfl (lv_at hl 1 rfl) ?_
  refine lv_iload_n hx hb dX7_raiseBy_2 rfl (lv_at hl 2 rfl) ?_
  refine lv_aload_n hx hb dX7_raiseBy_3 rfl (lv_at hl 0 rfl) ?_
  refine lv_iload_n hx hb dX7_raiseBy_4 rfl (lv_at hl 1 rfl) ?_
  refine lv_iload_n hx hb dX7_raiseBy_5 rfl (lv_at hl 2 rfl) ?_
  obtain ⟨u6, hu6, hf⟩ := bd hf
  refine keepVI (ct_X7_get l E a_o a_o_cells n_o_cells o_width o_many o_cells v1 v2 u6 hu6) [0, 1] cal_X7_get cav_X7_get lk_X7_30 cx hP hD hS hl dX7_raiseBy_6 rfl rfl rfl rfl (Nat.le_of_ble_eq_true rfl) ⟨Nat.le_of_ble_eq_true rfl, Nat.le_of_ble_eq_true rfl⟩ rfl (by decide) (fun H locs hP hS => ?_)
  refine lv_iload_n hx hb dX7_raiseBy_9 rfl (lv_at hl 3 rfl) ?_
  refine lv_iadd hx hb dX7_raiseBy_10 ?_
  obtain ⟨u11, hu11, hf⟩ := bd hf
  refine callVV (wn := (wd_X7_raiseBy E a_o a_o_cells n_o_cells o_width o_many u11)) (n1 := 2) (ct_X7_set l E a_o a_o_cells n_o_cells o_width o_many o_cells v1 v2 (u6 + v3) u11 hu11) [0, 1] cal_X7_set cav_X7_set lk_X7_26 cx hP hD hS hl dX7_raiseBy_11 rfl rfl rfl rfl (Nat.le_of_ble_eq_true rfl) ⟨Nat.le_of_ble_eq_true rfl, Nat.le_of_ble_eq_true rfl⟩ rfl (by decide +kernel) rfl [some 0, some 1] rfl (by decide +kernel) rfl (fun H locs hP hD hS => ?_)
  obtain rfl := Option.some.inj hf
  subst hq
  exact retV cx hP hD hS dX7_raiseBy_14
def X0_putOff (o_happenings_many : Int32) (o_happenings_cells : Nat → Int32) (v1 : Int32) (v2 : Int32) : Option (Int32 × (Nat → Int32)) :=
  (X0_isToCome o_happenings_many o_happenings_cells v1).bind fun u2 =>
  if u2 = 0 then
  some (0, o_happenings_cells)
  else
  (X7_get 40 5 o_happenings_many o_happenings_cells v1 (1 : Int32)).bind fun u14 =>
  if (u14 + v2) ≤ 9999 then
  (X7_raiseBy 40 5 o_happenings_many o_happenings_cells v1 (1 : Int32) v2).bind fun u34 =>
  some (1, u34)
  else
  some (0, o_happenings_cells)
abbrev wd_X0_putOff (E : vE) (a_o a_o_streets a_o_names a_o_extras a_o_happenings a_o_watchers a_o_weeks a_o_happenings_cells : Nat) (o_wage : Int32) (o_delay : Int32) (o_odds : Int32) (o_clock : Int32) (o_hasWeeks : Int32) (o_happenings_many : Int32) (o_happenings_cells : Nat → Int32) : va_W := [(a_o, .inr (0, [.int o_wage, .int o_delay, .int o_odds, .int o_clock, .int o_hasWeeks, .ref a_o_streets, .ref a_o_names, .ref a_o_extras, .ref a_o_happenings, .ref a_o_watchers, .ref a_o_weeks])), (a_o_happenings, .inr (7, [.int 5, .ref a_o_happenings_cells, .int o_happenings_many])), (a_o_happenings_cells, .inl (E.2.1, 40, .inl o_happenings_cells))]
set_option maxHeartbeats 4000000 in
set_option maxRecDepth 100000 in
theorem ct_X0_putOff (l : Launch) (E : vE) (a_o a_o_streets a_o_names a_o_extras a_o_happenings a_o_watchers a_o_weeks a_o_happenings_cells : Nat) (o_wage : Int32) (o_delay : Int32) (o_odds : Int32) (o_clock : Int32) (o_hasWeeks : Int32) (o_happenings_many : Int32) (o_happenings_cells : Nat → Int32) (v1 : Int32) (v2 : Int32) (u : Int32 × (Nat → Int32)) (hf : X0_putOff o_happenings_many o_happenings_cells v1 v2 = some u) :
    CtI l yX0_putOff cX0_putOff 3 (some .boolean) 2 E [.ref a_o, .int v1, .int v2] (wd_X0_putOff E a_o a_o_streets a_o_names a_o_extras a_o_happenings a_o_watchers a_o_weeks a_o_happenings_cells o_wage o_delay o_odds o_clock o_hasWeeks o_happenings_many o_happenings_cells) (wd_X0_putOff E a_o a_o_streets a_o_names a_o_extras a_o_happenings a_o_watchers a_o_weeks a_o_happenings_cells o_wage o_delay o_odds o_clock o_hasWeeks o_happenings_many u.2) u.1 := by
  refine ctI (by decide) (Nat.le_of_ble_eq_true rfl) ?_
  intro p e s m below meth cd A ls aa QQ hq cx hP hD hS hl
  obtain ⟨⟨hx, hb, hml, hown, hts⟩, hr, hlocks, hK, hA, hX⟩ := id cx
  have hl : lv_has ls 3 [(0, .ref a_o), (1, .int v1), (2, .int v2)] := hl
  unfold X0_putOff at hf
  refine lv_aload_n hx hb dX0_putOff_0 rfl (lv_at hl 0 rfl) ?_
  refine lv_iload_n hx hb dX0_putOff_1 rfl (lv_at hl 1 rfl) ?_
  obtain ⟨u2, hu2, hf⟩ := bd hf
  refine keepVI (ct_X0_isToCome l E a_o a_o_streets a_o_names a_o_extras a_o_happenings a_o_watchers a_o_weeks a_o_happenings_cells o_wage o_delay o_odds o_clock o_hasWeeks o_happenings_many o_happenings_cells v1 u2 hu2) [0, 1, 2] cal_X0_isToCome cav_X0_isToCome lk_X0_99 cx hP hD hS hl dX0_putOff_2 rfl rfl rfl rfl (Nat.le_of_ble_eq_true rfl) ⟨Nat.le_of_ble_eq_true rfl, Nat.le_of_ble_eq_true rfl⟩ rfl (by decide) (fun H locs hP hS => ?_)
  refine lv_if_eq (tgt := 25) hx hb dX0_putOff_5 (by decide) (fun hc => ?_) (fun hc => ?_)
  · have hf := it_t hc hf
    refine lv_iconst (v := 0) hx hb dX0_putOff_25 (by decide) ?_
    obtain rfl := Option.some.inj hf
    subst hq
    exact retZ cx rfl hP hD hS dX0_putOff_26
  · have hf := it_f hc hf
    refine lv_aload_n hx hb dX0_putOff_8 rfl (lv_at hl 0 rfl) ?_
    refine va_get (D := E.1) (ci := 0) (v := .ref a_o_happenings) (C := RX0) (T := TX0) (N := 11) hx hb hts inX0 hown hK hP 0 rfl rfl 8 (by decide) (hts _ fl_X0_34) (fun _ h9 => h9) rfl dX0_putOff_9 ?_
    refine lv_iload_n hx hb dX0_putOff_12 rfl (lv_at hl 1 rfl) ?_
    refine lv_iconst (v := 1) hx hb dX0_putOff_13 (by decide) ?_
    obtain ⟨u14, hu14, hf⟩ := bd hf
    refine keepVI (ct_X7_get l E a_o_happenings a_o_happenings_cells 40 5 o_happenings_many o_happenings_cells v1 (1 : Int32) u14 hu14) [1, 2] cal_X7_get cav_X7_get lk_X0_92 cx hP hD hS hl dX0_putOff_14 rfl rfl rfl rfl (Nat.le_of_ble_eq_true rfl) ⟨Nat.le_of_ble_eq_true rfl, Nat.le_of_ble_eq_true rfl⟩ rfl (by decide) (fun H locs hP hS => ?_)
    refine lv_iload_n hx hb dX0_putOff_17 rfl (lv_at hl 2 rfl) ?_
    refine lv_iadd hx hb dX0_putOff_18 ?_
    refine lv_sipush (v := 9999) hx hb dX0_putOff_19 (by decide) ?_
    refine lv_icmp_le (tgt := 27) hx hb dX0_putOff_22 (by decide) (fun hc => ?_) (fun hc => ?_)
    · have hf := it_t hc hf
      refine lv_aload_n hx hb dX0_putOff_27 rfl (lv_at hl 0 rfl) ?_
      refine va_get (D := E.1) (ci := 0) (v := .ref a_o_happenings) (C := RX0) (T := TX0) (N := 11) hx hb hts inX0 hown hK hP 0 rfl rfl 8 (by decide) (hts _ fl_X0_34) (fun _ h9 => h9) rfl dX0_putOff_28 ?_
      refine lv_iload_n hx hb dX0_putOff_31 rfl (lv_at hl 1 rfl) ?_
      refine lv_iconst (v := 1) hx hb dX0_putOff_32 (by decide) ?_
      refine lv_iload_n hx hb dX0_putOff_33 rfl (lv_at hl 2 rfl) ?_
      obtain ⟨u34, hu34, hf⟩ := bd hf
      refine callVV (wn := (wd_X0_putOff E a_o a_o_streets a_o_names a_o_extras a_o_happenings a_o_watchers a_o_weeks a_o_happenings_cells o_wage o_delay o_odds o_clock o_hasWeeks o_happenings_many u34)) (n1 := 3) (ct_X7_raiseBy l E a_o_happenings a_o_happenings_cells 40 5 o_happenings_many o_happenings_cells v1 (1 : Int32) v2 u34 hu34) [1, 2] cal_X7_raiseBy cav_X7_raiseBy lk_X0_103 cx hP hD hS hl dX0_putOff_34 rfl rfl rfl rfl (Nat.le_of_ble_eq_true rfl) ⟨Nat.le_of_ble_eq_true rfl, Nat.le_of_ble_eq_true rfl⟩ rfl (by decide +kernel) rfl [none, some 0, some 1] rfl (by decide +kernel) rfl (fun H locs hP hD hS => ?_)
      refine lv_iconst (v := 1) hx hb dX0_putOff_37 (by decide) ?_
      obtain rfl := Option.some.inj hf
      subst hq
      exact retZ cx rfl hP hD hS dX0_putOff_38
    · have hf := it_f hc hf
      refine lv_iconst (v := 0) hx hb dX0_putOff_25 (by decide) ?_
      obtain rfl := Option.some.inj hf
      subst hq
      exact retZ cx rfl hP hD hS dX0_putOff_26
def X0_greatnessOf_j36 (F : Nat) (o_happenings_many : Int32) (o_happenings_cells : Nat → Int32) (v1 : Int32) (v2 : Int32) (v3 : Int32) : Option ((Int32 × Int32) ⊕ ((Int32))) :=
  some (.inl (v2, (v3 + 1)))
def X0_greatnessOf_b4 (F : Nat) (o_happenings_many : Int32) (o_happenings_cells : Nat → Int32) (v1 : Int32) (st4 : Int32 × Int32) : Option ((Int32 × Int32) ⊕ ((Int32))) :=
  if o_happenings_many ≤ st4.2 then
  some (.inr st4.1)
  else
  if ((jshr v1 st4.2) &&& 1) = 1 then
  (X7_get 40 5 o_happenings_many o_happenings_cells st4.2 (2 : Int32)).bind fun u31 =>
  X0_greatnessOf_j36 F o_happenings_many o_happenings_cells v1 (st4.1 + u31) st4.2
  else
  X0_greatnessOf_j36 F o_happenings_many o_happenings_cells v1 st4.1 st4.2
def X0_greatnessOf (F : Nat) (o_happenings_many : Int32) (o_happenings_cells : Nat → Int32) (v1 : Int32) : Option (Int32) :=
  (iter (X0_greatnessOf_b4 F o_happenings_many o_happenings_cells v1) F (0, 0)).bind (fun (e4 : Int32) =>
    some e4)
abbrev wd_X0_greatnessOf (E : vE) (a_o a_o_streets a_o_names a_o_extras a_o_happenings a_o_watchers a_o_weeks a_o_happenings_cells : Nat) (o_wage : Int32) (o_delay : Int32) (o_odds : Int32) (o_clock : Int32) (o_hasWeeks : Int32) (o_happenings_many : Int32) (o_happenings_cells : Nat → Int32) : va_W := [(a_o, .inr (0, [.int o_wage, .int o_delay, .int o_odds, .int o_clock, .int o_hasWeeks, .ref a_o_streets, .ref a_o_names, .ref a_o_extras, .ref a_o_happenings, .ref a_o_watchers, .ref a_o_weeks])), (a_o_happenings, .inr (7, [.int 5, .ref a_o_happenings_cells, .int o_happenings_many])), (a_o_happenings_cells, .inl (E.2.1, 40, .inl o_happenings_cells))]
set_option maxHeartbeats 4000000 in
set_option maxRecDepth 100000 in
theorem ct_X0_greatnessOf (l : Launch) (E : vE) (F : Nat) (a_o a_o_streets a_o_names a_o_extras a_o_happenings a_o_watchers a_o_weeks a_o_happenings_cells : Nat) (o_wage : Int32) (o_delay : Int32) (o_odds : Int32) (o_clock : Int32) (o_hasWeeks : Int32) (o_happenings_many : Int32) (o_happenings_cells : Nat → Int32) (v1 : Int32) (u : Int32) (hf : X0_greatnessOf F o_happenings_many o_happenings_cells v1 = some u) :
    CtI l yX0_greatnessOf cX0_greatnessOf 4 (some .int) 1 E [.ref a_o, .int v1] (wd_X0_greatnessOf E a_o a_o_streets a_o_names a_o_extras a_o_happenings a_o_watchers a_o_weeks a_o_happenings_cells o_wage o_delay o_odds o_clock o_hasWeeks o_happenings_many o_happenings_cells) (wd_X0_greatnessOf E a_o a_o_streets a_o_names a_o_extras a_o_happenings a_o_watchers a_o_weeks a_o_happenings_cells o_wage o_delay o_odds o_clock o_hasWeeks o_happenings_many o_happenings_cells) u := by
  refine ctI (by decide) (Nat.le_of_ble_eq_true rfl) ?_
  intro p e s m below meth cd A ls aa QQ hq cx hP hD hS hl
  obtain ⟨⟨hx, hb, hml, hown, hts⟩, hr, hlocks, hK, hA, hX⟩ := id cx
  have hl : lv_has ls 4 [(0, .ref a_o), (1, .int v1)] := hl
  unfold X0_greatnessOf at hf
  refine lv_iconst (v := 0) hx hb dX0_greatnessOf_0 (by decide) ?_
  refine lv_istore_n (lv' := [(2, .int 0), (0, .ref a_o), (1, .int v1)]) hx hb dX0_greatnessOf_1 rfl hl (by decide) rfl (fun ls hl => ?_)
  refine lv_iconst (v := 0) hx hb dX0_greatnessOf_2 (by decide) ?_
  refine lv_istore_n (lv' := [(3, .int 0), (2, .int 0), (0, .ref a_o), (1, .int v1)]) hx hb dX0_greatnessOf_3 rfl hl (by decide) rfl (fun ls hl => ?_)
  obtain ⟨e4, hit4, hf⟩ := bd hf
  refine iter_W (b := X0_greatnessOf_b4 F o_happenings_many o_happenings_cells v1) (P := fun st4 => ∀ (H : Heap) (locs : List Loc) (ls : Array Slot), va_P E.1 vwCl (wd_X0_greatnessOf E a_o a_o_streets a_o_names a_o_extras a_o_happenings a_o_watchers a_o_weeks a_o_happenings_cells o_wage o_delay o_odds o_clock o_hasWeeks o_happenings_many o_happenings_cells) H → va_D A (wd_X0_greatnessOf E a_o a_o_streets a_o_names a_o_extras a_o_happenings a_o_watchers a_o_weeks a_o_happenings_cells o_wage o_delay o_odds o_clock o_hasWeeks o_happenings_many o_happenings_cells) → va_S A s.heap H locs → lv_has ls 4 [(0, .ref a_o), (1, .int v1), (2, .int st4.1), (3, .int st4.2)] → W p l e (rmd 1) s m aa below meth cd H locs 0 0 QQ (F0 m 4 ls [])) (G := (fun (e4 : Int32) => ∀ (H : Heap) (locs : List Loc) (ls : Array Slot), va_P E.1 vwCl (wd_X0_greatnessOf E a_o a_o_streets a_o_names a_o_extras a_o_happenings a_o_watchers a_o_weeks a_o_happenings_cells o_wage o_delay o_odds o_clock o_hasWeeks o_happenings_many o_happenings_cells) H → va_D A (wd_X0_greatnessOf E a_o a_o_streets a_o_names a_o_extras a_o_happenings a_o_watchers a_o_weeks a_o_happenings_cells o_wage o_delay o_odds o_clock o_hasWeeks o_happenings_many o_happenings_cells) → va_S A s.heap H locs → lv_has ls 4 [(2, .int e4)] → W p l e (rmd 1) s m aa below meth cd H locs 0 0 QQ (F0 m 42 ls []))) ?_ F (0, 0) e4 hit4 ?_ _ _ _ hP hD hS (lv_sub hl [2, 3, 1, 0] rfl)
  · intro st4 r4 hf hk4 he4 H locs ls hP hD hS hl
    have hj36 : ∀ (v2_j36 : Int32) (v3_j36 : Int32) (H : Heap) (locs : List Loc) (ls : Array Slot), X0_greatnessOf_j36 F o_happenings_many o_happenings_cells v1 v2_j36 v3_j36 = some r4 → va_P E.1 vwCl (wd_X0_greatnessOf E a_o a_o_streets a_o_names a_o_extras a_o_happenings a_o_watchers a_o_weeks a_o_happenings_cells o_wage o_delay o_odds o_clock o_hasWeeks o_happenings_many o_happenings_cells) H → va_D A (wd_X0_greatnessOf E a_o a_o_streets a_o_names a_o_extras a_o_happenings a_o_watchers a_o_weeks a_o_happenings_cells o_wage o_delay o_odds o_clock o_hasWeeks o_happenings_many o_happenings_cells) → va_S A s.heap H locs → lv_has ls 4 [(0, .ref a_o), (1, .int v1), (2, .int v2_j36), (3, .int v3_j36)] → W p l e (rmd 1) s m aa below meth cd H locs 0 0 QQ (F0 m 36 ls []) := by
      intro v2_j36 v3_j36 H locs ls hf hP hD hS hl
      unfold X0_greatnessOf_j36 at hf
      refine lv_iinc (v := (v3_j36 + 1)) (lv' := [(3, .int (v3_j36 + 1)), (0, .ref a_o), (1, .int v1), (2, .int v2_j36)]) hx hb dX0_greatnessOf_36 hl (k := 3) rfl rfl (by decide) rfl (fun ls hl => ?_)
      refine lv_goto (tgt := 4) hx hb dX0_greatnessOf_39 (by decide) ?_
      exact hk4 _ (Option.some.inj hf).symm _ _ _ hP hD hS (lv_sub hl [1, 2, 3, 0] rfl)
    unfold X0_greatnessOf_b4 at hf
    refine lv_iload_n hx hb dX0_greatnessOf_4 rfl (lv_at hl 3 rfl) ?_
    refine lv_aload_n hx hb dX0_greatnessOf_5 rfl (lv_at hl 0 rfl) ?_
    refine va_get (D := E.1) (ci := 0) (v := .ref a_o_happenings) (C := RX0) (T := TX0) (N := 11) hx hb hts inX0 hown hK hP 0 rfl rfl 8 (by decide) (hts _ fl_X0_34) (fun _ h9 => h9) rfl dX0_greatnessOf_6 ?_
    refine va_get (D := E.1) (ci := 7) (v := .int o_happenings_many) (C := RX7) (T := TX7) (N := 3) hx hb hts inX7 hown hK hP 1 rfl rfl 2 (by decide) (hts _ fl_X0_67) (fun _ h9 => h9) rfl dX0_greatnessOf_9 ?_
    refine lv_icmp_ge (tgt := 42) hx hb dX0_greatnessOf_12 (by decide) (fun hc => ?_) (fun hc => ?_)
    · have hf := it_t hc hf
      exact he4 _ (Option.some.inj hf).symm _ _ _ hP hD hS (lv_sub hl [2] rfl)
    · have hf := it_f hc hf
      refine lv_iload_n hx hb dX0_greatnessOf_15 rfl (lv_at hl 1 rfl) ?_
      refine lv_iload_n hx hb dX0_greatnessOf_16 rfl (lv_at hl 3 rfl) ?_
      refine r_ishr hx hb dX0_greatnessOf_17 ?_
      refine lv_iconst (v := 1) hx hb dX0_greatnessOf_18 (by decide) ?_
      refine lv_iand hx hb dX0_greatnessOf_19 ?_
      refine lv_iconst (v := 1) hx hb dX0_greatnessOf_20 (by decide) ?_
      refine lv_icmp_ne (tgt := 36) hx hb dX0_greatnessOf_21 (by decide) (fun hc => ?_) (fun hc => ?_)
      · have hf := it_f hc hf
        exact hj36 _ _ _ _ _ hf hP hD hS (lv_sub hl [0, 1, 2, 3] rfl)
      · have hf := it_t hc hf
        refine lv_iload_n hx hb dX0_greatnessOf_24 rfl (lv_at hl 2 rfl) ?_
        refine lv_aload_n hx hb dX0_greatnessOf_25 rfl (lv_at hl 0 rfl) ?_
        refine va_get (D := E.1) (ci := 0) (v := .ref a_o_happenings) (C := RX0) (T := TX0) (N := 11) hx hb hts inX0 hown hK hP 0 rfl rfl 8 (by decide) (hts _ fl_X0_34) (fun _ h9 => h9) rfl dX0_greatnessOf_26 ?_
        refine lv_iload_n hx hb dX0_greatnessOf_29 rfl (lv_at hl 3 rfl) ?_
        refine lv_iconst (v := 2) hx hb dX0_greatnessOf_30 (by decide) ?_
        obtain ⟨u31, hu31, hf⟩ := bd hf
        refine keepVI (ct_X7_get l E a_o_happenings a_o_happenings_cells 40 5 o_happenings_many o_happenings_cells st4.2 (2 : Int32) u31 hu31) [1, 2] cal_X7_get cav_X7_get lk_X0_92 cx hP hD hS hl dX0_greatnessOf_31 rfl rfl rfl rfl (Nat.le_of_ble_eq_true rfl) ⟨Nat.le_of_ble_eq_true rfl, Nat.le_of_ble_eq_true rfl⟩ rfl (by decide) (fun H locs hP hS => ?_)
        refine lv_iadd hx hb dX0_greatnessOf_34 ?_
        refine lv_istore_n (lv' := [(2, .int (st4.1 + u31)), (0, .ref a_o), (1, .int v1), (3, .int st4.2)]) hx hb dX0_greatnessOf_35 rfl hl (by decide) rfl (fun ls hl => ?_)
        exact hj36 _ _ _ _ _ hf hP hD hS (lv_sub hl [1, 2, 0, 3] rfl)
  · refine fun H locs ls hP hD hS hl => ?_
    refine lv_iload_n hx hb dX0_greatnessOf_42 rfl (lv_at hl 0 rfl) ?_
    obtain rfl := Option.some.inj hf
    subst hq
    exact retI cx hP hD hS dX0_greatnessOf_43
def X0_wagesOf (F : Nat) (o_wage : Int32) (o_happenings_many : Int32) (o_happenings_cells : Nat → Int32) (v1 : Int32) : Option (Int32) :=
  (X0_greatnessOf F o_happenings_many o_happenings_cells v1).bind fun u6 =>
  some (o_wage * u6)
abbrev wd_X0_wagesOf (E : vE) (a_o a_o_streets a_o_names a_o_extras a_o_happenings a_o_watchers a_o_weeks a_o_happenings_cells : Nat) (o_wage : Int32) (o_delay : Int32) (o_odds : Int32) (o_clock : Int32) (o_hasWeeks : Int32) (o_happenings_many : Int32) (o_happenings_cells : Nat → Int32) : va_W := [(a_o, .inr (0, [.int o_wage, .int o_delay, .int o_odds, .int o_clock, .int o_hasWeeks, .ref a_o_streets, .ref a_o_names, .ref a_o_extras, .ref a_o_happenings, .ref a_o_watchers, .ref a_o_weeks])), (a_o_happenings, .inr (7, [.int 5, .ref a_o_happenings_cells, .int o_happenings_many])), (a_o_happenings_cells, .inl (E.2.1, 40, .inl o_happenings_cells))]
set_option maxHeartbeats 4000000 in
set_option maxRecDepth 100000 in
theorem ct_X0_wagesOf (l : Launch) (E : vE) (F : Nat) (a_o a_o_streets a_o_names a_o_extras a_o_happenings a_o_watchers a_o_weeks a_o_happenings_cells : Nat) (o_wage : Int32) (o_delay : Int32) (o_odds : Int32) (o_clock : Int32) (o_hasWeeks : Int32) (o_happenings_many : Int32) (o_happenings_cells : Nat → Int32) (v1 : Int32) (u : Int32) (hf : X0_wagesOf F o_wage o_happenings_many o_happenings_cells v1 = some u) :
    CtI l yX0_wagesOf cX0_wagesOf 2 (some .int) 2 E [.ref a_o, .int v1] (wd_X0_wagesOf E a_o a_o_streets a_o_names a_o_extras a_o_happenings a_o_watchers a_o_weeks a_o_happenings_cells o_wage o_delay o_odds o_clock o_hasWeeks o_happenings_many o_happenings_cells) (wd_X0_wagesOf E a_o a_o_streets a_o_names a_o_extras a_o_happenings a_o_watchers a_o_weeks a_o_happenings_cells o_wage o_delay o_odds o_clock o_hasWeeks o_happenings_many o_happenings_cells) u := by
  refine ctI (by decide) (Nat.le_of_ble_eq_true rfl) ?_
  intro p e s m below meth cd A ls aa QQ hq cx hP hD hS hl
  obtain ⟨⟨hx, hb, hml, hown, hts⟩, hr, hlocks, hK, hA, hX⟩ := id cx
  have hl : lv_has ls 2 [(0, .ref a_o), (1, .int v1)] := hl
  unfold X0_wagesOf at hf
  refine lv_aload_n hx hb dX0_wagesOf_0 rfl (lv_at hl 0 rfl) ?_
  refine va_get (D := E.1) (ci := 0) (v := .int o_wage) (C := RX0) (T := TX0) (N := 11) hx hb hts inX0 hown hK hP 0 rfl rfl 0 (by decide) (hts _ fl_X0_48) (fun _ h9 => h9) rfl dX0_wagesOf_1 ?_
  refine lv_aload_n hx hb dX0_wagesOf_4 rfl (lv_at hl 0 rfl) ?_
  refine lv_iload_n hx hb dX0_wagesOf_5 rfl (lv_at hl 1 rfl) ?_
  obtain ⟨u6, hu6, hf⟩ := bd hf
  refine keepVI (ct_X0_greatnessOf l E F a_o a_o_streets a_o_names a_o_extras a_o_happenings a_o_watchers a_o_weeks a_o_happenings_cells o_wage o_delay o_odds o_clock o_hasWeeks o_happenings_many o_happenings_cells v1 u6 hu6) [0, 1, 2] cal_X0_greatnessOf cav_X0_greatnessOf lk_X0_106 cx hP hD hS hl dX0_wagesOf_6 rfl rfl rfl rfl (Nat.le_of_ble_eq_true rfl) ⟨Nat.le_of_ble_eq_true rfl, Nat.le_of_ble_eq_true rfl⟩ rfl (by decide) (fun H locs hP hS => ?_)
  refine lv_imul hx hb dX0_wagesOf_9 ?_
  obtain rfl := Option.some.inj hf
  subst hq
  exact retI cx hP hD hS dX0_wagesOf_10
def X0_soonest_j52 (F : Nat) (o_happenings_many : Int32) (o_happenings_cells : Nat → Int32) (v1 : Int32) (v2 : Int32) (v3 : Int32) : Option ((Int32 × Int32) ⊕ ((Int32))) :=
  some (.inl (v2, (v3 + 1)))
def X0_soonest_j50 (F : Nat) (o_happenings_many : Int32) (o_happenings_cells : Nat → Int32) (v1 : Int32) (v3 : Int32) : Option ((Int32 × Int32) ⊕ ((Int32))) :=
  X0_soonest_j52 F o_happenings_many o_happenings_cells v1 v3 v3
def X0_soonest_b4 (F : Nat) (o_happenings_many : Int32) (o_happenings_cells : Nat → Int32) (v1 : Int32) (st4 : Int32 × Int32) : Option ((Int32 × Int32) ⊕ ((Int32))) :=
  if o_happenings_many ≤ st4.2 then
  some (.inr st4.1)
  else
  if ((jshr v1 st4.2) &&& 1) = 1 then
  if st4.1 = (-1) then
  X0_soonest_j50 F o_happenings_many o_happenings_cells v1 st4.2
  else
  (X7_get 40 5 o_happenings_many o_happenings_cells st4.2 (1 : Int32)).bind fun u35 =>
  (X7_get 40 5 o_happenings_many o_happenings_cells st4.1 (1 : Int32)).bind fun u44 =>
  if u44 ≤ u35 then
  X0_soonest_j52 F o_happenings_many o_happenings_cells v1 st4.1 st4.2
  else
  X0_soonest_j50 F o_happenings_many o_happenings_cells v1 st4.2
  else
  X0_soonest_j52 F o_happenings_many o_happenings_cells v1 st4.1 st4.2
def X0_soonest (F : Nat) (o_happenings_many : Int32) (o_happenings_cells : Nat → Int32) (v1 : Int32) : Option (Int32) :=
  (iter (X0_soonest_b4 F o_happenings_many o_happenings_cells v1) F ((-1), 0)).bind (fun (e4 : Int32) =>
    some e4)
abbrev wd_X0_soonest (E : vE) (a_o a_o_streets a_o_names a_o_extras a_o_happenings a_o_watchers a_o_weeks a_o_happenings_cells : Nat) (o_wage : Int32) (o_delay : Int32) (o_odds : Int32) (o_clock : Int32) (o_hasWeeks : Int32) (o_happenings_many : Int32) (o_happenings_cells : Nat → Int32) : va_W := [(a_o, .inr (0, [.int o_wage, .int o_delay, .int o_odds, .int o_clock, .int o_hasWeeks, .ref a_o_streets, .ref a_o_names, .ref a_o_extras, .ref a_o_happenings, .ref a_o_watchers, .ref a_o_weeks])), (a_o_happenings, .inr (7, [.int 5, .ref a_o_happenings_cells, .int o_happenings_many])), (a_o_happenings_cells, .inl (E.2.1, 40, .inl o_happenings_cells))]
set_option maxHeartbeats 4000000 in
set_option maxRecDepth 100000 in
theorem ct_X0_soonest (l : Launch) (E : vE) (F : Nat) (a_o a_o_streets a_o_names a_o_extras a_o_happenings a_o_watchers a_o_weeks a_o_happenings_cells : Nat) (o_wage : Int32) (o_delay : Int32) (o_odds : Int32) (o_clock : Int32) (o_hasWeeks : Int32) (o_happenings_many : Int32) (o_happenings_cells : Nat → Int32) (v1 : Int32) (u : Int32) (hf : X0_soonest F o_happenings_many o_happenings_cells v1 = some u) :
    CtI l yX0_soonest cX0_soonest 4 (some .int) 1 E [.ref a_o, .int v1] (wd_X0_soonest E a_o a_o_streets a_o_names a_o_extras a_o_happenings a_o_watchers a_o_weeks a_o_happenings_cells o_wage o_delay o_odds o_clock o_hasWeeks o_happenings_many o_happenings_cells) (wd_X0_soonest E a_o a_o_streets a_o_names a_o_extras a_o_happenings a_o_watchers a_o_weeks a_o_happenings_cells o_wage o_delay o_odds o_clock o_hasWeeks o_happenings_many o_happenings_cells) u := by
  refine ctI (by decide) (Nat.le_of_ble_eq_true rfl) ?_
  intro p e s m below meth cd A ls aa QQ hq cx hP hD hS hl
  obtain ⟨⟨hx, hb, hml, hown, hts⟩, hr, hlocks, hK, hA, hX⟩ := id cx
  have hl : lv_has ls 4 [(0, .ref a_o), (1, .int v1)] := hl
  unfold X0_soonest at hf
  refine lv_iconst (v := (-1)) hx hb dX0_soonest_0 (by decide) ?_
  refine lv_istore_n (lv' := [(2, .int (-1)), (0, .ref a_o), (1, .int v1)]) hx hb dX0_soonest_1 rfl hl (by decide) rfl (fun ls hl => ?_)
  refine lv_iconst (v := 0) hx hb dX0_soonest_2 (by decide) ?_
  refine lv_istore_n (lv' := [(3, .int 0), (2, .int (-1)), (0, .ref a_o), (1, .int v1)]) hx hb dX0_soonest_3 rfl hl (by decide) rfl (fun ls hl => ?_)
  obtain ⟨e4, hit4, hf⟩ := bd hf
  refine iter_W (b := X0_soonest_b4 F o_happenings_many o_happenings_cells v1) (P := fun st4 => ∀ (H : Heap) (locs : List Loc) (ls : Array Slot), va_P E.1 vwCl (wd_X0_soonest E a_o a_o_streets a_o_names a_o_extras a_o_happenings a_o_watchers a_o_weeks a_o_happenings_cells o_wage o_delay o_odds o_clock o_hasWeeks o_happenings_many o_happenings_cells) H → va_D A (wd_X0_soonest E a_o a_o_streets a_o_names a_o_extras a_o_happenings a_o_watchers a_o_weeks a_o_happenings_cells o_wage o_delay o_odds o_clock o_hasWeeks o_happenings_many o_happenings_cells) → va_S A s.heap H locs → lv_has ls 4 [(0, .ref a_o), (1, .int v1), (2, .int st4.1), (3, .int st4.2)] → W p l e (rmd 1) s m aa below meth cd H locs 0 0 QQ (F0 m 4 ls [])) (G := (fun (e4 : Int32) => ∀ (H : Heap) (locs : List Loc) (ls : Array Slot), va_P E.1 vwCl (wd_X0_soonest E a_o a_o_streets a_o_names a_o_extras a_o_happenings a_o_watchers a_o_weeks a_o_happenings_cells o_wage o_delay o_odds o_clock o_hasWeeks o_happenings_many o_happenings_cells) H → va_D A (wd_X0_soonest E a_o a_o_streets a_o_names a_o_extras a_o_happenings a_o_watchers a_o_weeks a_o_happenings_cells o_wage o_delay o_odds o_clock o_hasWeeks o_happenings_many o_happenings_cells) → va_S A s.heap H locs → lv_has ls 4 [(2, .int e4)] → W p l e (rmd 1) s m aa below meth cd H locs 0 0 QQ (F0 m 58 ls []))) ?_ F ((-1), 0) e4 hit4 ?_ _ _ _ hP hD hS (lv_sub hl [2, 3, 1, 0] rfl)
  · intro st4 r4 hf hk4 he4 H locs ls hP hD hS hl
    have hj52 : ∀ (v2_j52 : Int32) (v3_j52 : Int32) (H : Heap) (locs : List Loc) (ls : Array Slot), X0_soonest_j52 F o_happenings_many o_happenings_cells v1 v2_j52 v3_j52 = some r4 → va_P E.1 vwCl (wd_X0_soonest E a_o a_o_streets a_o_names a_o_extras a_o_happenings a_o_watchers a_o_weeks a_o_happenings_cells o_wage o_delay o_odds o_clock o_hasWeeks o_happenings_many o_happenings_cells) H → va_D A (wd_X0_soonest E a_o a_o_streets a_o_names a_o_extras a_o_happenings a_o_watchers a_o_weeks a_o_happenings_cells o_wage o_delay o_odds o_clock o_hasWeeks o_happenings_many o_happenings_cells) → va_S A s.heap H locs → lv_has ls 4 [(0, .ref a_o), (1, .int v1), (2, .int v2_j52), (3, .int v3_j52)] → W p l e (rmd 1) s m aa below meth cd H locs 0 0 QQ (F0 m 52 ls []) := by
      intro v2_j52 v3_j52 H locs ls hf hP hD hS hl
      unfold X0_soonest_j52 at hf
      refine lv_iinc (v := (v3_j52 + 1)) (lv' := [(3, .int (v3_j52 + 1)), (0, .ref a_o), (1, .int v1), (2, .int v2_j52)]) hx hb dX0_soonest_52 hl (k := 3) rfl rfl (by decide) rfl (fun ls hl => ?_)
      refine lv_goto (tgt := 4) hx hb dX0_soonest_55 (by decide) ?_
      exact hk4 _ (Option.some.inj hf).symm _ _ _ hP hD hS (lv_sub hl [1, 2, 3, 0] rfl)
    have hj50 : ∀ (v3_j50 : Int32) (H : Heap) (locs : List Loc) (ls : Array Slot), X0_soonest_j50 F o_happenings_many o_happenings_cells v1 v3_j50 = some r4 → va_P E.1 vwCl (wd_X0_soonest E a_o a_o_streets a_o_names a_o_extras a_o_happenings a_o_watchers a_o_weeks a_o_happenings_cells o_wage o_delay o_odds o_clock o_hasWeeks o_happenings_many o_happenings_cells) H → va_D A (wd_X0_soonest E a_o a_o_streets a_o_names a_o_extras a_o_happenings a_o_watchers a_o_weeks a_o_happenings_cells o_wage o_delay o_odds o_clock o_hasWeeks o_happenings_many o_happenings_cells) → va_S A s.heap H locs → lv_has ls 4 [(0, .ref a_o), (1, .int v1), (3, .int v3_j50)] → W p l e (rmd 1) s m aa below meth cd H locs 0 0 QQ (F0 m 50 ls []) := by
      intro v3_j50 H locs ls hf hP hD hS hl
      unfold X0_soonest_j50 at hf
      refine lv_iload_n hx hb dX0_soonest_50 rfl (lv_at hl 2 rfl) ?_
      refine lv_istore_n (lv' := [(2, .int v3_j50), (0, .ref a_o), (1, .int v1), (3, .int v3_j50)]) hx hb dX0_soonest_51 rfl hl (by decide) rfl (fun ls hl => ?_)
      exact hj52 _ _ _ _ _ hf hP hD hS (lv_sub hl [1, 2, 0, 3] rfl)
    unfold X0_soonest_b4 at hf
    refine lv_iload_n hx hb dX0_soonest_4 rfl (lv_at hl 3 rfl) ?_
    refine lv_aload_n hx hb dX0_soonest_5 rfl (lv_at hl 0 rfl) ?_
    refine va_get (D := E.1) (ci := 0) (v := .ref a_o_happenings) (C := RX0) (T := TX0) (N := 11) hx hb hts inX0 hown hK hP 0 rfl rfl 8 (by decide) (hts _ fl_X0_34) (fun _ h9 => h9) rfl dX0_soonest_6 ?_
    refine va_get (D := E.1) (ci := 7) (v := .int o_happenings_many) (C := RX7) (T := TX7) (N := 3) hx hb hts inX7 hown hK hP 1 rfl rfl 2 (by decide) (hts _ fl_X0_67) (fun _ h9 => h9) rfl dX0_soonest_9 ?_
    refine lv_icmp_ge (tgt := 58) hx hb dX0_soonest_12 (by decide) (fun hc => ?_) (fun hc => ?_)
    · have hf := it_t hc hf
      exact he4 _ (Option.some.inj hf).symm _ _ _ hP hD hS (lv_sub hl [2] rfl)
    · have hf := it_f hc hf
      refine lv_iload_n hx hb dX0_soonest_15 rfl (lv_at hl 1 rfl) ?_
      refine lv_iload_n hx hb dX0_soonest_16 rfl (lv_at hl 3 rfl) ?_
      refine r_ishr hx hb dX0_soonest_17 ?_
      refine lv_iconst (v := 1) hx hb dX0_soonest_18 (by decide) ?_
      refine lv_iand hx hb dX0_soonest_19 ?_
      refine lv_iconst (v := 1) hx hb dX0_soonest_20 (by decide) ?_
      refine lv_icmp_ne (tgt := 52) hx hb dX0_soonest_21 (by decide) (fun hc => ?_) (fun hc => ?_)
      · have hf := it_f hc hf
        exact hj52 _ _ _ _ _ hf hP hD hS (lv_sub hl [0, 1, 2, 3] rfl)
      · have hf := it_t hc hf
        refine lv_iload_n hx hb dX0_soonest_24 rfl (lv_at hl 2 rfl) ?_
        refine lv_iconst (v := (-1)) hx hb dX0_soonest_25 (by decide) ?_
        refine lv_icmp_eq (tgt := 50) hx hb dX0_soonest_26 (by decide) (fun hc => ?_) (fun hc => ?_)
        · have hf := it_t hc hf
          exact hj50 _ _ _ _ hf hP hD hS (lv_sub hl [0, 1, 3] rfl)
        · have hf := it_f hc hf
          refine lv_aload_n hx hb dX0_soonest_29 rfl (lv_at hl 0 rfl) ?_
          refine va_get (D := E.1) (ci := 0) (v := .ref a_o_happenings) (C := RX0) (T := TX0) (N := 11) hx hb hts inX0 hown hK hP 0 rfl rfl 8 (by decide) (hts _ fl_X0_34) (fun _ h9 => h9) rfl dX0_soonest_30 ?_
          refine lv_iload_n hx hb dX0_soonest_33 rfl (lv_at hl 3 rfl) ?_
          refine lv_iconst (v := 1) hx hb dX0_soonest_34 (by decide) ?_
          obtain ⟨u35, hu35, hf⟩ := bd hf
          refine keepVI (ct_X7_get l E a_o_happenings a_o_happenings_cells 40 5 o_happenings_many o_happenings_cells st4.2 (1 : Int32) u35 hu35) [1, 2] cal_X7_get cav_X7_get lk_X0_92 cx hP hD hS hl dX0_soonest_35 rfl rfl rfl rfl (Nat.le_of_ble_eq_true rfl) ⟨Nat.le_of_ble_eq_true rfl, Nat.le_of_ble_eq_true rfl⟩ rfl (by decide) (fun H locs hP hS => ?_)
          refine lv_aload_n hx hb dX0_soonest_38 rfl (lv_at hl 0 rfl) ?_
          refine va_get (D := E.1) (ci := 0) (v := .ref a_o_happenings) (C := RX0) (T := TX0) (N := 11) hx hb hts inX0 hown hK hP 0 rfl rfl 8 (by decide) (hts _ fl_X0_34) (fun _ h9 => h9) rfl dX0_soonest_39 ?_
          refine lv_iload_n hx hb dX0_soonest_42 rfl (lv_at hl 2 rfl) ?_
          refine lv_iconst (v := 1) hx hb dX0_soonest_43 (by decide) ?_
          obtain ⟨u44, hu44, hf⟩ := bd hf
          refine keepVI (ct_X7_get l E a_o_happenings a_o_happenings_cells 40 5 o_happenings_many o_happenings_cells st4.1 (1 : Int32) u44 hu44) [1, 2] cal_X7_get cav_X7_get lk_X0_92 cx hP hD hS hl dX0_soonest_44 rfl rfl rfl rfl (Nat.le_of_ble_eq_true rfl) ⟨Nat.le_of_ble_eq_true rfl, Nat.le_of_ble_eq_true rfl⟩ rfl (by decide) (fun H locs hP hS => ?_)
          refine lv_icmp_ge (tgt := 52) hx hb dX0_soonest_47 (by decide) (fun hc => ?_) (fun hc => ?_)
          · have hf := it_t hc hf
            exact hj52 _ _ _ _ _ hf hP hD hS (lv_sub hl [0, 1, 2, 3] rfl)
          · have hf := it_f hc hf
            exact hj50 _ _ _ _ hf hP hD hS (lv_sub hl [0, 1, 3] rfl)
  · refine fun H locs ls hP hD hS hl => ?_
    refine lv_iload_n hx hb dX0_soonest_58 rfl (lv_at hl 0 rfl) ?_
    obtain rfl := Option.some.inj hf
    subst hq
    exact retI cx hP hD hS dX0_soonest_59
def X0_goalOf (F : Nat) (o_extras_many : Int32) (o_extras_cells : Nat → Int32) (o_happenings_many : Int32) (o_happenings_cells : Nat → Int32) (v1 : Int32) : Option (Int32) :=
  (X7_get 35 5 o_extras_many o_extras_cells v1 (2 : Int32)).bind fun u7 =>
  (X0_withFate F o_happenings_many o_happenings_cells (0 : Int32)).bind fun u12 =>
  (X0_soonest F o_happenings_many o_happenings_cells (u7 &&& u12)).bind fun u16 =>
  some u16
abbrev wd_X0_goalOf (E : vE) (a_o a_o_streets a_o_names a_o_extras a_o_happenings a_o_watchers a_o_weeks a_o_extras_cells a_o_happenings_cells : Nat) (o_wage : Int32) (o_delay : Int32) (o_odds : Int32) (o_clock : Int32) (o_hasWeeks : Int32) (o_extras_many : Int32) (o_extras_cells : Nat → Int32) (o_happenings_many : Int32) (o_happenings_cells : Nat → Int32) : va_W := [(a_o, .inr (0, [.int o_wage, .int o_delay, .int o_odds, .int o_clock, .int o_hasWeeks, .ref a_o_streets, .ref a_o_names, .ref a_o_extras, .ref a_o_happenings, .ref a_o_watchers, .ref a_o_weeks])), (a_o_extras, .inr (7, [.int 5, .ref a_o_extras_cells, .int o_extras_many])), (a_o_extras_cells, .inl (E.2.1, 35, .inl o_extras_cells)), (a_o_happenings, .inr (7, [.int 5, .ref a_o_happenings_cells, .int o_happenings_many])), (a_o_happenings_cells, .inl (E.2.1, 40, .inl o_happenings_cells))]
set_option maxHeartbeats 4000000 in
set_option maxRecDepth 100000 in
theorem ct_X0_goalOf (l : Launch) (E : vE) (F : Nat) (a_o a_o_streets a_o_names a_o_extras a_o_happenings a_o_watchers a_o_weeks a_o_extras_cells a_o_happenings_cells : Nat) (o_wage : Int32) (o_delay : Int32) (o_odds : Int32) (o_clock : Int32) (o_hasWeeks : Int32) (o_extras_many : Int32) (o_extras_cells : Nat → Int32) (o_happenings_many : Int32) (o_happenings_cells : Nat → Int32) (v1 : Int32) (u : Int32) (hf : X0_goalOf F o_extras_many o_extras_cells o_happenings_many o_happenings_cells v1 = some u) :
    CtI l yX0_goalOf cX0_goalOf 2 (some .int) 3 E [.ref a_o, .int v1] (wd_X0_goalOf E a_o a_o_streets a_o_names a_o_extras a_o_happenings a_o_watchers a_o_weeks a_o_extras_cells a_o_happenings_cells o_wage o_delay o_odds o_clock o_hasWeeks o_extras_many o_extras_cells o_happenings_many o_happenings_cells) (wd_X0_goalOf E a_o a_o_streets a_o_names a_o_extras a_o_happenings a_o_watchers a_o_weeks a_o_extras_cells a_o_happenings_cells o_wage o_delay o_odds o_clock o_hasWeeks o_extras_many o_extras_cells o_happenings_many o_happenings_cells) u := by
  refine ctI (by decide) (Nat.le_of_ble_eq_true rfl) ?_
  intro p e s m below meth cd A ls aa QQ hq cx hP hD hS hl
  obtain ⟨⟨hx, hb, hml, hown, hts⟩, hr, hlocks, hK, hA, hX⟩ := id cx
  have hl : lv_has ls 2 [(0, .ref a_o), (1, .int v1)] := hl
  unfold X0_goalOf at hf
  refine lv_aload_n hx hb dX0_goalOf_0 rfl (lv_at hl 0 rfl) ?_
  refine lv_aload_n hx hb dX0_goalOf_1 rfl (lv_at hl 0 rfl) ?_
  refine va_get (D := E.1) (ci := 0) (v := .ref a_o_extras) (C := RX0) (T := TX0) (N := 11) hx hb hts inX0 hown hK hP 0 rfl rfl 7 (by decide) (hts _ fl_X0_30) (fun _ h9 => h9) rfl dX0_goalOf_2 ?_
  refine lv_iload_n hx hb dX0_goalOf_5 rfl (lv_at hl 1 rfl) ?_
  refine lv_iconst (v := 2) hx hb dX0_goalOf_6 (by decide) ?_
  obtain ⟨u7, hu7, hf⟩ := bd hf
  refine keepVI (ct_X7_get l E a_o_extras a_o_extras_cells 35 5 o_extras_many o_extras_cells v1 (2 : Int32) u7 hu7) [1, 2] cal_X7_get cav_X7_get lk_X0_92 cx hP hD hS hl dX0_goalOf_7 rfl rfl rfl rfl (Nat.le_of_ble_eq_true rfl) ⟨Nat.le_of_ble_eq_true rfl, Nat.le_of_ble_eq_true rfl⟩ rfl (by decide) (fun H locs hP hS => ?_)
  refine lv_aload_n hx hb dX0_goalOf_10 rfl (lv_at hl 0 rfl) ?_
  refine lv_iconst (v := 0) hx hb dX0_goalOf_11 (by decide) ?_
  obtain ⟨u12, hu12, hf⟩ := bd hf
  refine keepVI (ct_X0_withFate l E F a_o a_o_streets a_o_names a_o_extras a_o_happenings a_o_watchers a_o_weeks a_o_happenings_cells o_wage o_delay o_odds o_clock o_hasWeeks o_happenings_many o_happenings_cells (0 : Int32) u12 hu12) [0, 3, 4] cal_X0_withFate cav_X0_withFate lk_X0_110 cx hP hD hS hl dX0_goalOf_12 rfl rfl rfl rfl (Nat.le_of_ble_eq_true rfl) ⟨Nat.le_of_ble_eq_true rfl, Nat.le_of_ble_eq_true rfl⟩ rfl (by decide) (fun H locs hP hS => ?_)
  refine lv_iand hx hb dX0_goalOf_15 ?_
  obtain ⟨u16, hu16, hf⟩ := bd hf
  refine keepVI (ct_X0_soonest l E F a_o a_o_streets a_o_names a_o_extras a_o_happenings a_o_watchers a_o_weeks a_o_happenings_cells o_wage o_delay o_odds o_clock o_hasWeeks o_happenings_many o_happenings_cells (u7 &&& u12) u16 hu16) [0, 3, 4] cal_X0_soonest cav_X0_soonest lk_X0_113 cx hP hD hS hl dX0_goalOf_16 rfl rfl rfl rfl (Nat.le_of_ble_eq_true rfl) ⟨Nat.le_of_ble_eq_true rfl, Nat.le_of_ble_eq_true rfl⟩ rfl (by decide) (fun H locs hP hS => ?_)
  obtain rfl := Option.some.inj hf
  subst hq
  exact retI cx hP hD hS dX0_goalOf_19
def X0_canPass (o_clock : Int32) (v1 : Int32) : Option (Int32) :=
  if (9999 : Int32) < (o_clock + v1) then
  some 0
  else
  some 1
abbrev wd_X0_canPass (E : vE) (a_o a_o_streets a_o_names a_o_extras a_o_happenings a_o_watchers a_o_weeks : Nat) (o_wage : Int32) (o_delay : Int32) (o_odds : Int32) (o_clock : Int32) (o_hasWeeks : Int32) : va_W := [(a_o, .inr (0, [.int o_wage, .int o_delay, .int o_odds, .int o_clock, .int o_hasWeeks, .ref a_o_streets, .ref a_o_names, .ref a_o_extras, .ref a_o_happenings, .ref a_o_watchers, .ref a_o_weeks]))]
set_option maxHeartbeats 4000000 in
set_option maxRecDepth 100000 in
theorem ct_X0_canPass (l : Launch) (E : vE) (a_o a_o_streets a_o_names a_o_extras a_o_happenings a_o_watchers a_o_weeks : Nat) (o_wage : Int32) (o_delay : Int32) (o_odds : Int32) (o_clock : Int32) (o_hasWeeks : Int32) (v1 : Int32) (u : Int32) (hf : X0_canPass o_clock v1 = some u) :
    CtI l yX0_canPass cX0_canPass 2 (some .boolean) 0 E [.ref a_o, .int v1] (wd_X0_canPass E a_o a_o_streets a_o_names a_o_extras a_o_happenings a_o_watchers a_o_weeks o_wage o_delay o_odds o_clock o_hasWeeks) (wd_X0_canPass E a_o a_o_streets a_o_names a_o_extras a_o_happenings a_o_watchers a_o_weeks o_wage o_delay o_odds o_clock o_hasWeeks) u := by
  refine ctI (by decide) (Nat.le_of_ble_eq_true rfl) ?_
  intro p e s m below meth cd A ls aa QQ hq cx hP hD hS hl
  obtain ⟨⟨hx, hb, hml, hown, hts⟩, hr, hlocks, hK, hA, hX⟩ := id cx
  have hl : lv_has ls 2 [(0, .ref a_o), (1, .int v1)] := hl
  unfold X0_canPass at hf
  refine lv_aload_n hx hb dX0_canPass_0 rfl (lv_at hl 0 rfl) ?_
  refine va_get (D := E.1) (ci := 0) (v := .int o_clock) (C := RX0) (T := TX0) (N := 11) hx hb hts inX0 hown hK hP 0 rfl rfl 3 (by decide) (hts _ fl_X0_58) (fun _ h9 => h9) rfl dX0_canPass_1 ?_
  refine lv_iload_n hx hb dX0_canPass_4 rfl (lv_at hl 1 rfl) ?_
  refine lv_iadd hx hb dX0_canPass_5 ?_
  refine lv_sipush (v := 9999) hx hb dX0_canPass_6 (by decide) ?_
  refine lv_icmp_gt (tgt := 16) hx hb dX0_canPass_9 (by decide) (fun hc => ?_) (fun hc => ?_)
  · have hf := it_t hc hf
    refine lv_iconst (v := 0) hx hb dX0_canPass_16 (by decide) ?_
    obtain rfl := Option.some.inj hf
    subst hq
    exact retZ cx rfl hP hD hS dX0_canPass_17
  · have hf := it_f hc hf
    refine lv_iconst (v := 1) hx hb dX0_canPass_12 (by decide) ?_
    refine lv_goto (tgt := 17) hx hb dX0_canPass_13 (by decide) ?_
    obtain rfl := Option.some.inj hf
    subst hq
    exact retZ cx rfl hP hD hS dX0_canPass_17
def X6_areCorners_j24  : Option (Int32) :=
  some 0
def X6_areCorners (v0 : Int32) (v1 : Int32) : Option (Int32) :=
  if v0 < 0 then
  X6_areCorners_j24
  else
  if (8 : Int32) ≤ v0 then
  X6_areCorners_j24
  else
  if v1 < 0 then
  X6_areCorners_j24
  else
  if (8 : Int32) ≤ v1 then
  X6_areCorners_j24
  else
  some 1
abbrev wd_X6_areCorners (E : vE) : va_W := []
set_option maxHeartbeats 4000000 in
set_option maxRecDepth 100000 in
theorem ct_X6_areCorners (l : Launch) (E : vE) (v0 : Int32) (v1 : Int32) (u : Int32) (hf : X6_areCorners v0 v1 = some u) :
    CtI l yX6_areCorners cX6_areCorners 2 (some .boolean) 0 E [.int v0, .int v1] (wd_X6_areCorners E) (wd_X6_areCorners E) u := by
  refine ctI (by decide) (Nat.le_of_ble_eq_true rfl) ?_
  intro p e s m below meth cd A ls aa QQ hq cx hP hD hS hl
  obtain ⟨⟨hx, hb, hml, hown, hts⟩, hr, hlocks, hK, hA, hX⟩ := id cx
  have hl : lv_has ls 2 [(0, .int v0), (1, .int v1)] := hl
  have hj24 : ∀ (H : Heap) (locs : List Loc) (ls : Array Slot), X6_areCorners_j24 = some u → va_P E.1 vwCl (wd_X6_areCorners E) H → va_D A (wd_X6_areCorners E) → va_S A s.heap H locs → lv_has ls 2 [] → W p l e (rmd 0) s m aa below meth cd H locs 0 0 QQ (F0 m 24 ls []) := by
    intro H locs ls hf hP hD hS hl
    unfold X6_areCorners_j24 at hf
    refine lv_iconst (v := 0) hx hb dX6_areCorners_24 (by decide) ?_
    obtain rfl := Option.some.inj hf
    subst hq
    exact retZ cx rfl hP hD hS dX6_areCorners_25
  unfold X6_areCorners at hf
  refine lv_iload_n hx hb dX6_areCorners_0 rfl (lv_at hl 0 rfl) ?_
  refine lv_if_lt (tgt := 24) hx hb dX6_areCorners_1 (by decide) (fun hc => ?_) (fun hc => ?_)
  · have hf := it_t hc hf
    exact hj24  _ _ _ hf hP hD hS (lv_sub hl [] rfl)
  · have hf := it_f hc hf
    refine lv_iload_n hx hb dX6_areCorners_4 rfl (lv_at hl 0 rfl) ?_
    refine lv_bipush (v := 8) hx hb dX6_areCorners_5 (by decide) ?_
    refine lv_icmp_ge (tgt := 24) hx hb dX6_areCorners_7 (by decide) (fun hc => ?_) (fun hc => ?_)
    · have hf := it_t hc hf
      exact hj24  _ _ _ hf hP hD hS (lv_sub hl [] rfl)
    · have hf := it_f hc hf
      refine lv_iload_n hx hb dX6_areCorners_10 rfl (lv_at hl 1 rfl) ?_
      refine lv_if_lt (tgt := 24) hx hb dX6_areCorners_11 (by decide) (fun hc => ?_) (fun hc => ?_)
      · have hf := it_t hc hf
        exact hj24  _ _ _ hf hP hD hS (lv_sub hl [] rfl)
      · have hf := it_f hc hf
        refine lv_iload_n hx hb dX6_areCorners_14 rfl (lv_at hl 1 rfl) ?_
        refine lv_bipush (v := 8) hx hb dX6_areCorners_15 (by decide) ?_
        refine lv_icmp_ge (tgt := 24) hx hb dX6_areCorners_17 (by decide) (fun hc => ?_) (fun hc => ?_)
        · have hf := it_t hc hf
          exact hj24  _ _ _ hf hP hD hS (lv_sub hl [] rfl)
        · have hf := it_f hc hf
          refine lv_iconst (v := 1) hx hb dX6_areCorners_20 (by decide) ?_
          refine lv_goto (tgt := 25) hx hb dX6_areCorners_21 (by decide) ?_
          obtain rfl := Option.some.inj hf
          subst hq
          exact retZ cx rfl hP hD hS dX6_areCorners_25
def X6_cell (v0 : Int32) (v1 : Int32) : Option (Int32) :=
  some ((v0 * 8) + v1)
abbrev wd_X6_cell (E : vE) : va_W := []
set_option maxHeartbeats 4000000 in
set_option maxRecDepth 100000 in
theorem ct_X6_cell (l : Launch) (E : vE) (v0 : Int32) (v1 : Int32) (u : Int32) (hf : X6_cell v0 v1 = some u) :
    CtI l yX6_cell cX6_cell 2 (some .int) 0 E [.int v0, .int v1] (wd_X6_cell E) (wd_X6_cell E) u := by
  refine ctI (by decide) (Nat.le_of_ble_eq_true rfl) ?_
  intro p e s m below meth cd A ls aa QQ hq cx hP hD hS hl
  obtain ⟨⟨hx, hb, hml, hown, hts⟩, hr, hlocks, hK, hA, hX⟩ := id cx
  have hl : lv_has ls 2 [(0, .int v0), (1, .int v1)] := hl
  unfold X6_cell at hf
  refine lv_iload_n hx hb dX6_cell_0 rfl (lv_at hl 0 rfl) ?_
  refine lv_bipush (v := 8) hx hb dX6_cell_1 (by decide) ?_
  refine lv_imul hx hb dX6_cell_3 ?_
  refine lv_iload_n hx hb dX6_cell_4 rfl (lv_at hl 1 rfl) ?_
  refine lv_iadd hx hb dX6_cell_5 ?_
  obtain rfl := Option.some.inj hf
  subst hq
  exact retI cx hP hD hS dX6_cell_6
def X6_hoursBetween_j24 (o_hours : Nat → Int32) (k0 : Int32) : Option (Int32) :=
  if k0 < 1000 then
  some k0
  else
  some (-1)
def X6_hoursBetween (o_hours : Nat → Int32) (v1 : Int32) (v2 : Int32) : Option (Int32) :=
  (X6_areCorners v1 v2).bind fun u2 =>
  if u2 = 0 then
  X6_hoursBetween_j24 o_hours 1000
  else
  (X6_cell v1 v2).bind fun u14 =>
  if ix u14 64 then
  X6_hoursBetween_j24 o_hours (jat o_hours u14)
  else none
abbrev wd_X6_hoursBetween (E : vE) (a_o a_o_roads a_o_takes a_o_hours : Nat) (o_corners : Int32) (o_hours : Nat → Int32) : va_W := [(a_o, .inr (6, [.int o_corners, .ref a_o_roads, .ref a_o_takes, .ref a_o_hours])), (a_o_hours, .inl (E.2.1, 64, .inl o_hours))]
set_option maxHeartbeats 4000000 in
set_option maxRecDepth 100000 in
theorem ct_X6_hoursBetween (l : Launch) (E : vE) (a_o a_o_roads a_o_takes a_o_hours : Nat) (o_corners : Int32) (o_hours : Nat → Int32) (v1 : Int32) (v2 : Int32) (u : Int32) (hf : X6_hoursBetween o_hours v1 v2 = some u) :
    CtI l yX6_hoursBetween cX6_hoursBetween 4 (some .int) 1 E [.ref a_o, .int v1, .int v2] (wd_X6_hoursBetween E a_o a_o_roads a_o_takes a_o_hours o_corners o_hours) (wd_X6_hoursBetween E a_o a_o_roads a_o_takes a_o_hours o_corners o_hours) u := by
  refine ctI (by decide) (Nat.le_of_ble_eq_true rfl) ?_
  intro p e s m below meth cd A ls aa QQ hq cx hP hD hS hl
  obtain ⟨⟨hx, hb, hml, hown, hts⟩, hr, hlocks, hK, hA, hX⟩ := id cx
  have hl : lv_has ls 4 [(0, .ref a_o), (1, .int v1), (2, .int v2)] := hl
  have hj24 : ∀ (k0_j24 : Int32) (H : Heap) (locs : List Loc) (ls : Array Slot), X6_hoursBetween_j24 o_hours k0_j24 = some u → va_P E.1 vwCl (wd_X6_hoursBetween E a_o a_o_roads a_o_takes a_o_hours o_corners o_hours) H → va_D A (wd_X6_hoursBetween E a_o a_o_roads a_o_takes a_o_hours o_corners o_hours) → va_S A s.heap H locs → lv_has ls 4 [] → W p l e (rmd 1) s m aa below meth cd H locs 0 0 QQ (F0 m 24 ls [.int k0_j24]) := by
    intro k0_j24 H locs ls hf hP hD hS hl
    unfold X6_hoursBetween_j24 at hf
    refine lv_istore_n (lv' := [(3, .int k0_j24)]) hx hb dX6_hoursBetween_24 rfl hl (by decide) rfl (fun ls hl => ?_)
    refine lv_iload_n hx hb dX6_hoursBetween_25 rfl (lv_at hl 0 rfl) ?_
    refine lv_sipush (v := 1000) hx hb dX6_hoursBetween_26 (by decide) ?_
    refine lv_icmp_lt (tgt := 36) hx hb dX6_hoursBetween_29 (by decide) (fun hc => ?_) (fun hc => ?_)
    · have hf := it_t hc hf
      refine lv_iload_n hx hb dX6_hoursBetween_36 rfl (lv_at hl 0 rfl) ?_
      obtain rfl := Option.some.inj hf
      subst hq
      exact retI cx hP hD hS dX6_hoursBetween_37
    · have hf := it_f hc hf
      refine lv_iconst (v := (-1)) hx hb dX6_hoursBetween_32 (by decide) ?_
      refine lv_goto (tgt := 37) hx hb dX6_hoursBetween_33 (by decide) ?_
      obtain rfl := Option.some.inj hf
      subst hq
      exact retI cx hP hD hS dX6_hoursBetween_37
  unfold X6_hoursBetween at hf
  refine lv_iload_n hx hb dX6_hoursBetween_0 rfl (lv_at hl 1 rfl) ?_
  refine lv_iload_n hx hb dX6_hoursBetween_1 rfl (lv_at hl 2 rfl) ?_
  obtain ⟨u2, hu2, hf⟩ := bd hf
  refine keepSI (ct_X6_areCorners l E v1 v2 u2 hu2) [] cal_X6_areCorners sta_X6_areCorners lk_X6_44 cx hP hD hS hl dX6_hoursBetween_2 rfl rfl (Nat.le_of_ble_eq_true rfl) ⟨Nat.le_of_ble_eq_true rfl, Nat.le_of_ble_eq_true rfl⟩ rfl (by decide) (fun H locs hP hS => ?_)
  refine lv_if_eq (tgt := 21) hx hb dX6_hoursBetween_5 (by decide) (fun hc => ?_) (fun hc => ?_)
  · have hf := it_t hc hf
    refine lv_sipush (v := 1000) hx hb dX6_hoursBetween_21 (by decide) ?_
    exact hj24 _ _ _ _ hf hP hD hS (lv_sub hl [] rfl)
  · have hf := it_f hc hf
    refine lv_aload_n hx hb dX6_hoursBetween_8 rfl (lv_at hl 0 rfl) ?_
    refine va_get (D := E.1) (ci := 6) (v := .ref a_o_hours) (C := RX6) (T := TX6) (N := 4) hx hb hts inX6 hown hK hP 0 rfl rfl 3 (by decide) (hts _ fl_X6_24) (fun _ h9 => h9) rfl dX6_hoursBetween_9 ?_
    refine lv_iload_n hx hb dX6_hoursBetween_12 rfl (lv_at hl 1 rfl) ?_
    refine lv_iload_n hx hb dX6_hoursBetween_13 rfl (lv_at hl 2 rfl) ?_
    obtain ⟨u14, hu14, hf⟩ := bd hf
    refine keepSI (ct_X6_cell l E v1 v2 u14 hu14) [] cal_X6_cell sta_X6_cell lk_X6_64 cx hP hD hS hl dX6_hoursBetween_14 rfl rfl (Nat.le_of_ble_eq_true rfl) ⟨Nat.le_of_ble_eq_true rfl, Nat.le_of_ble_eq_true rfl⟩ rfl (by decide) (fun H locs hP hS => ?_)
    obtain ⟨hi, hf⟩ := ck hf
    refine r_iald 1 cx hP rfl hi dX6_hoursBetween_17 ?_
    refine lv_goto (tgt := 24) hx hb dX6_hoursBetween_18 (by decide) ?_
    exact hj24 _ _ _ _ hf hP hD hS (lv_sub hl [] rfl)
def X6_takesBetween (o_takes : Nat → Int32) (v1 : Int32) (v2 : Int32) : Option (Int32) :=
  (X6_areCorners v1 v2).bind fun u2 =>
  if u2 = 0 then
  some 0
  else
  (X6_cell v1 v2).bind fun u14 =>
  if ix u14 64 then
  some (jat o_takes u14)
  else none
abbrev wd_X6_takesBetween (E : vE) (a_o a_o_roads a_o_takes a_o_hours : Nat) (o_corners : Int32) (o_takes : Nat → Int32) : va_W := [(a_o, .inr (6, [.int o_corners, .ref a_o_roads, .ref a_o_takes, .ref a_o_hours])), (a_o_takes, .inl (E.2.1, 64, .inl o_takes))]
set_option maxHeartbeats 4000000 in
set_option maxRecDepth 100000 in
theorem ct_X6_takesBetween (l : Launch) (E : vE) (a_o a_o_roads a_o_takes a_o_hours : Nat) (o_corners : Int32) (o_takes : Nat → Int32) (v1 : Int32) (v2 : Int32) (u : Int32) (hf : X6_takesBetween o_takes v1 v2 = some u) :
    CtI l yX6_takesBetween cX6_takesBetween 3 (some .int) 1 E [.ref a_o, .int v1, .int v2] (wd_X6_takesBetween E a_o a_o_roads a_o_takes a_o_hours o_corners o_takes) (wd_X6_takesBetween E a_o a_o_roads a_o_takes a_o_hours o_corners o_takes) u := by
  refine ctI (by decide) (Nat.le_of_ble_eq_true rfl) ?_
  intro p e s m below meth cd A ls aa QQ hq cx hP hD hS hl
  obtain ⟨⟨hx, hb, hml, hown, hts⟩, hr, hlocks, hK, hA, hX⟩ := id cx
  have hl : lv_has ls 3 [(0, .ref a_o), (1, .int v1), (2, .int v2)] := hl
  unfold X6_takesBetween at hf
  refine lv_iload_n hx hb dX6_takesBetween_0 rfl (lv_at hl 1 rfl) ?_
  refine lv_iload_n hx hb dX6_takesBetween_1 rfl (lv_at hl 2 rfl) ?_
  obtain ⟨u2, hu2, hf⟩ := bd hf
  refine keepSI (ct_X6_areCorners l E v1 v2 u2 hu2) [] cal_X6_areCorners sta_X6_areCorners lk_X6_44 cx hP hD hS hl dX6_takesBetween_2 rfl rfl (Nat.le_of_ble_eq_true rfl) ⟨Nat.le_of_ble_eq_true rfl, Nat.le_of_ble_eq_true rfl⟩ rfl (by decide) (fun H locs hP hS => ?_)
  refine lv_if_eq (tgt := 21) hx hb dX6_takesBetween_5 (by decide) (fun hc => ?_) (fun hc => ?_)
  · have hf := it_t hc hf
    refine lv_iconst (v := 0) hx hb dX6_takesBetween_21 (by decide) ?_
    obtain rfl := Option.some.inj hf
    subst hq
    exact retI cx hP hD hS dX6_takesBetween_22
  · have hf := it_f hc hf
    refine lv_aload_n hx hb dX6_takesBetween_8 rfl (lv_at hl 0 rfl) ?_
    refine va_get (D := E.1) (ci := 6) (v := .ref a_o_takes) (C := RX6) (T := TX6) (N := 4) hx hb hts inX6 hown hK hP 0 rfl rfl 2 (by decide) (hts _ fl_X6_20) (fun _ h9 => h9) rfl dX6_takesBetween_9 ?_
    refine lv_iload_n hx hb dX6_takesBetween_12 rfl (lv_at hl 1 rfl) ?_
    refine lv_iload_n hx hb dX6_takesBetween_13 rfl (lv_at hl 2 rfl) ?_
    obtain ⟨u14, hu14, hf⟩ := bd hf
    refine keepSI (ct_X6_cell l E v1 v2 u14 hu14) [] cal_X6_cell sta_X6_cell lk_X6_64 cx hP hD hS hl dX6_takesBetween_14 rfl rfl (Nat.le_of_ble_eq_true rfl) ⟨Nat.le_of_ble_eq_true rfl, Nat.le_of_ble_eq_true rfl⟩ rfl (by decide) (fun H locs hP hS => ?_)
    obtain ⟨hi, hf⟩ := ck hf
    refine r_iald 1 cx hP rfl hi dX6_takesBetween_17 ?_
    refine lv_goto (tgt := 22) hx hb dX6_takesBetween_18 (by decide) ?_
    obtain rfl := Option.some.inj hf
    subst hq
    exact retI cx hP hD hS dX6_takesBetween_22
def X6_firstCorner_j57 (F : Nat) (o_corners : Int32) (o_takes : Nat → Int32) (o_hours : Nat → Int32) (v1 : Int32) (v2 : Int32) (v3 : Int32) (v4 : Int32) : Option ((Int32) ⊕ ((Int32) ⊕ (Unit))) :=
  some (.inl (v4 + 1))
def X6_firstCorner_b17 (F : Nat) (o_corners : Int32) (o_takes : Nat → Int32) (o_hours : Nat → Int32) (v1 : Int32) (v2 : Int32) (v3 : Int32) (st17 : Int32) : Option ((Int32) ⊕ ((Int32) ⊕ (Unit))) :=
  if o_corners ≤ st17 then
  some (.inr (.inr (())))
  else
  (X6_takesBetween o_takes v1 st17).bind fun u30 =>
  if u30 ≤ 0 then
  X6_firstCorner_j57 F o_corners o_takes o_hours v1 v2 v3 st17
  else
  (X6_hoursBetween o_hours st17 v2).bind fun u44 =>
  if u44 = (v3 - u30) then
  some (.inr (.inl (st17)))
  else
  X6_firstCorner_j57 F o_corners o_takes o_hours v1 v2 v3 st17
def X6_firstCorner (F : Nat) (o_corners : Int32) (o_takes : Nat → Int32) (o_hours : Nat → Int32) (v1 : Int32) (v2 : Int32) : Option (Int32) :=
  (X6_hoursBetween o_hours v1 v2).bind fun u3 =>
  if u3 = (-1) then
  some (-1)
  else
  (iter (X6_firstCorner_b17 F o_corners o_takes o_hours v1 v2 u3) F 0).bind (Sum.elim (fun (e17 : Int32) =>
    some e17) (fun (e17 : Unit) =>
    some (-1)))
abbrev wd_X6_firstCorner (E : vE) (a_o a_o_roads a_o_takes a_o_hours : Nat) (o_corners : Int32) (o_takes : Nat → Int32) (o_hours : Nat → Int32) : va_W := [(a_o, .inr (6, [.int o_corners, .ref a_o_roads, .ref a_o_takes, .ref a_o_hours])), (a_o_takes, .inl (E.2.1, 64, .inl o_takes)), (a_o_hours, .inl (E.2.1, 64, .inl o_hours))]
set_option maxHeartbeats 4000000 in
set_option maxRecDepth 100000 in
theorem ct_X6_firstCorner (l : Launch) (E : vE) (F : Nat) (a_o a_o_roads a_o_takes a_o_hours : Nat) (o_corners : Int32) (o_takes : Nat → Int32) (o_hours : Nat → Int32) (v1 : Int32) (v2 : Int32) (u : Int32) (hf : X6_firstCorner F o_corners o_takes o_hours v1 v2 = some u) :
    CtI l yX6_firstCorner cX6_firstCorner 6 (some .int) 2 E [.ref a_o, .int v1, .int v2] (wd_X6_firstCorner E a_o a_o_roads a_o_takes a_o_hours o_corners o_takes o_hours) (wd_X6_firstCorner E a_o a_o_roads a_o_takes a_o_hours o_corners o_takes o_hours) u := by
  refine ctI (by decide) (Nat.le_of_ble_eq_true rfl) ?_
  intro p e s m below meth cd A ls aa QQ hq cx hP hD hS hl
  obtain ⟨⟨hx, hb, hml, hown, hts⟩, hr, hlocks, hK, hA, hX⟩ := id cx
  have hl : lv_has ls 6 [(0, .ref a_o), (1, .int v1), (2, .int v2)] := hl
  unfold X6_firstCorner at hf
  refine lv_aload_n hx hb dX6_firstCorner_0 rfl (lv_at hl 0 rfl) ?_
  refine lv_iload_n hx hb dX6_firstCorner_1 rfl (lv_at hl 1 rfl) ?_
  refine lv_iload_n hx hb dX6_firstCorner_2 rfl (lv_at hl 2 rfl) ?_
  obtain ⟨u3, hu3, hf⟩ := bd hf
  refine keepVI (ct_X6_hoursBetween l E a_o a_o_roads a_o_takes a_o_hours o_corners o_hours v1 v2 u3 hu3) [0, 2] cal_X6_hoursBetween cav_X6_hoursBetween lk_X6_72 cx hP hD hS hl dX6_firstCorner_3 rfl rfl rfl rfl (Nat.le_of_ble_eq_true rfl) ⟨Nat.le_of_ble_eq_true rfl, Nat.le_of_ble_eq_true rfl⟩ rfl (by decide) (fun H locs hP hS => ?_)
  refine lv_istore_n (lv' := [(3, .int u3), (0, .ref a_o), (1, .int v1), (2, .int v2)]) hx hb dX6_firstCorner_6 rfl hl (by decide) rfl (fun ls hl => ?_)
  refine lv_iload_n hx hb dX6_firstCorner_7 rfl (lv_at hl 0 rfl) ?_
  refine lv_iconst (v := (-1)) hx hb dX6_firstCorner_8 (by decide) ?_
  refine lv_icmp_ne (tgt := 14) hx hb dX6_firstCorner_9 (by decide) (fun hc => ?_) (fun hc => ?_)
  · have hf := it_f hc hf
    refine lv_iconst (v := 0) hx hb dX6_firstCorner_14 (by decide) ?_
    refine lv_istore (lv' := [(4, .int 0), (3, .int u3), (0, .ref a_o), (1, .int v1), (2, .int v2)]) hx hb dX6_firstCorner_15 hl (by decide) rfl (fun ls hl => ?_)
    obtain ⟨e17, hit17, hf⟩ := bd hf
    refine iter_W (b := X6_firstCorner_b17 F o_corners o_takes o_hours v1 v2 u3) (P := fun st17 => ∀ (H : Heap) (locs : List Loc) (ls : Array Slot), va_P E.1 vwCl (wd_X6_firstCorner E a_o a_o_roads a_o_takes a_o_hours o_corners o_takes o_hours) H → va_D A (wd_X6_firstCorner E a_o a_o_roads a_o_takes a_o_hours o_corners o_takes o_hours) → va_S A s.heap H locs → lv_has ls 6 [(0, .ref a_o), (1, .int v1), (2, .int v2), (3, .int u3), (4, .int st17)] → W p l e (rmd 2) s m aa below meth cd H locs 0 0 QQ (F0 m 17 ls [])) (G := (Sum.elim (fun (e17 : Int32) => ∀ (H : Heap) (locs : List Loc) (ls : Array Slot), va_P E.1 vwCl (wd_X6_firstCorner E a_o a_o_roads a_o_takes a_o_hours o_corners o_takes o_hours) H → va_D A (wd_X6_firstCorner E a_o a_o_roads a_o_takes a_o_hours o_corners o_takes o_hours) → va_S A s.heap H locs → lv_has ls 6 [(4, .int e17)] → W p l e (rmd 2) s m aa below meth cd H locs 0 0 QQ (F0 m 54 ls [])) (fun (e17 : Unit) => ∀ (H : Heap) (locs : List Loc) (ls : Array Slot), va_P E.1 vwCl (wd_X6_firstCorner E a_o a_o_roads a_o_takes a_o_hours o_corners o_takes o_hours) H → va_D A (wd_X6_firstCorner E a_o a_o_roads a_o_takes a_o_hours o_corners o_takes o_hours) → va_S A s.heap H locs → lv_has ls 6 [] → W p l e (rmd 2) s m aa below meth cd H locs 0 0 QQ (F0 m 63 ls [])))) ?_ F 0 e17 hit17 ?_ _ _ _ hP hD hS (lv_sub hl [2, 3, 4, 1, 0] rfl)
    · intro st17 r17 hf hk17 he17 H locs ls hP hD hS hl
      have hj57 : ∀ (v4_j57 : Int32) (H : Heap) (locs : List Loc) (ls : Array Slot), X6_firstCorner_j57 F o_corners o_takes o_hours v1 v2 u3 v4_j57 = some r17 → va_P E.1 vwCl (wd_X6_firstCorner E a_o a_o_roads a_o_takes a_o_hours o_corners o_takes o_hours) H → va_D A (wd_X6_firstCorner E a_o a_o_roads a_o_takes a_o_hours o_corners o_takes o_hours) → va_S A s.heap H locs → lv_has ls 6 [(0, .ref a_o), (1, .int v1), (2, .int v2), (3, .int u3), (4, .int v4_j57)] → W p l e (rmd 2) s m aa below meth cd H locs 0 0 QQ (F0 m 57 ls []) := by
        intro v4_j57 H locs ls hf hP hD hS hl
        unfold X6_firstCorner_j57 at hf
        refine lv_iinc (v := (v4_j57 + 1)) (lv' := [(4, .int (v4_j57 + 1)), (0, .ref a_o), (1, .int v1), (2, .int v2), (3, .int u3)]) hx hb dX6_firstCorner_57 hl (k := 4) rfl rfl (by decide) rfl (fun ls hl => ?_)
        refine lv_goto (tgt := 17) hx hb dX6_firstCorner_60 (by decide) ?_
        exact hk17 _ (Option.some.inj hf).symm _ _ _ hP hD hS (lv_sub hl [1, 2, 3, 4, 0] rfl)
      unfold X6_firstCorner_b17 at hf
      refine lv_iload hx hb dX6_firstCorner_17 (lv_at hl 4 rfl) ?_
      refine lv_aload_n hx hb dX6_firstCorner_19 rfl (lv_at hl 0 rfl) ?_
      refine va_get (D := E.1) (ci := 6) (v := .int o_corners) (C := RX6) (T := TX6) (N := 4) hx hb hts inX6 hown hK hP 0 rfl rfl 0 (by decide) (hts _ fl_X6_27) (fun _ h9 => h9) rfl dX6_firstCorner_20 ?_
      refine lv_icmp_ge (tgt := 63) hx hb dX6_firstCorner_23 (by decide) (fun hc => ?_) (fun hc => ?_)
      · have hf := it_t hc hf
        exact he17 _ (Option.some.inj hf).symm _ _ _ hP hD hS (lv_sub hl [] rfl)
      · have hf := it_f hc hf
        refine lv_aload_n hx hb dX6_firstCorner_26 rfl (lv_at hl 0 rfl) ?_
        refine lv_iload_n hx hb dX6_firstCorner_27 rfl (lv_at hl 1 rfl) ?_
        refine lv_iload hx hb dX6_firstCorner_28 (lv_at hl 4 rfl) ?_
        obtain ⟨u30, hu30, hf⟩ := bd hf
        refine keepVI (ct_X6_takesBetween l E a_o a_o_roads a_o_takes a_o_hours o_corners o_takes v1 st17 u30 hu30) [0, 1] cal_X6_takesBetween cav_X6_takesBetween lk_X6_60 cx hP hD hS hl dX6_firstCorner_30 rfl rfl rfl rfl (Nat.le_of_ble_eq_true rfl) ⟨Nat.le_of_ble_eq_true rfl, Nat.le_of_ble_eq_true rfl⟩ rfl (by decide) (fun H locs hP hS => ?_)
        refine lv_istore (lv' := [(5, .int u30), (0, .ref a_o), (1, .int v1), (2, .int v2), (3, .int u3), (4, .int st17)]) hx hb dX6_firstCorner_33 hl (by decide) rfl (fun ls hl => ?_)
        refine lv_iload hx hb dX6_firstCorner_35 (lv_at hl 0 rfl) ?_
        refine lv_if_le (tgt := 57) hx hb dX6_firstCorner_37 (by decide) (fun hc => ?_) (fun hc => ?_)
        · have hf := it_t hc hf
          exact hj57 _ _ _ _ hf hP hD hS (lv_sub hl [1, 2, 3, 4, 5] rfl)
        · have hf := it_f hc hf
          refine lv_aload_n hx hb dX6_firstCorner_40 rfl (lv_at hl 1 rfl) ?_
          refine lv_iload hx hb dX6_firstCorner_41 (lv_at hl 5 rfl) ?_
          refine lv_iload_n hx hb dX6_firstCorner_43 rfl (lv_at hl 3 rfl) ?_
          obtain ⟨u44, hu44, hf⟩ := bd hf
          refine keepVI (ct_X6_hoursBetween l E a_o a_o_roads a_o_takes a_o_hours o_corners o_hours st17 v2 u44 hu44) [0, 2] cal_X6_hoursBetween cav_X6_hoursBetween lk_X6_72 cx hP hD hS hl dX6_firstCorner_44 rfl rfl rfl rfl (Nat.le_of_ble_eq_true rfl) ⟨Nat.le_of_ble_eq_true rfl, Nat.le_of_ble_eq_true rfl⟩ rfl (by decide) (fun H locs hP hS => ?_)
          refine lv_iload_n hx hb dX6_firstCorner_47 rfl (lv_at hl 4 rfl) ?_
          refine lv_iload hx hb dX6_firstCorner_48 (lv_at hl 0 rfl) ?_
          refine lv_isub hx hb dX6_firstCorner_50 ?_
          refine lv_icmp_ne (tgt := 57) hx hb dX6_firstCorner_51 (by decide) (fun hc => ?_) (fun hc => ?_)
          · have hf := it_f hc hf
            exact hj57 _ _ _ _ hf hP hD hS (lv_sub hl [1, 2, 3, 4, 5] rfl)
          · have hf := it_t hc hf
            exact he17 _ (Option.some.inj hf).symm _ _ _ hP hD hS (lv_sub hl [5] rfl)
    · rcases e17 with e17 | e17
      · have hf := se_l hf
        refine fun H locs ls hP hD hS hl => ?_
        refine lv_iload hx hb dX6_firstCorner_54 (lv_at hl 0 rfl) ?_
        obtain rfl := Option.some.inj hf
        subst hq
        exact retI cx hP hD hS dX6_firstCorner_56
      · have hf := se_r hf
        refine fun H locs ls hP hD hS hl => ?_
        refine lv_iconst (v := (-1)) hx hb dX6_firstCorner_63 (by decide) ?_
        obtain rfl := Option.some.inj hf
        subst hq
        exact retI cx hP hD hS dX6_firstCorner_64
  · have hf := it_t hc hf
    refine lv_iconst (v := (-1)) hx hb dX6_firstCorner_12 (by decide) ?_
    obtain rfl := Option.some.inj hf
    subst hq
    exact retI cx hP hD hS dX6_firstCorner_13
