def X7_sum_b4 (F : Nat) (n_o_cells : Nat) (o_width : Int32) (o_many : Int32) (o_cells : Nat → Int32) (v1 : Int32) (st4 : Int32 × Int32) : Option ((Int32 × Int32) ⊕ ((Int32))) :=
  if o_many ≤ st4.2 then
  some (.inr st4.1)
  else
  (X7_get n_o_cells o_width o_many o_cells st4.2 v1).bind fun u16 =>
  some (.inl ((st4.1 + u16), (st4.2 + 1)))
def X7_sum (F : Nat) (n_o_cells : Nat) (o_width : Int32) (o_many : Int32) (o_cells : Nat → Int32) (v1 : Int32) : Option (Int32) :=
  (iter (X7_sum_b4 F n_o_cells o_width o_many o_cells v1) F (0, 0)).bind (fun (e4 : Int32) =>
    some e4)
abbrev wd_X7_sum (E : vE) (a_o a_o_cells : Nat) (n_o_cells : Nat) (o_width : Int32) (o_many : Int32) (o_cells : Nat → Int32) : va_W := [(a_o, .inr (7, [.int o_width, .ref a_o_cells, .int o_many])), (a_o_cells, .inl (E.2.1, n_o_cells, .inl o_cells))]
set_option maxHeartbeats 4000000 in
set_option maxRecDepth 100000 in
theorem ct_X7_sum (l : Launch) (E : vE) (F : Nat) (a_o a_o_cells : Nat) (n_o_cells : Nat) (o_width : Int32) (o_many : Int32) (o_cells : Nat → Int32) (v1 : Int32) (u : Int32) (hf : X7_sum F n_o_cells o_width o_many o_cells v1 = some u) :
    CtI l yX7_sum cX7_sum 4 (some .int) 1 E [.ref a_o, .int v1] (wd_X7_sum E a_o a_o_cells n_o_cells o_width o_many o_cells) (wd_X7_sum E a_o a_o_cells n_o_cells o_width o_many o_cells) u := by
  refine ctI (by decide) (Nat.le_of_ble_eq_true rfl) ?_
  intro p e s m below meth cd A ls aa QQ hq cx hP hD hS hl
  obtain ⟨⟨hx, hb, hml, hown, hts⟩, hr, hlocks, hK, hA, hX⟩ := id cx
  have hl : lv_has ls 4 [(0, .ref a_o), (1, .int v1)] := hl
  unfold X7_sum at hf
  refine lv_iconst (v := 0) hx hb dX7_sum_0 (by decide) ?_
  refine lv_istore_n (lv' := [(2, .int 0), (0, .ref a_o), (1, .int v1)]) hx hb dX7_sum_1 rfl hl (by decide) rfl (fun ls hl => ?_)
  refine lv_iconst (v := 0) hx hb dX7_sum_2 (by decide) ?_
  refine lv_istore_n (lv' := [(3, .int 0), (2, .int 0), (0, .ref a_o), (1, .int v1)]) hx hb dX7_sum_3 rfl hl (by decide) rfl (fun ls hl => ?_)
  obtain ⟨e4, hit4, hf⟩ := bd hf
  refine iter_W (b := X7_sum_b4 F n_o_cells o_width o_many o_cells v1) (P := fun st4 => ∀ (H : Heap) (locs : List Loc) (ls : Array Slot), va_P E.1 vwCl (wd_X7_sum E a_o a_o_cells n_o_cells o_width o_many o_cells) H → va_D A (wd_X7_sum E a_o a_o_cells n_o_cells o_width o_many o_cells) → va_S A s.heap H locs → lv_has ls 4 [(0, .ref a_o), (1, .int v1), (2, .int st4.1), (3, .int st4.2)] → W p l e (rmd 1) s m aa below meth cd H locs 0 0 QQ (F0 m 4 ls [])) (G := (fun (e4 : Int32) => ∀ (H : Heap) (locs : List Loc) (ls : Array Slot), va_P E.1 vwCl (wd_X7_sum E a_o a_o_cells n_o_cells o_width o_many o_cells) H → va_D A (wd_X7_sum E a_o a_o_cells n_o_cells o_width o_many o_cells) → va_S A s.heap H locs → lv_has ls 4 [(2, .int e4)] → W p l e (rmd 1) s m aa below meth cd H locs 0 0 QQ (F0 m 27 ls []))) ?_ F (0, 0) e4 hit4 ?_ _ _ _ hP hD hS (lv_sub hl [2, 3, 1, 0] rfl)
  · intro st4 r4 hf hk4 he4 H locs ls hP hD hS hl
    unfold X7_sum_b4 at hf
    refine lv_iload_n hx hb dX7_sum_4 rfl (lv_at hl 3 rfl) ?_
    refine lv_aload_n hx hb dX7_sum_5 rfl (lv_at hl 0 rfl) ?_
    refine va_get (D := E.1) (ci := 7) (v := .int o_many) (C := RX7) (T := TX7) (N := 3) hx hb hts inX7 hown hK hP 0 rfl rfl 2 (by decide) (hts _ fl_X7_19) (fun _ h9 => h9) rfl dX7_sum_6 ?_
    refine lv_icmp_ge (tgt := 27) hx hb dX7_sum_9 (by decide) (fun hc => ?_) (fun hc => ?_)
    · have hf := it_t hc hf
      exact he4 _ (Option.some.inj hf).symm _ _ _ hP hD hS (lv_sub hl [2] rfl)
    · have hf := it_f hc hf
      refine lv_iload_n hx hb dX7_sum_12 rfl (lv_at hl 2 rfl) ?_
      refine lv_aload_n hx hb dX7_sum_13 rfl (lv_at hl 0 rfl) ?_
      refine lv_iload_n hx hb dX7_sum_14 rfl (lv_at hl 3 rfl) ?_
      refine lv_iload_n hx hb dX7_sum_15 rfl (lv_at hl 1 rfl) ?_
      obtain ⟨u16, hu16, hf⟩ := bd hf
      refine keepVI (ct_X7_get l E a_o a_o_cells n_o_cells o_width o_many o_cells st4.2 v1 u16 hu16) [0, 1] cal_X7_get cav_X7_get lk_X7_30 cx hP hD hS hl dX7_sum_16 rfl rfl rfl rfl (Nat.le_of_ble_eq_true rfl) ⟨Nat.le_of_ble_eq_true rfl, Nat.le_of_ble_eq_true rfl⟩ rfl (by decide) (fun H locs hP hS => ?_)
      refine lv_iadd hx hb dX7_sum_19 ?_
      refine lv_istore_n (lv' := [(2, .int (st4.1 + u16)), (0, .ref a_o), (1, .int v1), (3, .int st4.2)]) hx hb dX7_sum_20 rfl hl (by decide) rfl (fun ls hl => ?_)
      refine lv_iinc (v := (st4.2 + 1)) (lv' := [(3, .int (st4.2 + 1)), (2, .int (st4.1 + u16)), (0, .ref a_o), (1, .int v1)]) hx hb dX7_sum_21 hl (k := 3) rfl rfl (by decide) rfl (fun ls hl => ?_)
      refine lv_goto (tgt := 4) hx hb dX7_sum_24 (by decide) ?_
      exact hk4 _ (Option.some.inj hf).symm _ _ _ hP hD hS (lv_sub hl [2, 3, 1, 0] rfl)
  · refine fun H locs ls hP hD hS hl => ?_
    refine lv_iload_n hx hb dX7_sum_27 rfl (lv_at hl 0 rfl) ?_
    obtain rfl := Option.some.inj hf
    subst hq
    exact retI cx hP hD hS dX7_sum_28
def X2_addTallies (F : Nat) (o_hours : Int32) (o_happened : Int32) (o_warned : Int32) (q1_clock : Int32) (q1_happenings_many : Int32) (q1_happenings_cells : Nat → Int32) (q1_watchers_many : Int32) (q1_watchers_cells : Nat → Int32) (v2 : Int32) : Option (Int32 × Int32 × Int32) :=
  (X0_withFate F q1_happenings_many q1_happenings_cells (1 : Int32)).bind fun u23 =>
  (J6_bitCount_0f7a4 u23).bind fun u26 =>
  (X7_sum F 12 3 q1_watchers_many q1_watchers_cells (2 : Int32)).bind fun u45 =>
  some ((o_hours + (v2 * q1_clock)), (o_happened + (v2 * u26)), (o_warned + (v2 * u45)))
abbrev wd_X2_addTallies (E : vE) (a_o a_o_begins a_o_ends a_o_timesLeft a_q1 a_q1_streets a_q1_names a_q1_extras a_q1_happenings a_q1_watchers a_q1_weeks a_q1_happenings_cells a_q1_watchers_cells : Nat) (o_seed : Int32) (o_steps : Int32) (o_isOver : Int32) (o_missed : Int32) (o_hours : Int32) (o_happened : Int32) (o_warned : Int32) (o_unfinished : Int32) (q1_wage : Int32) (q1_delay : Int32) (q1_odds : Int32) (q1_clock : Int32) (q1_hasWeeks : Int32) (q1_happenings_many : Int32) (q1_happenings_cells : Nat → Int32) (q1_watchers_many : Int32) (q1_watchers_cells : Nat → Int32) : va_W := [(a_o, .inr (2, [.ref a_o_begins, .ref a_o_ends, .ref a_o_timesLeft, .int o_seed, .int o_steps, .int o_isOver, .int o_missed, .int o_hours, .int o_happened, .int o_warned, .int o_unfinished])), (a_q1, .inr (0, [.int q1_wage, .int q1_delay, .int q1_odds, .int q1_clock, .int q1_hasWeeks, .ref a_q1_streets, .ref a_q1_names, .ref a_q1_extras, .ref a_q1_happenings, .ref a_q1_watchers, .ref a_q1_weeks])), (a_q1_happenings, .inr (7, [.int 5, .ref a_q1_happenings_cells, .int q1_happenings_many])), (a_q1_happenings_cells, .inl (E.2.1, 40, .inl q1_happenings_cells)), (a_q1_watchers, .inr (7, [.int 3, .ref a_q1_watchers_cells, .int q1_watchers_many])), (a_q1_watchers_cells, .inl (E.2.1, 12, .inl q1_watchers_cells))]
set_option maxHeartbeats 4000000 in
set_option maxRecDepth 100000 in
theorem ct_X2_addTallies (l : Launch) (E : vE) (F : Nat) (a_o a_o_begins a_o_ends a_o_timesLeft a_q1 a_q1_streets a_q1_names a_q1_extras a_q1_happenings a_q1_watchers a_q1_weeks a_q1_happenings_cells a_q1_watchers_cells : Nat) (o_seed : Int32) (o_steps : Int32) (o_isOver : Int32) (o_missed : Int32) (o_hours : Int32) (o_happened : Int32) (o_warned : Int32) (o_unfinished : Int32) (q1_wage : Int32) (q1_delay : Int32) (q1_odds : Int32) (q1_clock : Int32) (q1_hasWeeks : Int32) (q1_happenings_many : Int32) (q1_happenings_cells : Nat → Int32) (q1_watchers_many : Int32) (q1_watchers_cells : Nat → Int32) (v2 : Int32) (u : Int32 × Int32 × Int32) (hf : X2_addTallies F o_hours o_happened o_warned q1_clock q1_happenings_many q1_happenings_cells q1_watchers_many q1_watchers_cells v2 = some u) :
    CtV l yX2_addTallies cX2_addTallies 3 none 3 E [.ref a_o, .ref a_q1, .int v2] (wd_X2_addTallies E a_o a_o_begins a_o_ends a_o_timesLeft a_q1 a_q1_streets a_q1_names a_q1_extras a_q1_happenings a_q1_watchers a_q1_weeks a_q1_happenings_cells a_q1_watchers_cells o_seed o_steps o_isOver o_missed o_hours o_happened o_warned o_unfinished q1_wage q1_delay q1_odds q1_clock q1_hasWeeks q1_happenings_many q1_happenings_cells q1_watchers_many q1_watchers_cells) (wd_X2_addTallies E a_o a_o_begins a_o_ends a_o_timesLeft a_q1 a_q1_streets a_q1_names a_q1_extras a_q1_happenings a_q1_watchers a_q1_weeks a_q1_happenings_cells a_q1_watchers_cells o_seed o_steps o_isOver o_missed u.1 u.2.1 u.2.2 o_unfinished q1_wage q1_delay q1_odds q1_clock q1_hasWeeks q1_happenings_many q1_happenings_cells q1_watchers_many q1_watchers_cells) := by
  refine ctV (by decide) (Nat.le_of_ble_eq_true rfl) ?_
  intro p e s m below meth cd A ls aa QQ hq cx hP hD hS hl
  obtain ⟨⟨hx, hb, hml, hown, hts⟩, hr, hlocks, hK, hA, hX⟩ := id cx
  have hl : lv_has ls 3 [(0, .ref a_o), (1, .ref a_q1), (2, .int v2)] := hl
  unfold X2_addTallies at hf
  refine lv_aload_n hx hb dX2_addTallies_0 rfl (lv_at hl 0 rfl) ?_
  refine lv_dup hx hb dX2_addTallies_1 rfl ?_
  refine va_get (D := E.1) (ci := 2) (v := .int o_hours) (C := RX2) (T := TX2) (N := 11) hx hb hts inX2 hown hK hP 0 rfl rfl 7 (by decide) (hts _ fl_X2_70) (fun _ h9 => h9) rfl dX2_addTallies_2 ?_
  refine lv_iload_n hx hb dX2_addTallies_5 rfl (lv_at hl 2 rfl) ?_
  refine lv_aload_n hx hb dX2_addTallies_6 rfl (lv_at hl 1 rfl) ?_
  refine va_get (D := E.1) (ci := 0) (v := .int q1_clock) (C := RX0) (T := TX0) (N := 11) hx hb hts inX0 hown hK hP 1 rfl rfl 3 (by decide) (hts _ fl_X2_79) (fun _ h9 => h9) rfl dX2_addTallies_7 ?_
  refine lv_imul hx hb dX2_addTallies_10 ?_
  refine lv_iadd hx hb dX2_addTallies_11 ?_
  refine va_put (D := E.1) (ci := 2) (v := .int (o_hours + (v2 * q1_clock))) (ty := .int) (C := RX2) (T := TX2) (N := 11) hx hb hts inX2 tyX2 tyX2_ok nmX2 hown hK hP hD hS 0 rfl rfl 7 (by decide) (hts _ fl_X2_70) (fun _ h9 => h9) rfl (by decide +kernel) rfl rfl (Nat.le_of_ble_eq_true rfl) dX2_addTallies_12 (fun H locs hP hD hS => ?_)
  have hP : va_P E.1 vwCl (wd_X2_addTallies E a_o a_o_begins a_o_ends a_o_timesLeft a_q1 a_q1_streets a_q1_names a_q1_extras a_q1_happenings a_q1_watchers a_q1_weeks a_q1_happenings_cells a_q1_watchers_cells o_seed o_steps o_isOver o_missed (o_hours + (v2 * q1_clock)) o_happened o_warned o_unfinished q1_wage q1_delay q1_odds q1_clock q1_hasWeeks q1_happenings_many q1_happenings_cells q1_watchers_many q1_watchers_cells) H := hP
  have hD : va_D A (wd_X2_addTallies E a_o a_o_begins a_o_ends a_o_timesLeft a_q1 a_q1_streets a_q1_names a_q1_extras a_q1_happenings a_q1_watchers a_q1_weeks a_q1_happenings_cells a_q1_watchers_cells o_seed o_steps o_isOver o_missed (o_hours + (v2 * q1_clock)) o_happened o_warned o_unfinished q1_wage q1_delay q1_odds q1_clock q1_hasWeeks q1_happenings_many q1_happenings_cells q1_watchers_many q1_watchers_cells) := hD
  refine lv_aload_n hx hb dX2_addTallies_15 rfl (lv_at hl 0 rfl) ?_
  refine lv_dup hx hb dX2_addTallies_16 rfl ?_
  refine va_get (D := E.1) (ci := 2) (v := .int o_happened) (C := RX2) (T := TX2) (N := 11) hx hb hts inX2 hown hK hP 0 rfl rfl 8 (by decide) (hts _ fl_X2_73) (fun _ h9 => h9) rfl dX2_addTallies_17 ?_
  refine lv_iload_n hx hb dX2_addTallies_20 rfl (lv_at hl 2 rfl) ?_
  refine lv_aload_n hx hb dX2_addTallies_21 rfl (lv_at hl 1 rfl) ?_
  refine lv_iconst (v := 1) hx hb dX2_addTallies_22 (by decide) ?_
  obtain ⟨u23, hu23, hf⟩ := bd hf
  refine keepVI (ct_X0_withFate l E F a_q1 a_q1_streets a_q1_names a_q1_extras a_q1_happenings a_q1_watchers a_q1_weeks a_q1_happenings_cells q1_wage q1_delay q1_odds q1_clock q1_hasWeeks q1_happenings_many q1_happenings_cells (1 : Int32) u23 hu23) [1, 2, 3] cal_X0_withFate cav_X0_withFate lk_X2_82 cx hP hD hS hl dX2_addTallies_23 rfl rfl rfl rfl (Nat.le_of_ble_eq_true rfl) ⟨Nat.le_of_ble_eq_true rfl, Nat.le_of_ble_eq_true rfl⟩ rfl (by decide) (fun H locs hP hS => ?_)
  obtain ⟨u26, hu26, hf⟩ := bd hf
  refine keepSI (ct_J6_bitCount_0f7a4 l E u23 u26 hu26) [] cal_J6_bitCount_0f7a4 sta_J6_bitCount_0f7a4 lk_X2_86 cx hP hD hS hl dX2_addTallies_26 rfl rfl (Nat.le_of_ble_eq_true rfl) ⟨Nat.le_of_ble_eq_true rfl, Nat.le_of_ble_eq_true rfl⟩ rfl (by decide) (fun H locs hP hS => ?_)
  refine lv_imul hx hb dX2_addTallies_29 ?_
  refine lv_iadd hx hb dX2_addTallies_30 ?_
  refine va_put (D := E.1) (ci := 2) (v := .int (o_happened + (v2 * u26))) (ty := .int) (C := RX2) (T := TX2) (N := 11) hx hb hts inX2 tyX2 tyX2_ok nmX2 hown hK hP hD hS 0 rfl rfl 8 (by decide) (hts _ fl_X2_73) (fun _ h9 => h9) rfl (by decide +kernel) rfl rfl (Nat.le_of_ble_eq_true rfl) dX2_addTallies_31 (fun H locs hP hD hS => ?_)
  have hP : va_P E.1 vwCl (wd_X2_addTallies E a_o a_o_begins a_o_ends a_o_timesLeft a_q1 a_q1_streets a_q1_names a_q1_extras a_q1_happenings a_q1_watchers a_q1_weeks a_q1_happenings_cells a_q1_watchers_cells o_seed o_steps o_isOver o_missed (o_hours + (v2 * q1_clock)) (o_happened + (v2 * u26)) o_warned o_unfinished q1_wage q1_delay q1_odds q1_clock q1_hasWeeks q1_happenings_many q1_happenings_cells q1_watchers_many q1_watchers_cells) H := hP
  have hD : va_D A (wd_X2_addTallies E a_o a_o_begins a_o_ends a_o_timesLeft a_q1 a_q1_streets a_q1_names a_q1_extras a_q1_happenings a_q1_watchers a_q1_weeks a_q1_happenings_cells a_q1_watchers_cells o_seed o_steps o_isOver o_missed (o_hours + (v2 * q1_clock)) (o_happened + (v2 * u26)) o_warned o_unfinished q1_wage q1_delay q1_odds q1_clock q1_hasWeeks q1_happenings_many q1_happenings_cells q1_watchers_many q1_watchers_cells) := hD
  refine lv_aload_n hx hb dX2_addTallies_34 rfl (lv_at hl 0 rfl) ?_
  refine lv_dup hx hb dX2_addTallies_35 rfl ?_
  refine va_get (D := E.1) (ci := 2) (v := .int o_warned) (C := RX2) (T := TX2) (N := 11) hx hb hts inX2 hown hK hP 0 rfl rfl 9 (by decide) (hts _ fl_X2_76) (fun _ h9 => h9) rfl dX2_addTallies_36 ?_
  refine lv_iload_n hx hb dX2_addTallies_39 rfl (lv_at hl 2 rfl) ?_
  refine lv_aload_n hx hb dX2_addTallies_40 rfl (lv_at hl 1 rfl) ?_
  refine va_get (D := E.1) (ci := 0) (v := .ref a_q1_watchers) (C := RX0) (T := TX0) (N := 11) hx hb hts inX0 hown hK hP 1 rfl rfl 9 (by decide) (hts _ fl_X2_91) (fun _ h9 => h9) rfl dX2_addTallies_41 ?_
  refine lv_iconst (v := 2) hx hb dX2_addTallies_44 (by decide) ?_
  obtain ⟨u45, hu45, hf⟩ := bd hf
  refine keepVI (ct_X7_sum l E F a_q1_watchers a_q1_watchers_cells 12 3 q1_watchers_many q1_watchers_cells (2 : Int32) u45 hu45) [4, 5] cal_X7_sum cav_X7_sum lk_X2_94 cx hP hD hS hl dX2_addTallies_45 rfl rfl rfl rfl (Nat.le_of_ble_eq_true rfl) ⟨Nat.le_of_ble_eq_true rfl, Nat.le_of_ble_eq_true rfl⟩ rfl (by decide) (fun H locs hP hS => ?_)
  refine lv_imul hx hb dX2_addTallies_48 ?_
  refine lv_iadd hx hb dX2_addTallies_49 ?_
  refine va_put (D := E.1) (ci := 2) (v := .int (o_warned + (v2 * u45))) (ty := .int) (C := RX2) (T := TX2) (N := 11) hx hb hts inX2 tyX2 tyX2_ok nmX2 hown hK hP hD hS 0 rfl rfl 9 (by decide) (hts _ fl_X2_76) (fun _ h9 => h9) rfl (by decide +kernel) rfl rfl (Nat.le_of_ble_eq_true rfl) dX2_addTallies_50 (fun H locs hP hD hS => ?_)
  have hP : va_P E.1 vwCl (wd_X2_addTallies E a_o a_o_begins a_o_ends a_o_timesLeft a_q1 a_q1_streets a_q1_names a_q1_extras a_q1_happenings a_q1_watchers a_q1_weeks a_q1_happenings_cells a_q1_watchers_cells o_seed o_steps o_isOver o_missed (o_hours + (v2 * q1_clock)) (o_happened + (v2 * u26)) (o_warned + (v2 * u45)) o_unfinished q1_wage q1_delay q1_odds q1_clock q1_hasWeeks q1_happenings_many q1_happenings_cells q1_watchers_many q1_watchers_cells) H := hP
  have hD : va_D A (wd_X2_addTallies E a_o a_o_begins a_o_ends a_o_timesLeft a_q1 a_q1_streets a_q1_names a_q1_extras a_q1_happenings a_q1_watchers a_q1_weeks a_q1_happenings_cells a_q1_watchers_cells o_seed o_steps o_isOver o_missed (o_hours + (v2 * q1_clock)) (o_happened + (v2 * u26)) (o_warned + (v2 * u45)) o_unfinished q1_wage q1_delay q1_odds q1_clock q1_hasWeeks q1_happenings_many q1_happenings_cells q1_watchers_many q1_watchers_cells) := hD
  obtain rfl := Option.some.inj hf
  subst hq
  exact retV cx hP hD hS dX2_addTallies_53
def X2_begin (F : Nat) (o_seed : Int32) (o_steps : Int32) (o_isOver : Int32) (o_missed : Int32) (o_hours : Int32) (o_happened : Int32) (o_warned : Int32) (o_unfinished : Int32) (q1_clock : Int32) (q1_happenings_many : Int32) (q1_happenings_cells : Nat → Int32) (q1_watchers_many : Int32) (q1_watchers_cells : Nat → Int32) (v2 : Int32) : Option (Int32 × Int32 × Int32 × Int32 × Int32 × Int32 × Int32 × Int32) :=
  (X2_addTallies F 0 0 0 q1_clock q1_happenings_many q1_happenings_cells q1_watchers_many q1_watchers_cells (-1 : Int32)).bind fun u43 =>
  some (v2, 0, 0, 0, u43.1, u43.2.1, u43.2.2, 0)
abbrev wd_X2_begin (E : vE) (a_o a_o_begins a_o_ends a_o_timesLeft a_q1 a_q1_streets a_q1_names a_q1_extras a_q1_happenings a_q1_watchers a_q1_weeks a_q1_happenings_cells a_q1_watchers_cells : Nat) (o_seed : Int32) (o_steps : Int32) (o_isOver : Int32) (o_missed : Int32) (o_hours : Int32) (o_happened : Int32) (o_warned : Int32) (o_unfinished : Int32) (q1_wage : Int32) (q1_delay : Int32) (q1_odds : Int32) (q1_clock : Int32) (q1_hasWeeks : Int32) (q1_happenings_many : Int32) (q1_happenings_cells : Nat → Int32) (q1_watchers_many : Int32) (q1_watchers_cells : Nat → Int32) : va_W := [(a_o, .inr (2, [.ref a_o_begins, .ref a_o_ends, .ref a_o_timesLeft, .int o_seed, .int o_steps, .int o_isOver, .int o_missed, .int o_hours, .int o_happened, .int o_warned, .int o_unfinished])), (a_q1, .inr (0, [.int q1_wage, .int q1_delay, .int q1_odds, .int q1_clock, .int q1_hasWeeks, .ref a_q1_streets, .ref a_q1_names, .ref a_q1_extras, .ref a_q1_happenings, .ref a_q1_watchers, .ref a_q1_weeks])), (a_q1_happenings, .inr (7, [.int 5, .ref a_q1_happenings_cells, .int q1_happenings_many])), (a_q1_happenings_cells, .inl (E.2.1, 40, .inl q1_happenings_cells)), (a_q1_watchers, .inr (7, [.int 3, .ref a_q1_watchers_cells, .int q1_watchers_many])), (a_q1_watchers_cells, .inl (E.2.1, 12, .inl q1_watchers_cells))]
set_option maxHeartbeats 4000000 in
set_option maxRecDepth 100000 in
theorem ct_X2_begin (l : Launch) (E : vE) (F : Nat) (a_o a_o_begins a_o_ends a_o_timesLeft a_q1 a_q1_streets a_q1_names a_q1_extras a_q1_happenings a_q1_watchers a_q1_weeks a_q1_happenings_cells a_q1_watchers_cells : Nat) (o_seed : Int32) (o_steps : Int32) (o_isOver : Int32) (o_missed : Int32) (o_hours : Int32) (o_happened : Int32) (o_warned : Int32) (o_unfinished : Int32) (q1_wage : Int32) (q1_delay : Int32) (q1_odds : Int32) (q1_clock : Int32) (q1_hasWeeks : Int32) (q1_happenings_many : Int32) (q1_happenings_cells : Nat → Int32) (q1_watchers_many : Int32) (q1_watchers_cells : Nat → Int32) (v2 : Int32) (u : Int32 × Int32 × Int32 × Int32 × Int32 × Int32 × Int32 × Int32) (hf : X2_begin F o_seed o_steps o_isOver o_missed o_hours o_happened o_warned o_unfinished q1_clock q1_happenings_many q1_happenings_cells q1_watchers_many q1_watchers_cells v2 = some u) :
    CtV l yX2_begin cX2_begin 3 none 4 E [.ref a_o, .ref a_q1, .int v2] (wd_X2_begin E a_o a_o_begins a_o_ends a_o_timesLeft a_q1 a_q1_streets a_q1_names a_q1_extras a_q1_happenings a_q1_watchers a_q1_weeks a_q1_happenings_cells a_q1_watchers_cells o_seed o_steps o_isOver o_missed o_hours o_happened o_warned o_unfinished q1_wage q1_delay q1_odds q1_clock q1_hasWeeks q1_happenings_many q1_happenings_cells q1_watchers_many q1_watchers_cells) (wd_X2_begin E a_o a_o_begins a_o_ends a_o_timesLeft a_q1 a_q1_streets a_q1_names a_q1_extras a_q1_happenings a_q1_watchers a_q1_weeks a_q1_happenings_cells a_q1_watchers_cells u.1 u.2.1 u.2.2.1 u.2.2.2.1 u.2.2.2.2.1 u.2.2.2.2.2.1 u.2.2.2.2.2.2.1 u.2.2.2.2.2.2.2 q1_wage q1_delay q1_odds q1_clock q1_hasWeeks q1_happenings_many q1_happenings_cells q1_watchers_many q1_watchers_cells) := by
  refine ctV (by decide) (Nat.le_of_ble_eq_true rfl) ?_
  intro p e s m below meth cd A ls aa QQ hq cx hP hD hS hl
  obtain ⟨⟨hx, hb, hml, hown, hts⟩, hr, hlocks, hK, hA, hX⟩ := id cx
  have hl : lv_has ls 3 [(0, .ref a_o), (1, .ref a_q1), (2, .int v2)] := hl
  unfold X2_begin at hf
  refine lv_aload_n hx hb dX2_begin_0 rfl (lv_at hl 0 rfl) ?_
  refine lv_iload_n hx hb dX2_begin_1 rfl (lv_at hl 2 rfl) ?_
  refine va_put (D := E.1) (ci := 2) (v := .int v2) (ty := .int) (C := RX2) (T := TX2) (N := 11) hx hb hts inX2 tyX2 tyX2_ok nmX2 hown hK hP hD hS 0 rfl rfl 3 (by decide) (hts _ fl_X2_64) (fun _ h9 => h9) rfl (by decide +kernel) rfl rfl (Nat.le_of_ble_eq_true rfl) dX2_begin_2 (fun H locs hP hD hS => ?_)
  have hP : va_P E.1 vwCl (wd_X2_begin E a_o a_o_begins a_o_ends a_o_timesLeft a_q1 a_q1_streets a_q1_names a_q1_extras a_q1_happenings a_q1_watchers a_q1_weeks a_q1_happenings_cells a_q1_watchers_cells v2 o_steps o_isOver o_missed o_hours o_happened o_warned o_unfinished q1_wage q1_delay q1_odds q1_clock q1_hasWeeks q1_happenings_many q1_happenings_cells q1_watchers_many q1_watchers_cells) H := hP
  have hD : va_D A (wd_X2_begin E a_o a_o_begins a_o_ends a_o_timesLeft a_q1 a_q1_streets a_q1_names a_q1_extras a_q1_happenings a_q1_watchers a_q1_weeks a_q1_happenings_cells a_q1_watchers_cells v2 o_steps o_isOver o_missed o_hours o_happened o_warned o_unfinished q1_wage q1_delay q1_odds q1_clock q1_hasWeeks q1_happenings_many q1_happenings_cells q1_watchers_many q1_watchers_cells) := hD
  refine lv_aload_n hx hb dX2_begin_5 rfl (lv_at hl 0 rfl) ?_
  refine lv_iconst (v := 0) hx hb dX2_begin_6 (by decide) ?_
  refine va_put (D := E.1) (ci := 2) (v := .int 0) (ty := .int) (C := RX2) (T := TX2) (N := 11) hx hb hts inX2 tyX2 tyX2_ok nmX2 hown hK hP hD hS 0 rfl rfl 4 (by decide) (hts _ fl_X2_42) (fun _ h9 => h9) rfl (by decide +kernel) rfl rfl (Nat.le_of_ble_eq_true rfl) dX2_begin_7 (fun H locs hP hD hS => ?_)
  have hP : va_P E.1 vwCl (wd_X2_begin E a_o a_o_begins a_o_ends a_o_timesLeft a_q1 a_q1_streets a_q1_names a_q1_extras a_q1_happenings a_q1_watchers a_q1_weeks a_q1_happenings_cells a_q1_watchers_cells v2 0 o_isOver o_missed o_hours o_happened o_warned o_unfinished q1_wage q1_delay q1_odds q1_clock q1_hasWeeks q1_happenings_many q1_happenings_cells q1_watchers_many q1_watchers_cells) H := hP
  have hD : va_D A (wd_X2_begin E a_o a_o_begins a_o_ends a_o_timesLeft a_q1 a_q1_streets a_q1_names a_q1_extras a_q1_happenings a_q1_watchers a_q1_weeks a_q1_happenings_cells a_q1_watchers_cells v2 0 o_isOver o_missed o_hours o_happened o_warned o_unfinished q1_wage q1_delay q1_odds q1_clock q1_hasWeeks q1_happenings_many q1_happenings_cells q1_watchers_many q1_watchers_cells) := hD
  refine lv_aload_n hx hb dX2_begin_10 rfl (lv_at hl 0 rfl) ?_
  refine lv_iconst (v := 0) hx hb dX2_begin_11 (by decide) ?_
  refine va_put (D := E.1) (ci := 2) (v := .int 0) (ty := .boolean) (C := RX2) (T := TX2) (N := 11) hx hb hts inX2 tyX2 tyX2_ok nmX2 hown hK hP hD hS 0 rfl rfl 5 (by decide) (hts _ fl_X2_26) (fun _ h9 => h9) rfl (by decide +kernel) rfl rfl (Nat.le_of_ble_eq_true rfl) dX2_begin_12 (fun H locs hP hD hS => ?_)
  have hP : va_P E.1 vwCl (wd_X2_begin E a_o a_o_begins a_o_ends a_o_timesLeft a_q1 a_q1_streets a_q1_names a_q1_extras a_q1_happenings a_q1_watchers a_q1_weeks a_q1_happenings_cells a_q1_watchers_cells v2 0 0 o_missed o_hours o_happened o_warned o_unfinished q1_wage q1_delay q1_odds q1_clock q1_hasWeeks q1_happenings_many q1_happenings_cells q1_watchers_many q1_watchers_cells) H := hP
  have hD : va_D A (wd_X2_begin E a_o a_o_begins a_o_ends a_o_timesLeft a_q1 a_q1_streets a_q1_names a_q1_extras a_q1_happenings a_q1_watchers a_q1_weeks a_q1_happenings_cells a_q1_watchers_cells v2 0 0 o_missed o_hours o_happened o_warned o_unfinished q1_wage q1_delay q1_odds q1_clock q1_hasWeeks q1_happenings_many q1_happenings_cells q1_watchers_many q1_watchers_cells) := hD
  refine lv_aload_n hx hb dX2_begin_15 rfl (lv_at hl 0 rfl) ?_
  refine lv_iconst (v := 0) hx hb dX2_begin_16 (by decide) ?_
  refine va_put (D := E.1) (ci := 2) (v := .int 0) (ty := .int) (C := RX2) (T := TX2) (N := 11) hx hb hts inX2 tyX2 tyX2_ok nmX2 hown hK hP hD hS 0 rfl rfl 6 (by decide) (hts _ fl_X2_67) (fun _ h9 => h9) rfl (by decide +kernel) rfl rfl (Nat.le_of_ble_eq_true rfl) dX2_begin_17 (fun H locs hP hD hS => ?_)
  have hP : va_P E.1 vwCl (wd_X2_begin E a_o a_o_begins a_o_ends a_o_timesLeft a_q1 a_q1_streets a_q1_names a_q1_extras a_q1_happenings a_q1_watchers a_q1_weeks a_q1_happenings_cells a_q1_watchers_cells v2 0 0 0 o_hours o_happened o_warned o_unfinished q1_wage q1_delay q1_odds q1_clock q1_hasWeeks q1_happenings_many q1_happenings_cells q1_watchers_many q1_watchers_cells) H := hP
  have hD : va_D A (wd_X2_begin E a_o a_o_begins a_o_ends a_o_timesLeft a_q1 a_q1_streets a_q1_names a_q1_extras a_q1_happenings a_q1_watchers a_q1_weeks a_q1_happenings_cells a_q1_watchers_cells v2 0 0 0 o_hours o_happened o_warned o_unfinished q1_wage q1_delay q1_odds q1_clock q1_hasWeeks q1_happenings_many q1_happenings_cells q1_watchers_many q1_watchers_cells) := hD
  refine lv_aload_n hx hb dX2_begin_20 rfl (lv_at hl 0 rfl) ?_
  refine lv_iconst (v := 0) hx hb dX2_begin_21 (by decide) ?_
  refine va_put (D := E.1) (ci := 2) (v := .int 0) (ty := .int) (C := RX2) (T := TX2) (N := 11) hx hb hts inX2 tyX2 tyX2_ok nmX2 hown hK hP hD hS 0 rfl rfl 10 (by decide) (hts _ fl_X2_45) (fun _ h9 => h9) rfl (by decide +kernel) rfl rfl (Nat.le_of_ble_eq_true rfl) dX2_begin_22 (fun H locs hP hD hS => ?_)
  have hP : va_P E.1 vwCl (wd_X2_begin E a_o a_o_begins a_o_ends a_o_timesLeft a_q1 a_q1_streets a_q1_names a_q1_extras a_q1_happenings a_q1_watchers a_q1_weeks a_q1_happenings_cells a_q1_watchers_cells v2 0 0 0 o_hours o_happened o_warned 0 q1_wage q1_delay q1_odds q1_clock q1_hasWeeks q1_happenings_many q1_happenings_cells q1_watchers_many q1_watchers_cells) H := hP
  have hD : va_D A (wd_X2_begin E a_o a_o_begins a_o_ends a_o_timesLeft a_q1 a_q1_streets a_q1_names a_q1_extras a_q1_happenings a_q1_watchers a_q1_weeks a_q1_happenings_cells a_q1_watchers_cells v2 0 0 0 o_hours o_happened o_warned 0 q1_wage q1_delay q1_odds q1_clock q1_hasWeeks q1_happenings_many q1_happenings_cells q1_watchers_many q1_watchers_cells) := hD
  refine lv_aload_n hx hb dX2_begin_25 rfl (lv_at hl 0 rfl) ?_
  refine lv_iconst (v := 0) hx hb dX2_begin_26 (by decide) ?_
  refine va_put (D := E.1) (ci := 2) (v := .int 0) (ty := .int) (C := RX2) (T := TX2) (N := 11) hx hb hts inX2 tyX2 tyX2_ok nmX2 hown hK hP hD hS 0 rfl rfl 7 (by decide) (hts _ fl_X2_70) (fun _ h9 => h9) rfl (by decide +kernel) rfl rfl (Nat.le_of_ble_eq_true rfl) dX2_begin_27 (fun H locs hP hD hS => ?_)
  have hP : va_P E.1 vwCl (wd_X2_begin E a_o a_o_begins a_o_ends a_o_timesLeft a_q1 a_q1_streets a_q1_names a_q1_extras a_q1_happenings a_q1_watchers a_q1_weeks a_q1_happenings_cells a_q1_watchers_cells v2 0 0 0 0 o_happened o_warned 0 q1_wage q1_delay q1_odds q1_clock q1_hasWeeks q1_happenings_many q1_happenings_cells q1_watchers_many q1_watchers_cells) H := hP
  have hD : va_D A (wd_X2_begin E a_o a_o_begins a_o_ends a_o_timesLeft a_q1 a_q1_streets a_q1_names a_q1_extras a_q1_happenings a_q1_watchers a_q1_weeks a_q1_happenings_cells a_q1_watchers_cells v2 0 0 0 0 o_happened o_warned 0 q1_wage q1_delay q1_odds q1_clock q1_hasWeeks q1_happenings_many q1_happenings_cells q1_watchers_many q1_watchers_cells) := hD
  refine lv_aload_n hx hb dX2_begin_30 rfl (lv_at hl 0 rfl) ?_
  refine lv_iconst (v := 0) hx hb dX2_begin_31 (by decide) ?_
  refine va_put (D := E.1) (ci := 2) (v := .int 0) (ty := .int) (C := RX2) (T := TX2) (N := 11) hx hb hts inX2 tyX2 tyX2_ok nmX2 hown hK hP hD hS 0 rfl rfl 8 (by decide) (hts _ fl_X2_73) (fun _ h9 => h9) rfl (by decide +kernel) rfl rfl (Nat.le_of_ble_eq_true rfl) dX2_begin_32 (fun H locs hP hD hS => ?_)
  have hP : va_P E.1 vwCl (wd_X2_begin E a_o a_o_begins a_o_ends a_o_timesLeft a_q1 a_q1_streets a_q1_names a_q1_extras a_q1_happenings a_q1_watchers a_q1_weeks a_q1_happenings_cells a_q1_watchers_cells v2 0 0 0 0 0 o_warned 0 q1_wage q1_delay q1_odds q1_clock q1_hasWeeks q1_happenings_many q1_happenings_cells q1_watchers_many q1_watchers_cells) H := hP
  have hD : va_D A (wd_X2_begin E a_o a_o_begins a_o_ends a_o_timesLeft a_q1 a_q1_streets a_q1_names a_q1_extras a_q1_happenings a_q1_watchers a_q1_weeks a_q1_happenings_cells a_q1_watchers_cells v2 0 0 0 0 0 o_warned 0 q1_wage q1_delay q1_odds q1_clock q1_hasWeeks q1_happenings_many q1_happenings_cells q1_watchers_many q1_watchers_cells) := hD
  refine lv_aload_n hx hb dX2_begin_35 rfl (lv_at hl 0 rfl) ?_
  refine lv_iconst (v := 0) hx hb dX2_begin_36 (by decide) ?_
  refine va_put (D := E.1) (ci := 2) (v := .int 0) (ty := .int) (C := RX2) (T := TX2) (N := 11) hx hb hts inX2 tyX2 tyX2_ok nmX2 hown hK hP hD hS 0 rfl rfl 9 (by decide) (hts _ fl_X2_76) (fun _ h9 => h9) rfl (by decide +kernel) rfl rfl (Nat.le_of_ble_eq_true rfl) dX2_begin_37 (fun H locs hP hD hS => ?_)
  have hP : va_P E.1 vwCl (wd_X2_begin E a_o a_o_begins a_o_ends a_o_timesLeft a_q1 a_q1_streets a_q1_names a_q1_extras a_q1_happenings a_q1_watchers a_q1_weeks a_q1_happenings_cells a_q1_watchers_cells v2 0 0 0 0 0 0 0 q1_wage q1_delay q1_odds q1_clock q1_hasWeeks q1_happenings_many q1_happenings_cells q1_watchers_many q1_watchers_cells) H := hP
  have hD : va_D A (wd_X2_begin E a_o a_o_begins a_o_ends a_o_timesLeft a_q1 a_q1_streets a_q1_names a_q1_extras a_q1_happenings a_q1_watchers a_q1_weeks a_q1_happenings_cells a_q1_watchers_cells v2 0 0 0 0 0 0 0 q1_wage q1_delay q1_odds q1_clock q1_hasWeeks q1_happenings_many q1_happenings_cells q1_watchers_many q1_watchers_cells) := hD
  refine lv_aload_n hx hb dX2_begin_40 rfl (lv_at hl 0 rfl) ?_
  refine lv_aload_n hx hb dX2_begin_41 rfl (lv_at hl 1 rfl) ?_
  refine lv_iconst (v := (-1)) hx hb dX2_begin_42 (by decide) ?_
  obtain ⟨u43, hu43, hf⟩ := bd hf
  refine callVV (wn := (wd_X2_begin E a_o a_o_begins a_o_ends a_o_timesLeft a_q1 a_q1_streets a_q1_names a_q1_extras a_q1_happenings a_q1_watchers a_q1_weeks a_q1_happenings_cells a_q1_watchers_cells v2 0 0 0 u43.1 u43.2.1 u43.2.2 0 q1_wage q1_delay q1_odds q1_clock q1_hasWeeks q1_happenings_many q1_happenings_cells q1_watchers_many q1_watchers_cells)) (n1 := 6) (ct_X2_addTallies l E F a_o a_o_begins a_o_ends a_o_timesLeft a_q1 a_q1_streets a_q1_names a_q1_extras a_q1_happenings a_q1_watchers a_q1_weeks a_q1_happenings_cells a_q1_watchers_cells v2 0 0 0 0 0 0 0 q1_wage q1_delay q1_odds q1_clock q1_hasWeeks q1_happenings_many q1_happenings_cells q1_watchers_many q1_watchers_cells (-1 : Int32) u43 hu43) [0, 1, 2, 3, 4, 5] cal_X2_addTallies cav_X2_addTallies lk_X2_61 cx hP hD hS hl dX2_begin_43 rfl rfl rfl rfl (Nat.le_of_ble_eq_true rfl) ⟨Nat.le_of_ble_eq_true rfl, Nat.le_of_ble_eq_true rfl⟩ rfl (by decide +kernel) rfl [some 0, some 1, some 2, some 3, some 4, some 5] rfl (by decide +kernel) rfl (fun H locs hP hD hS => ?_)
  obtain rfl := Option.some.inj hf
  subst hq
  exact retV cx hP hD hS dX2_begin_46
def X2_oneFalls_j105 (F : Nat) (o_seed : Int32) (q1_delay : Int32) (q1_extras_many : Int32) (q1_extras_cells : Nat → Int32) (q1_happenings_many : Int32) (q1_happenings_cells : Nat → Int32) (q1_watchers_many : Int32) (q1_watchers_cells : Nat → Int32) (v4 : Int32) (v5 : Int32) : Option ((Int32 × (Nat → Int32) × (Nat → Int32)) ⊕ (((Nat → Int32) × (Nat → Int32)))) :=
  some (.inl ((v5 + 1), q1_happenings_cells, q1_watchers_cells))
def X2_oneFalls_b72 (F : Nat) (o_seed : Int32) (q1_delay : Int32) (q1_extras_many : Int32) (q1_extras_cells : Nat → Int32) (q1_happenings_many : Int32) (q1_watchers_many : Int32) (v4 : Int32) (st72 : Int32 × (Nat → Int32) × (Nat → Int32)) : Option ((Int32 × (Nat → Int32) × (Nat → Int32)) ⊕ (((Nat → Int32) × (Nat → Int32)))) :=
  if q1_watchers_many ≤ st72.1 then
  some (.inr (st72.2.1, st72.2.2))
  else
  (X7_get 12 3 q1_watchers_many st72.2.2 st72.1 (0 : Int32)).bind fun u91 =>
  if u91 = v4 then
  (X0_warn F q1_delay q1_happenings_many st72.2.1 q1_watchers_many st72.2.2 st72.1).bind fun u102 =>
  X2_oneFalls_j105 F o_seed q1_delay q1_extras_many q1_extras_cells q1_happenings_many u102.1 q1_watchers_many u102.2 v4 st72.1
  else
  X2_oneFalls_j105 F o_seed q1_delay q1_extras_many q1_extras_cells q1_happenings_many st72.2.1 q1_watchers_many st72.2.2 v4 st72.1
def X2_oneFalls (F : Nat) (o_seed : Int32) (q1_delay : Int32) (q1_extras_many : Int32) (q1_extras_cells : Nat → Int32) (q1_happenings_many : Int32) (q1_happenings_cells : Nat → Int32) (q1_watchers_many : Int32) (q1_watchers_cells : Nat → Int32) : Option (Int32 × Int32 × (Nat → Int32) × (Nat → Int32)) :=
  if (1 : Int32) ≤ q1_extras_many then
  if ¬ 65536 = (0 : Int32) then
  if ¬ 8 = (0 : Int32) then
  if ¬ q1_extras_many = (0 : Int32) then
  (X7_get 35 5 q1_extras_many q1_extras_cells (jrem ((jrem ((o_seed * 3121) + 11351) 65536) / 8) q1_extras_many) (1 : Int32)).bind fun u50 =>
  if u50 ≤ 0 then
  (X7_get 35 5 q1_extras_many q1_extras_cells (jrem ((jrem ((o_seed * 3121) + 11351) 65536) / 8) q1_extras_many) (0 : Int32)).bind fun u64 =>
  (iter (X2_oneFalls_b72 F (jrem ((o_seed * 3121) + 11351) 65536) q1_delay q1_extras_many q1_extras_cells q1_happenings_many q1_watchers_many u64) F (0, q1_happenings_cells, q1_watchers_cells)).bind (fun (e72 : (Nat → Int32) × (Nat → Int32)) =>
    some (1, (jrem ((o_seed * 3121) + 11351) 65536), e72.1, e72.2))
  else
  some (0, (jrem ((o_seed * 3121) + 11351) 65536), q1_happenings_cells, q1_watchers_cells)
  else none
  else none
  else none
  else
  some (0, o_seed, q1_happenings_cells, q1_watchers_cells)
abbrev wd_X2_oneFalls (E : vE) (a_o a_o_begins a_o_ends a_o_timesLeft a_q1 a_q1_streets a_q1_names a_q1_extras a_q1_happenings a_q1_watchers a_q1_weeks a_q1_extras_cells a_q1_happenings_cells a_q1_watchers_cells : Nat) (o_seed : Int32) (o_steps : Int32) (o_isOver : Int32) (o_missed : Int32) (o_hours : Int32) (o_happened : Int32) (o_warned : Int32) (o_unfinished : Int32) (q1_wage : Int32) (q1_delay : Int32) (q1_odds : Int32) (q1_clock : Int32) (q1_hasWeeks : Int32) (q1_extras_many : Int32) (q1_extras_cells : Nat → Int32) (q1_happenings_many : Int32) (q1_happenings_cells : Nat → Int32) (q1_watchers_many : Int32) (q1_watchers_cells : Nat → Int32) : va_W := [(a_o, .inr (2, [.ref a_o_begins, .ref a_o_ends, .ref a_o_timesLeft, .int o_seed, .int o_steps, .int o_isOver, .int o_missed, .int o_hours, .int o_happened, .int o_warned, .int o_unfinished])), (a_q1, .inr (0, [.int q1_wage, .int q1_delay, .int q1_odds, .int q1_clock, .int q1_hasWeeks, .ref a_q1_streets, .ref a_q1_names, .ref a_q1_extras, .ref a_q1_happenings, .ref a_q1_watchers, .ref a_q1_weeks])), (a_q1_extras, .inr (7, [.int 5, .ref a_q1_extras_cells, .int q1_extras_many])), (a_q1_extras_cells, .inl (E.2.1, 35, .inl q1_extras_cells)), (a_q1_happenings, .inr (7, [.int 5, .ref a_q1_happenings_cells, .int q1_happenings_many])), (a_q1_happenings_cells, .inl (E.2.1, 40, .inl q1_happenings_cells)), (a_q1_watchers, .inr (7, [.int 3, .ref a_q1_watchers_cells, .int q1_watchers_many])), (a_q1_watchers_cells, .inl (E.2.1, 12, .inl q1_watchers_cells))]
set_option maxHeartbeats 4000000 in
set_option maxRecDepth 100000 in
theorem ct_X2_oneFalls (l : Launch) (E : vE) (F : Nat) (a_o a_o_begins a_o_ends a_o_timesLeft a_q1 a_q1_streets a_q1_names a_q1_extras a_q1_happenings a_q1_watchers a_q1_weeks a_q1_extras_cells a_q1_happenings_cells a_q1_watchers_cells : Nat) (o_seed : Int32) (o_steps : Int32) (o_isOver : Int32) (o_missed : Int32) (o_hours : Int32) (o_happened : Int32) (o_warned : Int32) (o_unfinished : Int32) (q1_wage : Int32) (q1_delay : Int32) (q1_odds : Int32) (q1_clock : Int32) (q1_hasWeeks : Int32) (q1_extras_many : Int32) (q1_extras_cells : Nat → Int32) (q1_happenings_many : Int32) (q1_happenings_cells : Nat → Int32) (q1_watchers_many : Int32) (q1_watchers_cells : Nat → Int32) (u : Int32 × Int32 × (Nat → Int32) × (Nat → Int32)) (hf : X2_oneFalls F o_seed q1_delay q1_extras_many q1_extras_cells q1_happenings_many q1_happenings_cells q1_watchers_many q1_watchers_cells = some u) :
    CtI l yX2_oneFalls cX2_oneFalls 6 (some .boolean) 3 E [.ref a_o, .ref a_q1] (wd_X2_oneFalls E a_o a_o_begins a_o_ends a_o_timesLeft a_q1 a_q1_streets a_q1_names a_q1_extras a_q1_happenings a_q1_watchers a_q1_weeks a_q1_extras_cells a_q1_happenings_cells a_q1_watchers_cells o_seed o_steps o_isOver o_missed o_hours o_happened o_warned o_unfinished q1_wage q1_delay q1_odds q1_clock q1_hasWeeks q1_extras_many q1_extras_cells q1_happenings_many q1_happenings_cells q1_watchers_many q1_watchers_cells) (wd_X2_oneFalls E a_o a_o_begins a_o_ends a_o_timesLeft a_q1 a_q1_streets a_q1_names a_q1_extras a_q1_happenings a_q1_watchers a_q1_weeks a_q1_extras_cells a_q1_happenings_cells a_q1_watchers_cells u.2.1 o_steps o_isOver o_missed o_hours o_happened o_warned o_unfinished q1_wage q1_delay q1_odds q1_clock q1_hasWeeks q1_extras_many q1_extras_cells q1_happenings_many u.2.2.1 q1_watchers_many u.2.2.2) u.1 := by
  refine ctI (by decide) (Nat.le_of_ble_eq_true rfl) ?_
  intro p e s m below meth cd A ls aa QQ hq cx hP hD hS hl
  obtain ⟨⟨hx, hb, hml, hown, hts⟩, hr, hlocks, hK, hA, hX⟩ := id cx
  have hl : lv_has ls 6 [(0, .ref a_o), (1, .ref a_q1)] := hl
  unfold X2_oneFalls at hf
  refine lv_aload_n hx hb dX2_oneFalls_0 rfl (lv_at hl 1 rfl) ?_
  refine va_get (D := E.1) (ci := 0) (v := .ref a_q1_extras) (C := RX0) (T := TX0) (N := 11) hx hb hts inX0 hown hK hP 1 rfl rfl 7 (by decide) (hts _ fl_X2_134) (fun _ h9 => h9) rfl dX2_oneFalls_1 ?_
  refine va_get (D := E.1) (ci := 7) (v := .int q1_extras_many) (C := RX7) (T := TX7) (N := 3) hx hb hts inX7 hown hK hP 2 rfl rfl 2 (by decide) (hts _ fl_X2_36) (fun _ h9 => h9) rfl dX2_oneFalls_4 ?_
  refine lv_istore_n (lv' := [(2, .int q1_extras_many), (0, .ref a_o), (1, .ref a_q1)]) hx hb dX2_oneFalls_7 rfl hl (by decide) rfl (fun ls hl => ?_)
  refine lv_iload_n hx hb dX2_oneFalls_8 rfl (lv_at hl 0 rfl) ?_
  refine lv_iconst (v := 1) hx hb dX2_oneFalls_9 (by decide) ?_
  refine lv_icmp_ge (tgt := 15) hx hb dX2_oneFalls_10 (by decide) (fun hc => ?_) (fun hc => ?_)
  · have hf := it_t hc hf
    refine lv_aload_n hx hb dX2_oneFalls_15 rfl (lv_at hl 1 rfl) ?_
    refine lv_aload_n hx hb dX2_oneFalls_16 rfl (lv_at hl 1 rfl) ?_
    refine va_get (D := E.1) (ci := 2) (v := .int o_seed) (C := RX2) (T := TX2) (N := 11) hx hb hts inX2 hown hK hP 0 rfl rfl 3 (by decide) (hts _ fl_X2_64) (fun _ h9 => h9) rfl dX2_oneFalls_17 ?_
    refine lv_sipush (v := 3121) hx hb dX2_oneFalls_20 (by decide) ?_
    refine lv_imul hx hb dX2_oneFalls_23 ?_
    refine lv_sipush (v := 11351) hx hb dX2_oneFalls_24 (by decide) ?_
    refine lv_iadd hx hb dX2_oneFalls_27 ?_
    refine lv_ldc (v := 65536) hx hb hown (hts _ ki_X2_137) dX2_oneFalls_28 ?_
    obtain ⟨hnz, hf⟩ := ck hf
    refine r_irem hx hb dX2_oneFalls_30 hnz ?_
    refine va_put (D := E.1) (ci := 2) (v := .int (jrem ((o_seed * 3121) + 11351) 65536)) (ty := .int) (C := RX2) (T := TX2) (N := 11) hx hb hts inX2 tyX2 tyX2_ok nmX2 hown hK hP hD hS 0 rfl rfl 3 (by decide) (hts _ fl_X2_64) (fun _ h9 => h9) rfl (by decide +kernel) rfl rfl (Nat.le_of_ble_eq_true rfl) dX2_oneFalls_31 (fun H locs hP hD hS => ?_)
    have hP : va_P E.1 vwCl (wd_X2_oneFalls E a_o a_o_begins a_o_ends a_o_timesLeft a_q1 a_q1_streets a_q1_names a_q1_extras a_q1_happenings a_q1_watchers a_q1_weeks a_q1_extras_cells a_q1_happenings_cells a_q1_watchers_cells (jrem ((o_seed * 3121) + 11351) 65536) o_steps o_isOver o_missed o_hours o_happened o_warned o_unfinished q1_wage q1_delay q1_odds q1_clock q1_hasWeeks q1_extras_many q1_extras_cells q1_happenings_many q1_happenings_cells q1_watchers_many q1_watchers_cells) H := hP
    have hD : va_D A (wd_X2_oneFalls E a_o a_o_begins a_o_ends a_o_timesLeft a_q1 a_q1_streets a_q1_names a_q1_extras a_q1_happenings a_q1_watchers a_q1_weeks a_q1_extras_cells a_q1_happenings_cells a_q1_watchers_cells (jrem ((o_seed * 3121) + 11351) 65536) o_steps o_isOver o_missed o_hours o_happened o_warned o_unfinished q1_wage q1_delay q1_odds q1_clock q1_hasWeeks q1_extras_many q1_extras_cells q1_happenings_many q1_happenings_cells q1_watchers_many q1_watchers_cells) := hD
    refine lv_aload_n hx hb dX2_oneFalls_34 rfl (lv_at hl 1 rfl) ?_
    refine va_get (D := E.1) (ci := 2) (v := .int (jrem ((o_seed * 3121) + 11351) 65536)) (C := RX2) (T := TX2) (N := 11) hx hb hts inX2 hown hK hP 0 rfl rfl 3 (by decide) (hts _ fl_X2_64) (fun _ h9 => h9) rfl dX2_oneFalls_35 ?_
    refine lv_bipush (v := 8) hx hb dX2_oneFalls_38 (by decide) ?_
    obtain ⟨hnz, hf⟩ := ck hf
    refine lv_idiv hx hb dX2_oneFalls_40 hnz ?_
    refine lv_iload_n hx hb dX2_oneFalls_41 rfl (lv_at hl 0 rfl) ?_
    obtain ⟨hnz, hf⟩ := ck hf
    refine r_irem hx hb dX2_oneFalls_42 hnz ?_
    refine lv_istore_n (lv' := [(3, .int (jrem ((jrem ((o_seed * 3121) + 11351) 65536) / 8) q1_extras_many)), (2, .int q1_extras_many), (0, .ref a_o), (1, .ref a_q1)]) hx hb dX2_oneFalls_43 rfl hl (by decide) rfl (fun ls hl => ?_)
    refine lv_aload_n hx hb dX2_oneFalls_44 rfl (lv_at hl 3 rfl) ?_
    refine va_get (D := E.1) (ci := 0) (v := .ref a_q1_extras) (C := RX0) (T := TX0) (N := 11) hx hb hts inX0 hown hK hP 1 rfl rfl 7 (by decide) (hts _ fl_X2_134) (fun _ h9 => h9) rfl dX2_oneFalls_45 ?_
    refine lv_iload_n hx hb dX2_oneFalls_48 rfl (lv_at hl 0 rfl) ?_
    refine lv_iconst (v := 1) hx hb dX2_oneFalls_49 (by decide) ?_
    obtain ⟨u50, hu50, hf⟩ := bd hf
    refine keepVI (ct_X7_get l E a_q1_extras a_q1_extras_cells 35 5 q1_extras_many q1_extras_cells (jrem ((jrem ((o_seed * 3121) + 11351) 65536) / 8) q1_extras_many) (1 : Int32) u50 hu50) [2, 3] cal_X7_get cav_X7_get lk_X2_52 cx hP hD hS hl dX2_oneFalls_50 rfl rfl rfl rfl (Nat.le_of_ble_eq_true rfl) ⟨Nat.le_of_ble_eq_true rfl, Nat.le_of_ble_eq_true rfl⟩ rfl (by decide) (fun H locs hP hS => ?_)
    refine lv_if_le (tgt := 58) hx hb dX2_oneFalls_53 (by decide) (fun hc => ?_) (fun hc => ?_)
    · have hf := it_t hc hf
      refine lv_aload_n hx hb dX2_oneFalls_58 rfl (lv_at hl 3 rfl) ?_
      refine va_get (D := E.1) (ci := 0) (v := .ref a_q1_extras) (C := RX0) (T := TX0) (N := 11) hx hb hts inX0 hown hK hP 1 rfl rfl 7 (by decide) (hts _ fl_X2_134) (fun _ h9 => h9) rfl dX2_oneFalls_59 ?_
      refine lv_iload_n hx hb dX2_oneFalls_62 rfl (lv_at hl 0 rfl) ?_
      refine lv_iconst (v := 0) hx hb dX2_oneFalls_63 (by decide) ?_
      obtain ⟨u64, hu64, hf⟩ := bd hf
      refine keepVI (ct_X7_get l E a_q1_extras a_q1_extras_cells 35 5 q1_extras_many q1_extras_cells (jrem ((jrem ((o_seed * 3121) + 11351) 65536) / 8) q1_extras_many) (0 : Int32) u64 hu64) [2, 3] cal_X7_get cav_X7_get lk_X2_52 cx hP hD hS hl dX2_oneFalls_64 rfl rfl rfl rfl (Nat.le_of_ble_eq_true rfl) ⟨Nat.le_of_ble_eq_true rfl, Nat.le_of_ble_eq_true rfl⟩ rfl (by decide) (fun H locs hP hS => ?_)
      refine lv_istore (lv' := [(4, .int u64), (3, .int (jrem ((jrem ((o_seed * 3121) + 11351) 65536) / 8) q1_extras_many)), (2, .int q1_extras_many), (0, .ref a_o), (1, .ref a_q1)]) hx hb dX2_oneFalls_67 hl (by decide) rfl (fun ls hl => ?_)
      refine lv_iconst (v := 0) hx hb dX2_oneFalls_69 (by decide) ?_
      refine lv_istore (lv' := [(5, .int 0), (4, .int u64), (3, .int (jrem ((jrem ((o_seed * 3121) + 11351) 65536) / 8) q1_extras_many)), (2, .int q1_extras_many), (0, .ref a_o), (1, .ref a_q1)]) hx hb dX2_oneFalls_70 hl (by decide) rfl (fun ls hl => ?_)
      obtain ⟨e72, hit72, hf⟩ := bd hf
      refine iter_W (b := X2_oneFalls_b72 F (jrem ((o_seed * 3121) + 11351) 65536) q1_delay q1_extras_many q1_extras_cells q1_happenings_many q1_watchers_many u64) (P := fun st72 => ∀ (H : Heap) (locs : List Loc) (ls : Array Slot), va_P E.1 vwCl (wd_X2_oneFalls E a_o a_o_begins a_o_ends a_o_timesLeft a_q1 a_q1_streets a_q1_names a_q1_extras a_q1_happenings a_q1_watchers a_q1_weeks a_q1_extras_cells a_q1_happenings_cells a_q1_watchers_cells (jrem ((o_seed * 3121) + 11351) 65536) o_steps o_isOver o_missed o_hours o_happened o_warned o_unfinished q1_wage q1_delay q1_odds q1_clock q1_hasWeeks q1_extras_many q1_extras_cells q1_happenings_many st72.2.1 q1_watchers_many st72.2.2) H → va_D A (wd_X2_oneFalls E a_o a_o_begins a_o_ends a_o_timesLeft a_q1 a_q1_streets a_q1_names a_q1_extras a_q1_happenings a_q1_watchers a_q1_weeks a_q1_extras_cells a_q1_happenings_cells a_q1_watchers_cells (jrem ((o_seed * 3121) + 11351) 65536) o_steps o_isOver o_missed o_hours o_happened o_warned o_unfinished q1_wage q1_delay q1_odds q1_clock q1_hasWeeks q1_extras_many q1_extras_cells q1_happenings_many st72.2.1 q1_watchers_many st72.2.2) → va_S A s.heap H locs → lv_has ls 6 [(1, .ref a_q1), (4, .int u64), (5, .int st72.1)] → W p l e (rmd 3) s m aa below meth cd H locs 0 0 QQ (F0 m 72 ls [])) (G := (fun (e72 : (Nat → Int32) × (Nat → Int32)) => ∀ (H : Heap) (locs : List Loc) (ls : Array Slot), va_P E.1 vwCl (wd_X2_oneFalls E a_o a_o_begins a_o_ends a_o_timesLeft a_q1 a_q1_streets a_q1_names a_q1_extras a_q1_happenings a_q1_watchers a_q1_weeks a_q1_extras_cells a_q1_happenings_cells a_q1_watchers_cells (jrem ((o_seed * 3121) + 11351) 65536) o_steps o_isOver o_missed o_hours o_happened o_warned o_unfinished q1_wage q1_delay q1_odds q1_clock q1_hasWeeks q1_extras_many q1_extras_cells q1_happenings_many e72.1 q1_watchers_many e72.2) H → va_D A (wd_X2_oneFalls E a_o a_o_begins a_o_ends a_o_timesLeft a_q1 a_q1_streets a_q1_names a_q1_extras a_q1_happenings a_q1_watchers a_q1_weeks a_q1_extras_cells a_q1_happenings_cells a_q1_watchers_cells (jrem ((o_seed * 3121) + 11351) 65536) o_steps o_isOver o_missed o_hours o_happened o_warned o_unfinished q1_wage q1_delay q1_odds q1_clock q1_hasWeeks q1_extras_many q1_extras_cells q1_happenings_many e72.1 q1_watchers_many e72.2) → va_S A s.heap H locs → lv_has ls 6 [] → W p l e (rmd 3) s m aa below meth cd H locs 0 0 QQ (F0 m 111 ls []))) ?_ F (0, q1_happenings_cells, q1_watchers_cells) e72 hit72 ?_ _ _ _ hP hD hS (lv_sub hl [5, 1, 0] rfl)
      · intro st72 r72 hf hk72 he72 H locs ls hP hD hS hl
        have hj105 : ∀ (v5_j105 : Int32) (q1_happenings_cells_j105 : Nat → Int32) (q1_watchers_cells_j105 : Nat → Int32) (H : Heap) (locs : List Loc) (ls : Array Slot), X2_oneFalls_j105 F (jrem ((o_seed * 3121) + 11351) 65536) q1_delay q1_extras_many q1_extras_cells q1_happenings_many q1_happenings_cells_j105 q1_watchers_many q1_watchers_cells_j105 u64 v5_j105 = some r72 → va_P E.1 vwCl (wd_X2_oneFalls E a_o a_o_begins a_o_ends a_o_timesLeft a_q1 a_q1_streets a_q1_names a_q1_extras a_q1_happenings a_q1_watchers a_q1_weeks a_q1_extras_cells a_q1_happenings_cells a_q1_watchers_cells (jrem ((o_seed * 3121) + 11351) 65536) o_steps o_isOver o_missed o_hours o_happened o_warned o_unfinished q1_wage q1_delay q1_odds q1_clock q1_hasWeeks q1_extras_many q1_extras_cells q1_happenings_many q1_happenings_cells_j105 q1_watchers_many q1_watchers_cells_j105) H → va_D A (wd_X2_oneFalls E a_o a_o_begins a_o_ends a_o_timesLeft a_q1 a_q1_streets a_q1_names a_q1_extras a_q1_happenings a_q1_watchers a_q1_weeks a_q1_extras_cells a_q1_happenings_cells a_q1_watchers_cells (jrem ((o_seed * 3121) + 11351) 65536) o_steps o_isOver o_missed o_hours o_happened o_warned o_unfinished q1_wage q1_delay q1_odds q1_clock q1_hasWeeks q1_extras_many q1_extras_cells q1_happenings_many q1_happenings_cells_j105 q1_watchers_many q1_watchers_cells_j105) → va_S A s.heap H locs → lv_has ls 6 [(1, .ref a_q1), (4, .int u64), (5, .int v5_j105)] → W p l e (rmd 3) s m aa below meth cd H locs 0 0 QQ (F0 m 105 ls []) := by
          intro v5_j105 q1_happenings_cells_j105 q1_watchers_cells_j105 H locs ls hf hP hD hS hl
          unfold X2_oneFalls_j105 at hf
          refine lv_iinc (v := (v5_j105 + 1)) (lv' := [(5, .int (v5_j105 + 1)), (1, .ref a_q1), (4, .int u64)]) hx hb dX2_oneFalls_105 hl (k := 2) rfl rfl (by decide) rfl (fun ls hl => ?_)
          refine lv_goto (tgt := 72) hx hb dX2_oneFalls_108 (by decide) ?_
          exact hk72 _ (Option.some.inj hf).symm _ _ _ hP hD hS (lv_sub hl [1, 2, 0] rfl)
        unfold X2_oneFalls_b72 at hf
        refine lv_iload hx hb dX2_oneFalls_72 (lv_at hl 2 rfl) ?_
        refine lv_aload_n hx hb dX2_oneFalls_74 rfl (lv_at hl 0 rfl) ?_
        refine va_get (D := E.1) (ci := 0) (v := .ref a_q1_watchers) (C := RX0) (T := TX0) (N := 11) hx hb hts inX0 hown hK hP 1 rfl rfl 9 (by decide) (hts _ fl_X2_91) (fun _ h9 => h9) rfl dX2_oneFalls_75 ?_
        refine va_get (D := E.1) (ci := 7) (v := .int q1_watchers_many) (C := RX7) (T := TX7) (N := 3) hx hb hts inX7 hown hK hP 6 rfl rfl 2 (by decide) (hts _ fl_X2_36) (fun _ h9 => h9) rfl dX2_oneFalls_78 ?_
        refine lv_icmp_ge (tgt := 111) hx hb dX2_oneFalls_81 (by decide) (fun hc => ?_) (fun hc => ?_)
        · have hf := it_t hc hf
          exact he72 _ (Option.some.inj hf).symm _ _ _ hP hD hS (lv_sub hl [] rfl)
        · have hf := it_f hc hf
          refine lv_aload_n hx hb dX2_oneFalls_84 rfl (lv_at hl 0 rfl) ?_
          refine va_get (D := E.1) (ci := 0) (v := .ref a_q1_watchers) (C := RX0) (T := TX0) (N := 11) hx hb hts inX0 hown hK hP 1 rfl rfl 9 (by decide) (hts _ fl_X2_91) (fun _ h9 => h9) rfl dX2_oneFalls_85 ?_
          refine lv_iload hx hb dX2_oneFalls_88 (lv_at hl 2 rfl) ?_
          refine lv_iconst (v := 0) hx hb dX2_oneFalls_90 (by decide) ?_
          obtain ⟨u91, hu91, hf⟩ := bd hf
          refine keepVI (ct_X7_get l E a_q1_watchers a_q1_watchers_cells 12 3 q1_watchers_many st72.2.2 st72.1 (0 : Int32) u91 hu91) [6, 7] cal_X7_get cav_X7_get lk_X2_52 cx hP hD hS hl dX2_oneFalls_91 rfl rfl rfl rfl (Nat.le_of_ble_eq_true rfl) ⟨Nat.le_of_ble_eq_true rfl, Nat.le_of_ble_eq_true rfl⟩ rfl (by decide) (fun H locs hP hS => ?_)
          refine lv_iload hx hb dX2_oneFalls_94 (lv_at hl 1 rfl) ?_
          refine lv_icmp_ne (tgt := 105) hx hb dX2_oneFalls_96 (by decide) (fun hc => ?_) (fun hc => ?_)
          · have hf := it_f hc hf
            exact hj105 _ _ _ _ _ _ hf hP hD hS (lv_sub hl [0, 1, 2] rfl)
          · have hf := it_t hc hf
            refine lv_aload_n hx hb dX2_oneFalls_99 rfl (lv_at hl 0 rfl) ?_
            refine lv_iload hx hb dX2_oneFalls_100 (lv_at hl 2 rfl) ?_
            obtain ⟨u102, hu102, hf⟩ := bd hf
            refine callVV (wn := (wd_X2_oneFalls E a_o a_o_begins a_o_ends a_o_timesLeft a_q1 a_q1_streets a_q1_names a_q1_extras a_q1_happenings a_q1_watchers a_q1_weeks a_q1_extras_cells a_q1_happenings_cells a_q1_watchers_cells (jrem ((o_seed * 3121) + 11351) 65536) o_steps o_isOver o_missed o_hours o_happened o_warned o_unfinished q1_wage q1_delay q1_odds q1_clock q1_hasWeeks q1_extras_many q1_extras_cells q1_happenings_many u102.1 q1_watchers_many u102.2)) (n1 := 8) (ct_X0_warn l E F a_q1 a_q1_streets a_q1_names a_q1_extras a_q1_happenings a_q1_watchers a_q1_weeks a_q1_happenings_cells a_q1_watchers_cells q1_wage q1_delay q1_odds q1_clock q1_hasWeeks q1_happenings_many st72.2.1 q1_watchers_many st72.2.2 st72.1 u102 hu102) [1, 4, 5, 6, 7] cal_X0_warn cav_X0_warn lk_X2_138 cx hP hD hS hl dX2_oneFalls_102 rfl rfl rfl rfl (Nat.le_of_ble_eq_true rfl) ⟨Nat.le_of_ble_eq_true rfl, Nat.le_of_ble_eq_true rfl⟩ rfl (by decide +kernel) rfl [none, some 0, none, none, some 1, some 2, some 3, some 4] rfl (by decide +kernel) rfl (fun H locs hP hD hS => ?_)
            exact hj105 _ _ _ _ _ _ hf hP hD hS (lv_sub hl [0, 1, 2] rfl)
      · refine fun H locs ls hP hD hS hl => ?_
        refine lv_iconst (v := 1) hx hb dX2_oneFalls_111 (by decide) ?_
        obtain rfl := Option.some.inj hf
        subst hq
        exact retZ cx rfl hP hD hS dX2_oneFalls_112
    · have hf := it_f hc hf
      refine lv_iconst (v := 0) hx hb dX2_oneFalls_56 (by decide) ?_
      obtain rfl := Option.some.inj hf
      subst hq
      exact retZ cx rfl hP hD hS dX2_oneFalls_57
  · have hf := it_f hc hf
    refine lv_iconst (v := 0) hx hb dX2_oneFalls_13 (by decide) ?_
    obtain rfl := Option.some.inj hf
    subst hq
    exact retZ cx rfl hP hD hS dX2_oneFalls_14
def X2_compares (v0 : Int32) (v1 : Int32) (v2 : Int32) : Option (Int32) :=
  if v1 = 60 then
  if v2 ≤ v0 then
  some 0
  else
  some 1
  else
  if v1 = 62 then
  if v0 ≤ v2 then
  some 0
  else
  some 1
  else
  if v0 = v2 then
  some 1
  else
  some 0
abbrev wd_X2_compares (E : vE) : va_W := []
set_option maxHeartbeats 4000000 in
set_option maxRecDepth 100000 in
theorem ct_X2_compares (l : Launch) (E : vE) (v0 : Int32) (v1 : Int32) (v2 : Int32) (u : Int32) (hf : X2_compares v0 v1 v2 = some u) :
    CtI l yX2_compares cX2_compares 3 (some .boolean) 0 E [.int v0, .int v1, .int v2] (wd_X2_compares E) (wd_X2_compares E) u := by
  refine ctI (by decide) (Nat.le_of_ble_eq_true rfl) ?_
  intro p e s m below meth cd A ls aa QQ hq cx hP hD hS hl
  obtain ⟨⟨hx, hb, hml, hown, hts⟩, hr, hlocks, hK, hA, hX⟩ := id cx
  have hl : lv_has ls 3 [(0, .int v0), (1, .int v1), (2, .int v2)] := hl
  unfold X2_compares at hf
  refine lv_iload_n hx hb dX2_compares_0 rfl (lv_at hl 1 rfl) ?_
  refine lv_bipush (v := 60) hx hb dX2_compares_1 (by decide) ?_
  refine lv_icmp_ne (tgt := 17) hx hb dX2_compares_3 (by decide) (fun hc => ?_) (fun hc => ?_)
  · have hf := it_f hc hf
    refine lv_iload_n hx hb dX2_compares_17 rfl (lv_at hl 1 rfl) ?_
    refine lv_bipush (v := 62) hx hb dX2_compares_18 (by decide) ?_
    refine lv_icmp_ne (tgt := 36) hx hb dX2_compares_20 (by decide) (fun hc => ?_) (fun hc => ?_)
    · have hf := it_f hc hf
      refine lv_iload_n hx hb dX2_compares_36 rfl (lv_at hl 0 rfl) ?_
      refine lv_iload_n hx hb dX2_compares_37 rfl (lv_at hl 2 rfl) ?_
      refine lv_icmp_ne (tgt := 45) hx hb dX2_compares_38 (by decide) (fun hc => ?_) (fun hc => ?_)
      · have hf := it_f hc hf
        refine lv_iconst (v := 0) hx hb dX2_compares_45 (by decide) ?_
        obtain rfl := Option.some.inj hf
        subst hq
        exact retZ cx rfl hP hD hS dX2_compares_46
      · have hf := it_t hc hf
        refine lv_iconst (v := 1) hx hb dX2_compares_41 (by decide) ?_
        refine lv_goto (tgt := 46) hx hb dX2_compares_42 (by decide) ?_
        obtain rfl := Option.some.inj hf
        subst hq
        exact retZ cx rfl hP hD hS dX2_compares_46
    · have hf := it_t hc hf
      refine lv_iload_n hx hb dX2_compares_23 rfl (lv_at hl 0 rfl) ?_
      refine lv_iload_n hx hb dX2_compares_24 rfl (lv_at hl 2 rfl) ?_
      refine lv_icmp_le (tgt := 32) hx hb dX2_compares_25 (by decide) (fun hc => ?_) (fun hc => ?_)
      · have hf := it_t hc hf
        refine lv_iconst (v := 0) hx hb dX2_compares_32 (by decide) ?_
        refine lv_goto (tgt := 46) hx hb dX2_compares_33 (by decide) ?_
        obtain rfl := Option.some.inj hf
        subst hq
        exact retZ cx rfl hP hD hS dX2_compares_46
      · have hf := it_f hc hf
        refine lv_iconst (v := 1) hx hb dX2_compares_28 (by decide) ?_
        refine lv_goto (tgt := 46) hx hb dX2_compares_29 (by decide) ?_
        obtain rfl := Option.some.inj hf
        subst hq
        exact retZ cx rfl hP hD hS dX2_compares_46
  · have hf := it_t hc hf
    refine lv_iload_n hx hb dX2_compares_6 rfl (lv_at hl 0 rfl) ?_
    refine lv_iload_n hx hb dX2_compares_7 rfl (lv_at hl 2 rfl) ?_
    refine lv_icmp_ge (tgt := 15) hx hb dX2_compares_8 (by decide) (fun hc => ?_) (fun hc => ?_)
    · have hf := it_t hc hf
      refine lv_iconst (v := 0) hx hb dX2_compares_15 (by decide) ?_
      obtain rfl := Option.some.inj hf
      subst hq
      exact retZ cx rfl hP hD hS dX2_compares_16
    · have hf := it_f hc hf
      refine lv_iconst (v := 1) hx hb dX2_compares_11 (by decide) ?_
      refine lv_goto (tgt := 16) hx hb dX2_compares_12 (by decide) ?_
      obtain rfl := Option.some.inj hf
      subst hq
      exact retZ cx rfl hP hD hS dX2_compares_16
def X2_holds (q1_extras_many : Int32) (q1_extras_cells : Nat → Int32) (q1_happenings_many : Int32) (q1_happenings_cells : Nat → Int32) (q1_watchers_many : Int32) (q1_watchers_cells : Nat → Int32) (q1_weeks_many : Int32) (q1_weeks_cells : Nat → Int32) (v2 : Int32) (v3 : Int32) (v4 : Int32) : Option (Int32) :=
  (X7_get 180 6 q1_weeks_many q1_weeks_cells v2 (3 : Int32)).bind fun u6 =>
  if u6 = 19 then
  (X7_get 40 5 q1_happenings_many q1_happenings_cells v3 (3 : Int32)).bind fun u42 =>
  if u42 = v4 then
  some 1
  else
  some 0
  else if u6 = 20 then
  (X0_isAt q1_extras_many q1_extras_cells v3 v4).bind fun u60 =>
  if isZ u60 then some u60 else none
  else if u6 = 21 then
  (X0_isToCome q1_happenings_many q1_happenings_cells v3).bind fun u66 =>
  if u66 = 0 then
  some 1
  else
  some 0
  else (X7_get 12 3 q1_watchers_many q1_watchers_cells v3 (2 : Int32)).bind fun u84 =>
  (X7_get 180 6 q1_weeks_many q1_weeks_cells v2 (4 : Int32)).bind fun u93 =>
  (X2_compares u84 u93 v4).bind fun u98 =>
  if isZ u98 then some u98 else none
abbrev wd_X2_holds (E : vE) (a_o a_o_begins a_o_ends a_o_timesLeft a_q1 a_q1_streets a_q1_names a_q1_extras a_q1_happenings a_q1_watchers a_q1_weeks a_q1_extras_cells a_q1_happenings_cells a_q1_watchers_cells a_q1_weeks_cells : Nat) (o_seed : Int32) (o_steps : Int32) (o_isOver : Int32) (o_missed : Int32) (o_hours : Int32) (o_happened : Int32) (o_warned : Int32) (o_unfinished : Int32) (q1_wage : Int32) (q1_delay : Int32) (q1_odds : Int32) (q1_clock : Int32) (q1_hasWeeks : Int32) (q1_extras_many : Int32) (q1_extras_cells : Nat → Int32) (q1_happenings_many : Int32) (q1_happenings_cells : Nat → Int32) (q1_watchers_many : Int32) (q1_watchers_cells : Nat → Int32) (q1_weeks_many : Int32) (q1_weeks_cells : Nat → Int32) : va_W := [(a_o, .inr (2, [.ref a_o_begins, .ref a_o_ends, .ref a_o_timesLeft, .int o_seed, .int o_steps, .int o_isOver, .int o_missed, .int o_hours, .int o_happened, .int o_warned, .int o_unfinished])), (a_q1, .inr (0, [.int q1_wage, .int q1_delay, .int q1_odds, .int q1_clock, .int q1_hasWeeks, .ref a_q1_streets, .ref a_q1_names, .ref a_q1_extras, .ref a_q1_happenings, .ref a_q1_watchers, .ref a_q1_weeks])), (a_q1_extras, .inr (7, [.int 5, .ref a_q1_extras_cells, .int q1_extras_many])), (a_q1_extras_cells, .inl (E.2.1, 35, .inl q1_extras_cells)), (a_q1_happenings, .inr (7, [.int 5, .ref a_q1_happenings_cells, .int q1_happenings_many])), (a_q1_happenings_cells, .inl (E.2.1, 40, .inl q1_happenings_cells)), (a_q1_watchers, .inr (7, [.int 3, .ref a_q1_watchers_cells, .int q1_watchers_many])), (a_q1_watchers_cells, .inl (E.2.1, 12, .inl q1_watchers_cells)), (a_q1_weeks, .inr (7, [.int 6, .ref a_q1_weeks_cells, .int q1_weeks_many])), (a_q1_weeks_cells, .inl (E.2.1, 180, .inl q1_weeks_cells))]
set_option maxHeartbeats 4000000 in
set_option maxRecDepth 100000 in
theorem ct_X2_holds (l : Launch) (E : vE) (a_o a_o_begins a_o_ends a_o_timesLeft a_q1 a_q1_streets a_q1_names a_q1_extras a_q1_happenings a_q1_watchers a_q1_weeks a_q1_extras_cells a_q1_happenings_cells a_q1_watchers_cells a_q1_weeks_cells : Nat) (o_seed : Int32) (o_steps : Int32) (o_isOver : Int32) (o_missed : Int32) (o_hours : Int32) (o_happened : Int32) (o_warned : Int32) (o_unfinished : Int32) (q1_wage : Int32) (q1_delay : Int32) (q1_odds : Int32) (q1_clock : Int32) (q1_hasWeeks : Int32) (q1_extras_many : Int32) (q1_extras_cells : Nat → Int32) (q1_happenings_many : Int32) (q1_happenings_cells : Nat → Int32) (q1_watchers_many : Int32) (q1_watchers_cells : Nat → Int32) (q1_weeks_many : Int32) (q1_weeks_cells : Nat → Int32) (v2 : Int32) (v3 : Int32) (v4 : Int32) (u : Int32) (hf : X2_holds q1_extras_many q1_extras_cells q1_happenings_many q1_happenings_cells q1_watchers_many q1_watchers_cells q1_weeks_many q1_weeks_cells v2 v3 v4 = some u) :
    CtI l yX2_holds cX2_holds 5 (some .boolean) 2 E [.ref a_o, .ref a_q1, .int v2, .int v3, .int v4] (wd_X2_holds E a_o a_o_begins a_o_ends a_o_timesLeft a_q1 a_q1_streets a_q1_names a_q1_extras a_q1_happenings a_q1_watchers a_q1_weeks a_q1_extras_cells a_q1_happenings_cells a_q1_watchers_cells a_q1_weeks_cells o_seed o_steps o_isOver o_missed o_hours o_happened o_warned o_unfinished q1_wage q1_delay q1_odds q1_clock q1_hasWeeks q1_extras_many q1_extras_cells q1_happenings_many q1_happenings_cells q1_watchers_many q1_watchers_cells q1_weeks_many q1_weeks_cells) (wd_X2_holds E a_o a_o_begins a_o_ends a_o_timesLeft a_q1 a_q1_streets a_q1_names a_q1_extras a_q1_happenings a_q1_watchers a_q1_weeks a_q1_extras_cells a_q1_happenings_cells a_q1_watchers_cells a_q1_weeks_cells o_seed o_steps o_isOver o_missed o_hours o_happened o_warned o_unfinished q1_wage q1_delay q1_odds q1_clock q1_hasWeeks q1_extras_many q1_extras_cells q1_happenings_many q1_happenings_cells q1_watchers_many q1_watchers_cells q1_weeks_many q1_weeks_cells) u := by
  refine ctI (by decide) (Nat.le_of_ble_eq_true rfl) ?_
  intro p e s m below meth cd A ls aa QQ hq cx hP hD hS hl
  obtain ⟨⟨hx, hb, hml, hown, hts⟩, hr, hlocks, hK, hA, hX⟩ := id cx
  have hl : lv_has ls 5 [(0, .ref a_o), (1, .ref a_q1), (2, .int v2), (3, .int v3), (4, .int v4)] := hl
  unfold X2_holds at hf
  refine lv_aload_n hx hb dX2_holds_0 rfl (lv_at hl 1 rfl) ?_
  refine va_get (D := E.1) (ci := 0) (v := .ref a_q1_weeks) (C := RX0) (T := TX0) (N := 11) hx hb hts inX0 hown hK hP 1 rfl rfl 10 (by decide) (hts _ fl_X2_30) (fun _ h9 => h9) rfl dX2_holds_1 ?_
  refine lv_iload_n hx hb dX2_holds_4 rfl (lv_at hl 2 rfl) ?_
  refine lv_iconst (v := 3) hx hb dX2_holds_5 (by decide) ?_
  obtain ⟨u6, hu6, hf⟩ := bd hf
  refine keepVI (ct_X7_get l E a_q1_weeks a_q1_weeks_cells 180 6 q1_weeks_many q1_weeks_cells v2 (3 : Int32) u6 hu6) [8, 9] cal_X7_get cav_X7_get lk_X2_52 cx hP hD hS hl dX2_holds_6 rfl rfl rfl rfl (Nat.le_of_ble_eq_true rfl) ⟨Nat.le_of_ble_eq_true rfl, Nat.le_of_ble_eq_true rfl⟩ rfl (by decide) (fun H locs hP hS => ?_)
  by_cases hc20 : u6 = 19
  · have hf := it_t hc20 hf
    refine swT (tgt := 36) 0 cx dX2_holds_9 (by rw [hc20]; decide) (by decide) rfl (by decide) ?_
    refine lv_aload_n hx hb dX2_holds_36 rfl (lv_at hl 1 rfl) ?_
    refine va_get (D := E.1) (ci := 0) (v := .ref a_q1_happenings) (C := RX0) (T := TX0) (N := 11) hx hb hts inX0 hown hK hP 1 rfl rfl 8 (by decide) (hts _ fl_X2_121) (fun _ h9 => h9) rfl dX2_holds_37 ?_
    refine lv_iload_n hx hb dX2_holds_40 rfl (lv_at hl 3 rfl) ?_
    refine lv_iconst (v := 3) hx hb dX2_holds_41 (by decide) ?_
    obtain ⟨u42, hu42, hf⟩ := bd hf
    refine keepVI (ct_X7_get l E a_q1_happenings a_q1_happenings_cells 40 5 q1_happenings_many q1_happenings_cells v3 (3 : Int32) u42 hu42) [4, 5] cal_X7_get cav_X7_get lk_X2_52 cx hP hD hS hl dX2_holds_42 rfl rfl rfl rfl (Nat.le_of_ble_eq_true rfl) ⟨Nat.le_of_ble_eq_true rfl, Nat.le_of_ble_eq_true rfl⟩ rfl (by decide) (fun H locs hP hS => ?_)
    refine lv_iload hx hb dX2_holds_45 (lv_at hl 4 rfl) ?_
    refine lv_icmp_ne (tgt := 54) hx hb dX2_holds_47 (by decide) (fun hc => ?_) (fun hc => ?_)
    · have hf := it_f hc hf
      refine lv_iconst (v := 0) hx hb dX2_holds_54 (by decide) ?_
      obtain rfl := Option.some.inj hf
      subst hq
      exact retZ cx rfl hP hD hS dX2_holds_55
    · have hf := it_t hc hf
      refine lv_iconst (v := 1) hx hb dX2_holds_50 (by decide) ?_
      refine lv_goto (tgt := 55) hx hb dX2_holds_51 (by decide) ?_
      obtain rfl := Option.some.inj hf
      subst hq
      exact retZ cx rfl hP hD hS dX2_holds_55
  · have hf := it_f hc20 hf
    by_cases hc21 : u6 = 20
    · have hf := it_t hc21 hf
      refine swT (tgt := 56) 1 cx dX2_holds_9 (by rw [hc21]; decide) (by decide) rfl (by decide) ?_
      refine lv_aload_n hx hb dX2_holds_56 rfl (lv_at hl 1 rfl) ?_
      refine lv_iload_n hx hb dX2_holds_57 rfl (lv_at hl 3 rfl) ?_
      refine lv_iload hx hb dX2_holds_58 (lv_at hl 4 rfl) ?_
      obtain ⟨u60, hu60, hf⟩ := bd hf
      refine keepVI (ct_X0_isAt l E a_q1 a_q1_streets a_q1_names a_q1_extras a_q1_happenings a_q1_watchers a_q1_weeks a_q1_extras_cells q1_wage q1_delay q1_odds q1_clock q1_hasWeeks q1_extras_many q1_extras_cells v3 v4 u60 hu60) [1, 2, 3] cal_X0_isAt cav_X0_isAt lk_X2_124 cx hP hD hS hl dX2_holds_60 rfl rfl rfl rfl (Nat.le_of_ble_eq_true rfl) ⟨Nat.le_of_ble_eq_true rfl, Nat.le_of_ble_eq_true rfl⟩ rfl (by decide) (fun H locs hP hS => ?_)
      obtain ⟨hz, hf⟩ := ck hf
      obtain rfl := Option.some.inj hf
      subst hq
      exact retZ cx hz hP hD hS dX2_holds_63
    · have hf := it_f hc21 hf
      by_cases hc22 : u6 = 21
      · have hf := it_t hc22 hf
        refine swT (tgt := 64) 2 cx dX2_holds_9 (by rw [hc22]; decide) (by decide) rfl (by decide) ?_
        refine lv_aload_n hx hb dX2_holds_64 rfl (lv_at hl 1 rfl) ?_
        refine lv_iload_n hx hb dX2_holds_65 rfl (lv_at hl 3 rfl) ?_
        obtain ⟨u66, hu66, hf⟩ := bd hf
        refine keepVI (ct_X0_isToCome l E a_q1 a_q1_streets a_q1_names a_q1_extras a_q1_happenings a_q1_watchers a_q1_weeks a_q1_happenings_cells q1_wage q1_delay q1_odds q1_clock q1_hasWeeks q1_happenings_many q1_happenings_cells v3 u66 hu66) [1, 4, 5] cal_X0_isToCome cav_X0_isToCome lk_X2_127 cx hP hD hS hl dX2_holds_66 rfl rfl rfl rfl (Nat.le_of_ble_eq_true rfl) ⟨Nat.le_of_ble_eq_true rfl, Nat.le_of_ble_eq_true rfl⟩ rfl (by decide) (fun H locs hP hS => ?_)
        refine lv_if_ne (tgt := 76) hx hb dX2_holds_69 (by decide) (fun hc => ?_) (fun hc => ?_)
        · have hf := it_f hc hf
          refine lv_iconst (v := 0) hx hb dX2_holds_76 (by decide) ?_
          obtain rfl := Option.some.inj hf
          subst hq
          exact retZ cx rfl hP hD hS dX2_holds_77
        · have hf := it_t hc hf
          refine lv_iconst (v := 1) hx hb dX2_holds_72 (by decide) ?_
          refine lv_goto (tgt := 77) hx hb dX2_holds_73 (by decide) ?_
          obtain rfl := Option.some.inj hf
          subst hq
          exact retZ cx rfl hP hD hS dX2_holds_77
      · have hf := it_f hc22 hf
        refine swD (tgt := 78) [19, 20, 21] cx dX2_holds_9 ?_ (by decide) (by decide) ?_
        · intro z hz
          simp only [List.mem_cons, List.not_mem_nil, or_false] at hz
          rcases hz with rfl | rfl | rfl
          · exact ne_int hc20 (by decide)
          · exact ne_int hc21 (by decide)
          · exact ne_int hc22 (by decide)
        · refine lv_aload_n hx hb dX2_holds_78 rfl (lv_at hl 1 rfl) ?_
          refine va_get (D := E.1) (ci := 0) (v := .ref a_q1_watchers) (C := RX0) (T := TX0) (N := 11) hx hb hts inX0 hown hK hP 1 rfl rfl 9 (by decide) (hts _ fl_X2_91) (fun _ h9 => h9) rfl dX2_holds_79 ?_
          refine lv_iload_n hx hb dX2_holds_82 rfl (lv_at hl 3 rfl) ?_
          refine lv_iconst (v := 2) hx hb dX2_holds_83 (by decide) ?_
          obtain ⟨u84, hu84, hf⟩ := bd hf
          refine keepVI (ct_X7_get l E a_q1_watchers a_q1_watchers_cells 12 3 q1_watchers_many q1_watchers_cells v3 (2 : Int32) u84 hu84) [6, 7] cal_X7_get cav_X7_get lk_X2_52 cx hP hD hS hl dX2_holds_84 rfl rfl rfl rfl (Nat.le_of_ble_eq_true rfl) ⟨Nat.le_of_ble_eq_true rfl, Nat.le_of_ble_eq_true rfl⟩ rfl (by decide) (fun H locs hP hS => ?_)
          refine lv_aload_n hx hb dX2_holds_87 rfl (lv_at hl 1 rfl) ?_
          refine va_get (D := E.1) (ci := 0) (v := .ref a_q1_weeks) (C := RX0) (T := TX0) (N := 11) hx hb hts inX0 hown hK hP 1 rfl rfl 10 (by decide) (hts _ fl_X2_30) (fun _ h9 => h9) rfl dX2_holds_88 ?_
          refine lv_iload_n hx hb dX2_holds_91 rfl (lv_at hl 2 rfl) ?_
          refine lv_iconst (v := 4) hx hb dX2_holds_92 (by decide) ?_
          obtain ⟨u93, hu93, hf⟩ := bd hf
          refine keepVI (ct_X7_get l E a_q1_weeks a_q1_weeks_cells 180 6 q1_weeks_many q1_weeks_cells v2 (4 : Int32) u93 hu93) [8, 9] cal_X7_get cav_X7_get lk_X2_52 cx hP hD hS hl dX2_holds_93 rfl rfl rfl rfl (Nat.le_of_ble_eq_true rfl) ⟨Nat.le_of_ble_eq_true rfl, Nat.le_of_ble_eq_true rfl⟩ rfl (by decide) (fun H locs hP hS => ?_)
          refine lv_iload hx hb dX2_holds_96 (lv_at hl 4 rfl) ?_
          obtain ⟨u98, hu98, hf⟩ := bd hf
          refine keepSI (ct_X2_compares l E u84 u93 v4 u98 hu98) [] cal_X2_compares sta_X2_compares lk_X2_130 cx hP hD hS hl dX2_holds_98 rfl rfl (Nat.le_of_ble_eq_true rfl) ⟨Nat.le_of_ble_eq_true rfl, Nat.le_of_ble_eq_true rfl⟩ rfl (by decide) (fun H locs hP hS => ?_)
          obtain ⟨hz, hf⟩ := ck hf
          obtain rfl := Option.some.inj hf
          subst hq
          exact retZ cx hz hP hD hS dX2_holds_101
def X2_timesOf_j184 (F : Nat) (o_seed : Int32) (o_isOver : Int32) (o_missed : Int32) (q1_wage : Int32) (q1_delay : Int32) (q1_clock : Int32) (q1_streets_corners : Int32) (q1_streets_takes : Nat → Int32) (q1_streets_hours : Nat → Int32) (q1_extras_many : Int32) (q1_extras_cells : Nat → Int32) (q1_happenings_many : Int32) (q1_happenings_cells : Nat → Int32) (q1_watchers_many : Int32) (q1_watchers_cells : Nat → Int32) (q1_weeks_many : Int32) (q1_weeks_cells : Nat → Int32) (v5 : Int32) : Option (Int32 × Int32 × Int32 × Int32 × Int32 × (Nat → Int32) × (Nat → Int32) × (Nat → Int32)) :=
  if v5 = 0 then
  some (0, o_seed, o_isOver, (o_missed + 1), q1_clock, q1_extras_cells, q1_happenings_cells, q1_watchers_cells)
  else
  some (0, o_seed, o_isOver, o_missed, q1_clock, q1_extras_cells, q1_happenings_cells, q1_watchers_cells)
def X2_timesOf (F : Nat) (o_seed : Int32) (o_isOver : Int32) (o_missed : Int32) (q1_wage : Int32) (q1_delay : Int32) (q1_clock : Int32) (q1_streets_corners : Int32) (q1_streets_takes : Nat → Int32) (q1_streets_hours : Nat → Int32) (q1_extras_many : Int32) (q1_extras_cells : Nat → Int32) (q1_happenings_many : Int32) (q1_happenings_cells : Nat → Int32) (q1_watchers_many : Int32) (q1_watchers_cells : Nat → Int32) (q1_weeks_many : Int32) (q1_weeks_cells : Nat → Int32) (v2 : Int32) : Option (Int32 × Int32 × Int32 × Int32 × Int32 × (Nat → Int32) × (Nat → Int32) × (Nat → Int32)) :=
  (X7_get 180 6 q1_weeks_many q1_weeks_cells v2 (1 : Int32)).bind fun u6 =>
  (X7_get 180 6 q1_weeks_many q1_weeks_cells v2 (2 : Int32)).bind fun u16 =>
  (X7_get 180 6 q1_weeks_many q1_weeks_cells v2 (0 : Int32)).bind fun u30 =>
  if u30 = 10 then
  (X0_canPass q1_clock u16).bind fun u107 =>
  if u107 = 0 then
  X2_timesOf_j184 F o_seed o_isOver o_missed q1_wage q1_delay q1_clock q1_streets_corners q1_streets_takes q1_streets_hours q1_extras_many q1_extras_cells q1_happenings_many q1_happenings_cells q1_watchers_many q1_watchers_cells q1_weeks_many q1_weeks_cells u107
  else
  (X0_passHours F q1_wage q1_delay q1_clock q1_streets_corners q1_streets_takes q1_streets_hours q1_extras_many q1_extras_cells q1_happenings_many q1_happenings_cells q1_watchers_many q1_watchers_cells u16).bind fun u120 =>
  X2_timesOf_j184 F o_seed o_isOver o_missed q1_wage q1_delay u120.1 q1_streets_corners q1_streets_takes q1_streets_hours q1_extras_many u120.2.1 q1_happenings_many u120.2.2.1 q1_watchers_many u120.2.2.2 q1_weeks_many q1_weeks_cells u107
  else if u30 = 15 then
  (X0_turnOrder q1_extras_many q1_extras_cells u6 u16).bind fun u130 =>
  X2_timesOf_j184 F o_seed o_isOver o_missed q1_wage q1_delay q1_clock q1_streets_corners q1_streets_takes q1_streets_hours q1_extras_many u130 q1_happenings_many q1_happenings_cells q1_watchers_many q1_watchers_cells q1_weeks_many q1_weeks_cells 1
  else if u30 = 16 then
  (X0_putOff q1_happenings_many q1_happenings_cells u6 u16).bind fun u140 =>
  X2_timesOf_j184 F o_seed o_isOver o_missed q1_wage q1_delay q1_clock q1_streets_corners q1_streets_takes q1_streets_hours q1_extras_many q1_extras_cells q1_happenings_many u140.2 q1_watchers_many q1_watchers_cells q1_weeks_many q1_weeks_cells u140.1
  else if u30 = 17 then
  (X2_oneFalls F o_seed q1_delay q1_extras_many q1_extras_cells q1_happenings_many q1_happenings_cells q1_watchers_many q1_watchers_cells).bind fun u150 =>
  X2_timesOf_j184 F u150.2.1 o_isOver o_missed q1_wage q1_delay q1_clock q1_streets_corners q1_streets_takes q1_streets_hours q1_extras_many q1_extras_cells q1_happenings_many u150.2.2.1 q1_watchers_many u150.2.2.2 q1_weeks_many q1_weeks_cells u150.1
  else if u30 = 18 then
  (X2_holds q1_extras_many q1_extras_cells q1_happenings_many q1_happenings_cells q1_watchers_many q1_watchers_cells q1_weeks_many q1_weeks_cells v2 u6 u16).bind fun u164 =>
  if u164 = 0 then
  some (0, o_seed, o_isOver, o_missed, q1_clock, q1_extras_cells, q1_happenings_cells, q1_watchers_cells)
  else
  some (1, o_seed, o_isOver, o_missed, q1_clock, q1_extras_cells, q1_happenings_cells, q1_watchers_cells)
  else if u30 = 23 then
  some (u16, o_seed, o_isOver, o_missed, q1_clock, q1_extras_cells, q1_happenings_cells, q1_watchers_cells)
  else X2_timesOf_j184 F o_seed 1 o_missed q1_wage q1_delay q1_clock q1_streets_corners q1_streets_takes q1_streets_hours q1_extras_many q1_extras_cells q1_happenings_many q1_happenings_cells q1_watchers_many q1_watchers_cells q1_weeks_many q1_weeks_cells 1
abbrev wd_X2_timesOf (E : vE) (a_o a_o_begins a_o_ends a_o_timesLeft a_q1 a_q1_streets a_q1_names a_q1_extras a_q1_happenings a_q1_watchers a_q1_weeks a_q1_streets_roads a_q1_streets_takes a_q1_streets_hours a_q1_extras_cells a_q1_happenings_cells a_q1_watchers_cells a_q1_weeks_cells : Nat) (o_seed : Int32) (o_steps : Int32) (o_isOver : Int32) (o_missed : Int32) (o_hours : Int32) (o_happened : Int32) (o_warned : Int32) (o_unfinished : Int32) (q1_wage : Int32) (q1_delay : Int32) (q1_odds : Int32) (q1_clock : Int32) (q1_hasWeeks : Int32) (q1_streets_corners : Int32) (q1_streets_takes : Nat → Int32) (q1_streets_hours : Nat → Int32) (q1_extras_many : Int32) (q1_extras_cells : Nat → Int32) (q1_happenings_many : Int32) (q1_happenings_cells : Nat → Int32) (q1_watchers_many : Int32) (q1_watchers_cells : Nat → Int32) (q1_weeks_many : Int32) (q1_weeks_cells : Nat → Int32) : va_W := [(a_o, .inr (2, [.ref a_o_begins, .ref a_o_ends, .ref a_o_timesLeft, .int o_seed, .int o_steps, .int o_isOver, .int o_missed, .int o_hours, .int o_happened, .int o_warned, .int o_unfinished])), (a_q1, .inr (0, [.int q1_wage, .int q1_delay, .int q1_odds, .int q1_clock, .int q1_hasWeeks, .ref a_q1_streets, .ref a_q1_names, .ref a_q1_extras, .ref a_q1_happenings, .ref a_q1_watchers, .ref a_q1_weeks])), (a_q1_streets, .inr (6, [.int q1_streets_corners, .ref a_q1_streets_roads, .ref a_q1_streets_takes, .ref a_q1_streets_hours])), (a_q1_streets_takes, .inl (E.2.1, 64, .inl q1_streets_takes)), (a_q1_streets_hours, .inl (E.2.1, 64, .inl q1_streets_hours)), (a_q1_extras, .inr (7, [.int 5, .ref a_q1_extras_cells, .int q1_extras_many])), (a_q1_extras_cells, .inl (E.2.1, 35, .inl q1_extras_cells)), (a_q1_happenings, .inr (7, [.int 5, .ref a_q1_happenings_cells, .int q1_happenings_many])), (a_q1_happenings_cells, .inl (E.2.1, 40, .inl q1_happenings_cells)), (a_q1_watchers, .inr (7, [.int 3, .ref a_q1_watchers_cells, .int q1_watchers_many])), (a_q1_watchers_cells, .inl (E.2.1, 12, .inl q1_watchers_cells)), (a_q1_weeks, .inr (7, [.int 6, .ref a_q1_weeks_cells, .int q1_weeks_many])), (a_q1_weeks_cells, .inl (E.2.1, 180, .inl q1_weeks_cells))]
set_option maxHeartbeats 4000000 in
set_option maxRecDepth 100000 in
theorem ct_X2_timesOf (l : Launch) (E : vE) (F : Nat) (a_o a_o_begins a_o_ends a_o_timesLeft a_q1 a_q1_streets a_q1_names a_q1_extras a_q1_happenings a_q1_watchers a_q1_weeks a_q1_streets_roads a_q1_streets_takes a_q1_streets_hours a_q1_extras_cells a_q1_happenings_cells a_q1_watchers_cells a_q1_weeks_cells : Nat) (o_seed : Int32) (o_steps : Int32) (o_isOver : Int32) (o_missed : Int32) (o_hours : Int32) (o_happened : Int32) (o_warned : Int32) (o_unfinished : Int32) (q1_wage : Int32) (q1_delay : Int32) (q1_odds : Int32) (q1_clock : Int32) (q1_hasWeeks : Int32) (q1_streets_corners : Int32) (q1_streets_takes : Nat → Int32) (q1_streets_hours : Nat → Int32) (q1_extras_many : Int32) (q1_extras_cells : Nat → Int32) (q1_happenings_many : Int32) (q1_happenings_cells : Nat → Int32) (q1_watchers_many : Int32) (q1_watchers_cells : Nat → Int32) (q1_weeks_many : Int32) (q1_weeks_cells : Nat → Int32) (v2 : Int32) (u : Int32 × Int32 × Int32 × Int32 × Int32 × (Nat → Int32) × (Nat → Int32) × (Nat → Int32)) (hf : X2_timesOf F o_seed o_isOver o_missed q1_wage q1_delay q1_clock q1_streets_corners q1_streets_takes q1_streets_hours q1_extras_many q1_extras_cells q1_happenings_many q1_happenings_cells q1_watchers_many q1_watchers_cells q1_weeks_many q1_weeks_cells v2 = some u) :
    CtI l yX2_timesOf cX2_timesOf 6 (some .int) 5 E [.ref a_o, .ref a_q1, .int v2] (wd_X2_timesOf E a_o a_o_begins a_o_ends a_o_timesLeft a_q1 a_q1_streets a_q1_names a_q1_extras a_q1_happenings a_q1_watchers a_q1_weeks a_q1_streets_roads a_q1_streets_takes a_q1_streets_hours a_q1_extras_cells a_q1_happenings_cells a_q1_watchers_cells a_q1_weeks_cells o_seed o_steps o_isOver o_missed o_hours o_happened o_warned o_unfinished q1_wage q1_delay q1_odds q1_clock q1_hasWeeks q1_streets_corners q1_streets_takes q1_streets_hours q1_extras_many q1_extras_cells q1_happenings_many q1_happenings_cells q1_watchers_many q1_watchers_cells q1_weeks_many q1_weeks_cells) (wd_X2_timesOf E a_o a_o_begins a_o_ends a_o_timesLeft a_q1 a_q1_streets a_q1_names a_q1_extras a_q1_happenings a_q1_watchers a_q1_weeks a_q1_streets_roads a_q1_streets_takes a_q1_streets_hours a_q1_extras_cells a_q1_happenings_cells a_q1_watchers_cells a_q1_weeks_cells u.2.1 o_steps u.2.2.1 u.2.2.2.1 o_hours o_happened o_warned o_unfinished q1_wage q1_delay q1_odds u.2.2.2.2.1 q1_hasWeeks q1_streets_corners q1_streets_takes q1_streets_hours q1_extras_many u.2.2.2.2.2.1 q1_happenings_many u.2.2.2.2.2.2.1 q1_watchers_many u.2.2.2.2.2.2.2 q1_weeks_many q1_weeks_cells) u.1 := by
  refine ctI (by decide) (Nat.le_of_ble_eq_true rfl) ?_
  intro p e s m below meth cd A ls aa QQ hq cx hP hD hS hl
  obtain ⟨⟨hx, hb, hml, hown, hts⟩, hr, hlocks, hK, hA, hX⟩ := id cx
  have hl : lv_has ls 6 [(0, .ref a_o), (1, .ref a_q1), (2, .int v2)] := hl
  have hj184 : ∀ (v5_j184 : Int32) (o_seed_j184 : Int32) (o_isOver_j184 : Int32) (o_missed_j184 : Int32) (q1_clock_j184 : Int32) (q1_extras_cells_j184 : Nat → Int32) (q1_happenings_cells_j184 : Nat → Int32) (q1_watchers_cells_j184 : Nat → Int32) (H : Heap) (locs : List Loc) (ls : Array Slot), X2_timesOf_j184 F o_seed_j184 o_isOver_j184 o_missed_j184 q1_wage q1_delay q1_clock_j184 q1_streets_corners q1_streets_takes q1_streets_hours q1_extras_many q1_extras_cells_j184 q1_happenings_many q1_happenings_cells_j184 q1_watchers_many q1_watchers_cells_j184 q1_weeks_many q1_weeks_cells v5_j184 = some u → va_P E.1 vwCl (wd_X2_timesOf E a_o a_o_begins a_o_ends a_o_timesLeft a_q1 a_q1_streets a_q1_names a_q1_extras a_q1_happenings a_q1_watchers a_q1_weeks a_q1_streets_roads a_q1_streets_takes a_q1_streets_hours a_q1_extras_cells a_q1_happenings_cells a_q1_watchers_cells a_q1_weeks_cells o_seed_j184 o_steps o_isOver_j184 o_missed_j184 o_hours o_happened o_warned o_unfinished q1_wage q1_delay q1_odds q1_clock_j184 q1_hasWeeks q1_streets_corners q1_streets_takes q1_streets_hours q1_extras_many q1_extras_cells_j184 q1_happenings_many q1_happenings_cells_j184 q1_watchers_many q1_watchers_cells_j184 q1_weeks_many q1_weeks_cells) H → va_D A (wd_X2_timesOf E a_o a_o_begins a_o_ends a_o_timesLeft a_q1 a_q1_streets a_q1_names a_q1_extras a_q1_happenings a_q1_watchers a_q1_weeks a_q1_streets_roads a_q1_streets_takes a_q1_streets_hours a_q1_extras_cells a_q1_happenings_cells a_q1_watchers_cells a_q1_weeks_cells o_seed_j184 o_steps o_isOver_j184 o_missed_j184 o_hours o_happened o_warned o_unfinished q1_wage q1_delay q1_odds q1_clock_j184 q1_hasWeeks q1_streets_corners q1_streets_takes q1_streets_hours q1_extras_many q1_extras_cells_j184 q1_happenings_many q1_happenings_cells_j184 q1_watchers_many q1_watchers_cells_j184 q1_weeks_many q1_weeks_cells) → va_S A s.heap H locs → lv_has ls 6 [(0, .ref a_o), (5, .int v5_j184)] → W p l e (rmd 5) s m aa below meth cd H locs 0 0 QQ (F0 m 184 ls []) := by
    intro v5_j184 o_seed_j184 o_isOver_j184 o_missed_j184 q1_clock_j184 q1_extras_cells_j184 q1_happenings_cells_j184 q1_watchers_cells_j184 H locs ls hf hP hD hS hl
    unfold X2_timesOf_j184 at hf
    refine lv_iload hx hb dX2_timesOf_184 (lv_at hl 1 rfl) ?_
    refine lv_if_ne (tgt := 199) hx hb dX2_timesOf_186 (by decide) (fun hc => ?_) (fun hc => ?_)
    · have hf := it_f hc hf
      refine lv_iconst (v := 0) hx hb dX2_timesOf_199 (by decide) ?_
      obtain rfl := Option.some.inj hf
      subst hq
      exact retI cx hP hD hS dX2_timesOf_200
    · have hf := it_t hc hf
      refine lv_aload_n hx hb dX2_timesOf_189 rfl (lv_at hl 0 rfl) ?_
      refine lv_dup hx hb dX2_timesOf_190 rfl ?_
      refine va_get (D := E.1) (ci := 2) (v := .int o_missed_j184) (C := RX2) (T := TX2) (N := 11) hx hb hts inX2 hown hK hP 0 rfl rfl 6 (by decide) (hts _ fl_X2_67) (fun _ h9 => h9) rfl dX2_timesOf_191 ?_
      refine lv_iconst (v := 1) hx hb dX2_timesOf_194 (by decide) ?_
      refine lv_iadd hx hb dX2_timesOf_195 ?_
      refine va_put (D := E.1) (ci := 2) (v := .int (o_missed_j184 + 1)) (ty := .int) (C := RX2) (T := TX2) (N := 11) hx hb hts inX2 tyX2 tyX2_ok nmX2 hown hK hP hD hS 0 rfl rfl 6 (by decide) (hts _ fl_X2_67) (fun _ h9 => h9) rfl (by decide +kernel) rfl rfl (Nat.le_of_ble_eq_true rfl) dX2_timesOf_196 (fun H locs hP hD hS => ?_)
      have hP : va_P E.1 vwCl (wd_X2_timesOf E a_o a_o_begins a_o_ends a_o_timesLeft a_q1 a_q1_streets a_q1_names a_q1_extras a_q1_happenings a_q1_watchers a_q1_weeks a_q1_streets_roads a_q1_streets_takes a_q1_streets_hours a_q1_extras_cells a_q1_happenings_cells a_q1_watchers_cells a_q1_weeks_cells o_seed_j184 o_steps o_isOver_j184 (o_missed_j184 + 1) o_hours o_happened o_warned o_unfinished q1_wage q1_delay q1_odds q1_clock_j184 q1_hasWeeks q1_streets_corners q1_streets_takes q1_streets_hours q1_extras_many q1_extras_cells_j184 q1_happenings_many q1_happenings_cells_j184 q1_watchers_many q1_watchers_cells_j184 q1_weeks_many q1_weeks_cells) H := hP
      have hD : va_D A (wd_X2_timesOf E a_o a_o_begins a_o_ends a_o_timesLeft a_q1 a_q1_streets a_q1_names a_q1_extras a_q1_happenings a_q1_watchers a_q1_weeks a_q1_streets_roads a_q1_streets_takes a_q1_streets_hours a_q1_extras_cells a_q1_happenings_cells a_q1_watchers_cells a_q1_weeks_cells o_seed_j184 o_steps o_isOver_j184 (o_missed_j184 + 1) o_hours o_happened o_warned o_unfinished q1_wage q1_delay q1_odds q1_clock_j184 q1_hasWeeks q1_streets_corners q1_streets_takes q1_streets_hours q1_extras_many q1_extras_cells_j184 q1_happenings_many q1_happenings_cells_j184 q1_watchers_many q1_watchers_cells_j184 q1_weeks_many q1_weeks_cells) := hD
      refine lv_iconst (v := 0) hx hb dX2_timesOf_199 (by decide) ?_
      obtain rfl := Option.some.inj hf
      subst hq
      exact retI cx hP hD hS dX2_timesOf_200
  unfold X2_timesOf at hf
  refine lv_aload_n hx hb dX2_timesOf_0 rfl (lv_at hl 1 rfl) ?_
  refine va_get (D := E.1) (ci := 0) (v := .ref a_q1_weeks) (C := RX0) (T := TX0) (N := 11) hx hb hts inX0 hown hK hP 1 rfl rfl 10 (by decide) (hts _ fl_X2_30) (fun _ h9 => h9) rfl dX2_timesOf_1 ?_
  refine lv_iload_n hx hb dX2_timesOf_4 rfl (lv_at hl 2 rfl) ?_
  refine lv_iconst (v := 1) hx hb dX2_timesOf_5 (by decide) ?_
  obtain ⟨u6, hu6, hf⟩ := bd hf
  refine keepVI (ct_X7_get l E a_q1_weeks a_q1_weeks_cells 180 6 q1_weeks_many q1_weeks_cells v2 (1 : Int32) u6 hu6) [11, 12] cal_X7_get cav_X7_get lk_X2_52 cx hP hD hS hl dX2_timesOf_6 rfl rfl rfl rfl (Nat.le_of_ble_eq_true rfl) ⟨Nat.le_of_ble_eq_true rfl, Nat.le_of_ble_eq_true rfl⟩ rfl (by decide) (fun H locs hP hS => ?_)
  refine lv_istore_n (lv' := [(3, .int u6), (0, .ref a_o), (1, .ref a_q1), (2, .int v2)]) hx hb dX2_timesOf_9 rfl hl (by decide) rfl (fun ls hl => ?_)
  refine lv_aload_n hx hb dX2_timesOf_10 rfl (lv_at hl 2 rfl) ?_
  refine va_get (D := E.1) (ci := 0) (v := .ref a_q1_weeks) (C := RX0) (T := TX0) (N := 11) hx hb hts inX0 hown hK hP 1 rfl rfl 10 (by decide) (hts _ fl_X2_30) (fun _ h9 => h9) rfl dX2_timesOf_11 ?_
  refine lv_iload_n hx hb dX2_timesOf_14 rfl (lv_at hl 3 rfl) ?_
  refine lv_iconst (v := 2) hx hb dX2_timesOf_15 (by decide) ?_
  obtain ⟨u16, hu16, hf⟩ := bd hf
  refine keepVI (ct_X7_get l E a_q1_weeks a_q1_weeks_cells 180 6 q1_weeks_many q1_weeks_cells v2 (2 : Int32) u16 hu16) [11, 12] cal_X7_get cav_X7_get lk_X2_52 cx hP hD hS hl dX2_timesOf_16 rfl rfl rfl rfl (Nat.le_of_ble_eq_true rfl) ⟨Nat.le_of_ble_eq_true rfl, Nat.le_of_ble_eq_true rfl⟩ rfl (by decide) (fun H locs hP hS => ?_)
  refine lv_istore (lv' := [(4, .int u16), (3, .int u6), (0, .ref a_o), (1, .ref a_q1), (2, .int v2)]) hx hb dX2_timesOf_19 hl (by decide) rfl (fun ls hl => ?_)
  refine lv_iconst (v := 1) hx hb dX2_timesOf_21 (by decide) ?_
  refine lv_istore (lv' := [(5, .int 1), (4, .int u16), (3, .int u6), (0, .ref a_o), (1, .ref a_q1), (2, .int v2)]) hx hb dX2_timesOf_22 hl (by decide) rfl (fun ls hl => ?_)
  refine lv_aload_n hx hb dX2_timesOf_24 rfl (lv_at hl 4 rfl) ?_
  refine va_get (D := E.1) (ci := 0) (v := .ref a_q1_weeks) (C := RX0) (T := TX0) (N := 11) hx hb hts inX0 hown hK hP 1 rfl rfl 10 (by decide) (hts _ fl_X2_30) (fun _ h9 => h9) rfl dX2_timesOf_25 ?_
  refine lv_iload_n hx hb dX2_timesOf_28 rfl (lv_at hl 5 rfl) ?_
  refine lv_iconst (v := 0) hx hb dX2_timesOf_29 (by decide) ?_
  obtain ⟨u30, hu30, hf⟩ := bd hf
  refine keepVI (ct_X7_get l E a_q1_weeks a_q1_weeks_cells 180 6 q1_weeks_many q1_weeks_cells v2 (0 : Int32) u30 hu30) [11, 12] cal_X7_get cav_X7_get lk_X2_52 cx hP hD hS hl dX2_timesOf_30 rfl rfl rfl rfl (Nat.le_of_ble_eq_true rfl) ⟨Nat.le_of_ble_eq_true rfl, Nat.le_of_ble_eq_true rfl⟩ rfl (by decide) (fun H locs hP hS => ?_)
  by_cases hc11 : u30 = 10
  · have hf := it_t hc11 hf
    refine swT (tgt := 104) 0 cx dX2_timesOf_33 (by rw [hc11]; decide) (by decide) rfl (by decide) ?_
    refine lv_aload_n hx hb dX2_timesOf_104 rfl (lv_at hl 4 rfl) ?_
    refine lv_iload hx hb dX2_timesOf_105 (lv_at hl 1 rfl) ?_
    obtain ⟨u107, hu107, hf⟩ := bd hf
    refine keepVI (ct_X0_canPass l E a_q1 a_q1_streets a_q1_names a_q1_extras a_q1_happenings a_q1_watchers a_q1_weeks q1_wage q1_delay q1_odds q1_clock q1_hasWeeks u16 u107 hu107) [1] cal_X0_canPass cav_X0_canPass lk_X2_97 cx hP hD hS hl dX2_timesOf_107 rfl rfl rfl rfl (Nat.le_of_ble_eq_true rfl) ⟨Nat.le_of_ble_eq_true rfl, Nat.le_of_ble_eq_true rfl⟩ rfl (by decide) (fun H locs hP hS => ?_)
    refine lv_istore (lv' := [(5, .int u107), (4, .int u16), (3, .int u6), (0, .ref a_o), (1, .ref a_q1), (2, .int v2)]) hx hb dX2_timesOf_110 hl (by decide) rfl (fun ls hl => ?_)
    refine lv_iload hx hb dX2_timesOf_112 (lv_at hl 0 rfl) ?_
    refine lv_if_eq (tgt := 184) hx hb dX2_timesOf_114 (by decide) (fun hc => ?_) (fun hc => ?_)
    · have hf := it_t hc hf
      exact hj184 _ _ _ _ _ _ _ _ _ _ _ hf hP hD hS (lv_sub hl [3, 0] rfl)
    · have hf := it_f hc hf
      refine lv_aload_n hx hb dX2_timesOf_117 rfl (lv_at hl 4 rfl) ?_
      refine lv_iload hx hb dX2_timesOf_118 (lv_at hl 1 rfl) ?_
      obtain ⟨u120, hu120, hf⟩ := bd hf
      refine callVV (wn := (wd_X2_timesOf E a_o a_o_begins a_o_ends a_o_timesLeft a_q1 a_q1_streets a_q1_names a_q1_extras a_q1_happenings a_q1_watchers a_q1_weeks a_q1_streets_roads a_q1_streets_takes a_q1_streets_hours a_q1_extras_cells a_q1_happenings_cells a_q1_watchers_cells a_q1_weeks_cells o_seed o_steps o_isOver o_missed o_hours o_happened o_warned o_unfinished q1_wage q1_delay q1_odds u120.1 q1_hasWeeks q1_streets_corners q1_streets_takes q1_streets_hours q1_extras_many u120.2.1 q1_happenings_many u120.2.2.1 q1_watchers_many u120.2.2.2 q1_weeks_many q1_weeks_cells)) (n1 := 13) (ct_X0_passHours l E F a_q1 a_q1_streets a_q1_names a_q1_extras a_q1_happenings a_q1_watchers a_q1_weeks a_q1_streets_roads a_q1_streets_takes a_q1_streets_hours a_q1_extras_cells a_q1_happenings_cells a_q1_watchers_cells q1_wage q1_delay q1_odds q1_clock q1_hasWeeks q1_streets_corners q1_streets_takes q1_streets_hours q1_extras_many q1_extras_cells q1_happenings_many q1_happenings_cells q1_watchers_many q1_watchers_cells u16 u120 hu120) [1, 2, 3, 4, 5, 6, 7, 8, 9, 10] cal_X0_passHours cav_X0_passHours lk_X2_101 cx hP hD hS hl dX2_timesOf_120 rfl rfl rfl rfl (Nat.le_of_ble_eq_true rfl) ⟨Nat.le_of_ble_eq_true rfl, Nat.le_of_ble_eq_true rfl⟩ rfl (by decide +kernel) rfl [none, some 0, some 1, some 2, some 3, some 4, some 5, some 6, some 7, some 8, some 9, none, none] rfl (by decide +kernel) rfl (fun H locs hP hD hS => ?_)
      refine lv_goto (tgt := 184) hx hb dX2_timesOf_123 (by decide) ?_
      exact hj184 _ _ _ _ _ _ _ _ _ _ _ hf hP hD hS (lv_sub hl [3, 0] rfl)
  · have hf := it_f hc11 hf
    by_cases hc16 : u30 = 15
    · have hf := it_t hc16 hf
      refine swT (tgt := 126) 5 cx dX2_timesOf_33 (by rw [hc16]; decide) (by decide) rfl (by decide) ?_
      refine lv_aload_n hx hb dX2_timesOf_126 rfl (lv_at hl 4 rfl) ?_
      refine lv_iload_n hx hb dX2_timesOf_127 rfl (lv_at hl 2 rfl) ?_
      refine lv_iload hx hb dX2_timesOf_128 (lv_at hl 1 rfl) ?_
      obtain ⟨u130, hu130, hf⟩ := bd hf
      refine callVV (wn := (wd_X2_timesOf E a_o a_o_begins a_o_ends a_o_timesLeft a_q1 a_q1_streets a_q1_names a_q1_extras a_q1_happenings a_q1_watchers a_q1_weeks a_q1_streets_roads a_q1_streets_takes a_q1_streets_hours a_q1_extras_cells a_q1_happenings_cells a_q1_watchers_cells a_q1_weeks_cells o_seed o_steps o_isOver o_missed o_hours o_happened o_warned o_unfinished q1_wage q1_delay q1_odds q1_clock q1_hasWeeks q1_streets_corners q1_streets_takes q1_streets_hours q1_extras_many u130 q1_happenings_many q1_happenings_cells q1_watchers_many q1_watchers_cells q1_weeks_many q1_weeks_cells)) (n1 := 13) (ct_X0_turnOrder l E a_q1 a_q1_streets a_q1_names a_q1_extras a_q1_happenings a_q1_watchers a_q1_weeks a_q1_extras_cells q1_wage q1_delay q1_odds q1_clock q1_hasWeeks q1_extras_many q1_extras_cells u6 u16 u130 hu130) [1, 5, 6] cal_X0_turnOrder cav_X0_turnOrder lk_X2_105 cx hP hD hS hl dX2_timesOf_130 rfl rfl rfl rfl (Nat.le_of_ble_eq_true rfl) ⟨Nat.le_of_ble_eq_true rfl, Nat.le_of_ble_eq_true rfl⟩ rfl (by decide +kernel) rfl [none, some 0, none, none, none, some 1, some 2, none, none, none, none, none, none] rfl (by decide +kernel) rfl (fun H locs hP hD hS => ?_)
      refine lv_goto (tgt := 184) hx hb dX2_timesOf_133 (by decide) ?_
      exact hj184 _ _ _ _ _ _ _ _ _ _ _ hf hP hD hS (lv_sub hl [3, 0] rfl)
    · have hf := it_f hc16 hf
      by_cases hc17 : u30 = 16
      · have hf := it_t hc17 hf
        refine swT (tgt := 136) 6 cx dX2_timesOf_33 (by rw [hc17]; decide) (by decide) rfl (by decide) ?_
        refine lv_aload_n hx hb dX2_timesOf_136 rfl (lv_at hl 4 rfl) ?_
        refine lv_iload_n hx hb dX2_timesOf_137 rfl (lv_at hl 2 rfl) ?_
        refine lv_iload hx hb dX2_timesOf_138 (lv_at hl 1 rfl) ?_
        obtain ⟨u140, hu140, hf⟩ := bd hf
        refine callVI (wn := (wd_X2_timesOf E a_o a_o_begins a_o_ends a_o_timesLeft a_q1 a_q1_streets a_q1_names a_q1_extras a_q1_happenings a_q1_watchers a_q1_weeks a_q1_streets_roads a_q1_streets_takes a_q1_streets_hours a_q1_extras_cells a_q1_happenings_cells a_q1_watchers_cells a_q1_weeks_cells o_seed o_steps o_isOver o_missed o_hours o_happened o_warned o_unfinished q1_wage q1_delay q1_odds q1_clock q1_hasWeeks q1_streets_corners q1_streets_takes q1_streets_hours q1_extras_many q1_extras_cells q1_happenings_many u140.2 q1_watchers_many q1_watchers_cells q1_weeks_many q1_weeks_cells)) (n1 := 13) (ct_X0_putOff l E a_q1 a_q1_streets a_q1_names a_q1_extras a_q1_happenings a_q1_watchers a_q1_weeks a_q1_happenings_cells q1_wage q1_delay q1_odds q1_clock q1_hasWeeks q1_happenings_many q1_happenings_cells u6 u16 u140 hu140) [1, 7, 8] cal_X0_putOff cav_X0_putOff lk_X2_109 cx hP hD hS hl dX2_timesOf_140 rfl rfl rfl rfl (Nat.le_of_ble_eq_true rfl) ⟨Nat.le_of_ble_eq_true rfl, Nat.le_of_ble_eq_true rfl⟩ rfl (by decide +kernel) rfl [none, some 0, none, none, none, none, none, some 1, some 2, none, none, none, none] rfl (by decide +kernel) rfl (fun H locs hP hD hS => ?_)
        refine lv_istore (lv' := [(5, .int u140.1), (4, .int u16), (3, .int u6), (0, .ref a_o), (1, .ref a_q1), (2, .int v2)]) hx hb dX2_timesOf_143 hl (by decide) rfl (fun ls hl => ?_)
        refine lv_goto (tgt := 184) hx hb dX2_timesOf_145 (by decide) ?_
        exact hj184 _ _ _ _ _ _ _ _ _ _ _ hf hP hD hS (lv_sub hl [3, 0] rfl)
      · have hf := it_f hc17 hf
        by_cases hc18 : u30 = 17
        · have hf := it_t hc18 hf
          refine swT (tgt := 148) 7 cx dX2_timesOf_33 (by rw [hc18]; decide) (by decide) rfl (by decide) ?_
          refine lv_aload_n hx hb dX2_timesOf_148 rfl (lv_at hl 3 rfl) ?_
          refine lv_aload_n hx hb dX2_timesOf_149 rfl (lv_at hl 4 rfl) ?_
          obtain ⟨u150, hu150, hf⟩ := bd hf
          refine callVI (wn := (wd_X2_timesOf E a_o a_o_begins a_o_ends a_o_timesLeft a_q1 a_q1_streets a_q1_names a_q1_extras a_q1_happenings a_q1_watchers a_q1_weeks a_q1_streets_roads a_q1_streets_takes a_q1_streets_hours a_q1_extras_cells a_q1_happenings_cells a_q1_watchers_cells a_q1_weeks_cells u150.2.1 o_steps o_isOver o_missed o_hours o_happened o_warned o_unfinished q1_wage q1_delay q1_odds q1_clock q1_hasWeeks q1_streets_corners q1_streets_takes q1_streets_hours q1_extras_many q1_extras_cells q1_happenings_many u150.2.2.1 q1_watchers_many u150.2.2.2 q1_weeks_many q1_weeks_cells)) (n1 := 13) (ct_X2_oneFalls l E F a_o a_o_begins a_o_ends a_o_timesLeft a_q1 a_q1_streets a_q1_names a_q1_extras a_q1_happenings a_q1_watchers a_q1_weeks a_q1_extras_cells a_q1_happenings_cells a_q1_watchers_cells o_seed o_steps o_isOver o_missed o_hours o_happened o_warned o_unfinished q1_wage q1_delay q1_odds q1_clock q1_hasWeeks q1_extras_many q1_extras_cells q1_happenings_many q1_happenings_cells q1_watchers_many q1_watchers_cells u150 hu150) [0, 1, 5, 6, 7, 8, 9, 10] cal_X2_oneFalls cav_X2_oneFalls lk_X2_113 cx hP hD hS hl dX2_timesOf_150 rfl rfl rfl rfl (Nat.le_of_ble_eq_true rfl) ⟨Nat.le_of_ble_eq_true rfl, Nat.le_of_ble_eq_true rfl⟩ rfl (by decide +kernel) rfl [some 0, some 1, none, none, none, some 2, some 3, some 4, some 5, some 6, some 7, none, none] rfl (by decide +kernel) rfl (fun H locs hP hD hS => ?_)
          refine lv_istore (lv' := [(5, .int u150.1), (4, .int u16), (3, .int u6), (0, .ref a_o), (1, .ref a_q1), (2, .int v2)]) hx hb dX2_timesOf_153 hl (by decide) rfl (fun ls hl => ?_)
          refine lv_goto (tgt := 184) hx hb dX2_timesOf_155 (by decide) ?_
          exact hj184 _ _ _ _ _ _ _ _ _ _ _ hf hP hD hS (lv_sub hl [3, 0] rfl)
        · have hf := it_f hc18 hf
          by_cases hc19 : u30 = 18
          · have hf := it_t hc19 hf
            refine swT (tgt := 158) 8 cx dX2_timesOf_33 (by rw [hc19]; decide) (by decide) rfl (by decide) ?_
            refine lv_aload_n hx hb dX2_timesOf_158 rfl (lv_at hl 3 rfl) ?_
            refine lv_aload_n hx hb dX2_timesOf_159 rfl (lv_at hl 4 rfl) ?_
            refine lv_iload_n hx hb dX2_timesOf_160 rfl (lv_at hl 5 rfl) ?_
            refine lv_iload_n hx hb dX2_timesOf_161 rfl (lv_at hl 2 rfl) ?_
            refine lv_iload hx hb dX2_timesOf_162 (lv_at hl 1 rfl) ?_
            obtain ⟨u164, hu164, hf⟩ := bd hf
            refine keepVI (ct_X2_holds l E a_o a_o_begins a_o_ends a_o_timesLeft a_q1 a_q1_streets a_q1_names a_q1_extras a_q1_happenings a_q1_watchers a_q1_weeks a_q1_extras_cells a_q1_happenings_cells a_q1_watchers_cells a_q1_weeks_cells o_seed o_steps o_isOver o_missed o_hours o_happened o_warned o_unfinished q1_wage q1_delay q1_odds q1_clock q1_hasWeeks q1_extras_many q1_extras_cells q1_happenings_many q1_happenings_cells q1_watchers_many q1_watchers_cells q1_weeks_many q1_weeks_cells v2 u6 u16 u164 hu164) [0, 1, 5, 6, 7, 8, 9, 10, 11, 12] cal_X2_holds cav_X2_holds lk_X2_117 cx hP hD hS hl dX2_timesOf_164 rfl rfl rfl rfl (Nat.le_of_ble_eq_true rfl) ⟨Nat.le_of_ble_eq_true rfl, Nat.le_of_ble_eq_true rfl⟩ rfl (by decide) (fun H locs hP hS => ?_)
            refine lv_if_eq (tgt := 174) hx hb dX2_timesOf_167 (by decide) (fun hc => ?_) (fun hc => ?_)
            · have hf := it_t hc hf
              refine lv_iconst (v := 0) hx hb dX2_timesOf_174 (by decide) ?_
              obtain rfl := Option.some.inj hf
              subst hq
              exact retI cx hP hD hS dX2_timesOf_175
            · have hf := it_f hc hf
              refine lv_iconst (v := 1) hx hb dX2_timesOf_170 (by decide) ?_
              refine lv_goto (tgt := 175) hx hb dX2_timesOf_171 (by decide) ?_
              obtain rfl := Option.some.inj hf
              subst hq
              exact retI cx hP hD hS dX2_timesOf_175
          · have hf := it_f hc19 hf
            by_cases hc24 : u30 = 23
            · have hf := it_t hc24 hf
              refine swT (tgt := 176) 13 cx dX2_timesOf_33 (by rw [hc24]; decide) (by decide) rfl (by decide) ?_
              refine lv_iload hx hb dX2_timesOf_176 (lv_at hl 1 rfl) ?_
              obtain rfl := Option.some.inj hf
              subst hq
              exact retI cx hP hD hS dX2_timesOf_178
            · have hf := it_f hc24 hf
              refine swD (tgt := 179) [10, 15, 16, 17, 18, 23] cx dX2_timesOf_33 ?_ (by decide) (by decide) ?_
              · intro z hz
                simp only [List.mem_cons, List.not_mem_nil, or_false] at hz
                rcases hz with rfl | rfl | rfl | rfl | rfl | rfl
                · exact ne_int hc11 (by decide)
                · exact ne_int hc16 (by decide)
                · exact ne_int hc17 (by decide)
                · exact ne_int hc18 (by decide)
                · exact ne_int hc19 (by decide)
                · exact ne_int hc24 (by decide)
              · refine lv_aload_n hx hb dX2_timesOf_179 rfl (lv_at hl 3 rfl) ?_
                refine lv_iconst (v := 1) hx hb dX2_timesOf_180 (by decide) ?_
                refine va_put (D := E.1) (ci := 2) (v := .int 1) (ty := .boolean) (C := RX2) (T := TX2) (N := 11) hx hb hts inX2 tyX2 tyX2_ok nmX2 hown hK hP hD hS 0 rfl rfl 5 (by decide) (hts _ fl_X2_26) (fun _ h9 => h9) rfl (by decide +kernel) rfl rfl (Nat.le_of_ble_eq_true rfl) dX2_timesOf_181 (fun H locs hP hD hS => ?_)
                have hP : va_P E.1 vwCl (wd_X2_timesOf E a_o a_o_begins a_o_ends a_o_timesLeft a_q1 a_q1_streets a_q1_names a_q1_extras a_q1_happenings a_q1_watchers a_q1_weeks a_q1_streets_roads a_q1_streets_takes a_q1_streets_hours a_q1_extras_cells a_q1_happenings_cells a_q1_watchers_cells a_q1_weeks_cells o_seed o_steps 1 o_missed o_hours o_happened o_warned o_unfinished q1_wage q1_delay q1_odds q1_clock q1_hasWeeks q1_streets_corners q1_streets_takes q1_streets_hours q1_extras_many q1_extras_cells q1_happenings_many q1_happenings_cells q1_watchers_many q1_watchers_cells q1_weeks_many q1_weeks_cells) H := hP
                have hD : va_D A (wd_X2_timesOf E a_o a_o_begins a_o_ends a_o_timesLeft a_q1 a_q1_streets a_q1_names a_q1_extras a_q1_happenings a_q1_watchers a_q1_weeks a_q1_streets_roads a_q1_streets_takes a_q1_streets_hours a_q1_extras_cells a_q1_happenings_cells a_q1_watchers_cells a_q1_weeks_cells o_seed o_steps 1 o_missed o_hours o_happened o_warned o_unfinished q1_wage q1_delay q1_odds q1_clock q1_hasWeeks q1_streets_corners q1_streets_takes q1_streets_hours q1_extras_many q1_extras_cells q1_happenings_many q1_happenings_cells q1_watchers_many q1_watchers_cells q1_weeks_many q1_weeks_cells) := hD
                exact hj184 _ _ _ _ _ _ _ _ _ _ _ hf hP hD hS (lv_sub hl [3, 0] rfl)
def X2_pass_j222 (F : Nat) (o_seed : Int32) (o_steps : Int32) (o_isOver : Int32) (o_missed : Int32) (o_hours : Int32) (o_happened : Int32) (o_warned : Int32) (o_unfinished : Int32) (o_begins : Nat → Int32) (o_ends : Nat → Int32) (o_timesLeft : Nat → Int32) (q1_wage : Int32) (q1_delay : Int32) (q1_clock : Int32) (q1_streets_corners : Int32) (q1_streets_takes : Nat → Int32) (q1_streets_hours : Nat → Int32) (q1_extras_many : Int32) (q1_extras_cells : Nat → Int32) (q1_happenings_many : Int32) (q1_happenings_cells : Nat → Int32) (q1_watchers_many : Int32) (q1_watchers_cells : Nat → Int32) (q1_weeks_many : Int32) (q1_weeks_cells : Nat → Int32) : Option (vS) :=
  (X2_addTallies F o_hours o_happened o_warned q1_clock q1_happenings_many q1_happenings_cells q1_watchers_many q1_watchers_cells (1 : Int32)).bind fun u225 =>
  some (mkS [o_steps, o_seed, o_steps, o_isOver, o_missed, u225.1, u225.2.1, u225.2.2, o_unfinished, q1_clock] [] [o_begins, o_ends, o_timesLeft, q1_extras_cells, q1_happenings_cells, q1_watchers_cells] [])
def X2_pass_j216 (F : Nat) (o_seed : Int32) (o_steps : Int32) (o_isOver : Int32) (o_missed : Int32) (o_hours : Int32) (o_happened : Int32) (o_warned : Int32) (o_unfinished : Int32) (o_begins : Nat → Int32) (o_ends : Nat → Int32) (o_timesLeft : Nat → Int32) (q1_wage : Int32) (q1_delay : Int32) (q1_clock : Int32) (q1_streets_corners : Int32) (q1_streets_takes : Nat → Int32) (q1_streets_hours : Nat → Int32) (q1_extras_many : Int32) (q1_extras_cells : Nat → Int32) (q1_happenings_many : Int32) (q1_happenings_cells : Nat → Int32) (q1_watchers_many : Int32) (q1_watchers_cells : Nat → Int32) (q1_weeks_many : Int32) (q1_weeks_cells : Nat → Int32) (v3 : Int32) (v4 : Int32) (v5 : Int32) : Option ((vS) ⊕ ((vS))) :=
  some (.inl (mkS [v3, v4, (v5 + 1), o_seed, o_steps, o_isOver, o_missed, o_unfinished, q1_clock] [] [o_begins, o_ends, o_timesLeft, q1_extras_cells, q1_happenings_cells, q1_watchers_cells] []))
def X2_pass_j213 (F : Nat) (o_seed : Int32) (o_steps : Int32) (o_isOver : Int32) (o_missed : Int32) (o_hours : Int32) (o_happened : Int32) (o_warned : Int32) (o_unfinished : Int32) (o_begins : Nat → Int32) (o_ends : Nat → Int32) (o_timesLeft : Nat → Int32) (q1_wage : Int32) (q1_delay : Int32) (q1_clock : Int32) (q1_streets_corners : Int32) (q1_streets_takes : Nat → Int32) (q1_streets_hours : Nat → Int32) (q1_extras_many : Int32) (q1_extras_cells : Nat → Int32) (q1_happenings_many : Int32) (q1_happenings_cells : Nat → Int32) (q1_watchers_many : Int32) (q1_watchers_cells : Nat → Int32) (q1_weeks_many : Int32) (q1_weeks_cells : Nat → Int32) (v4 : Int32) (v5 : Int32) (v7 : Int32) : Option ((vS) ⊕ ((vS))) :=
  X2_pass_j216 F o_seed o_steps o_isOver o_missed o_hours o_happened o_warned o_unfinished o_begins o_ends o_timesLeft q1_wage q1_delay q1_clock q1_streets_corners q1_streets_takes q1_streets_hours q1_extras_many q1_extras_cells q1_happenings_many q1_happenings_cells q1_watchers_many q1_watchers_cells q1_weeks_many q1_weeks_cells v7 v4 v5
def X2_pass_j90 (F : Nat) (o_seed : Int32) (o_steps : Int32) (o_isOver : Int32) (o_missed : Int32) (o_hours : Int32) (o_happened : Int32) (o_warned : Int32) (o_unfinished : Int32) (o_begins : Nat → Int32) (o_ends : Nat → Int32) (o_timesLeft : Nat → Int32) (q1_wage : Int32) (q1_delay : Int32) (q1_clock : Int32) (q1_streets_corners : Int32) (q1_streets_takes : Nat → Int32) (q1_streets_hours : Nat → Int32) (q1_extras_many : Int32) (q1_extras_cells : Nat → Int32) (q1_happenings_many : Int32) (q1_happenings_cells : Nat → Int32) (q1_watchers_many : Int32) (q1_watchers_cells : Nat → Int32) (q1_weeks_many : Int32) (q1_weeks_cells : Nat → Int32) (v3 : Int32) (v4 : Int32) (v5 : Int32) : Option ((vS) ⊕ ((vS))) :=
  if v3 < q1_weeks_many then
  if o_steps < 300 then
  (X2_timesOf F o_seed o_isOver o_missed q1_wage q1_delay q1_clock q1_streets_corners q1_streets_takes q1_streets_hours q1_extras_many q1_extras_cells q1_happenings_many q1_happenings_cells q1_watchers_many q1_watchers_cells q1_weeks_many q1_weeks_cells v3).bind fun u145 =>
  (X7_get 180 6 q1_weeks_many q1_weeks_cells v3 (5 : Int32)).bind fun u159 =>
  if u145.1 ≤ 0 then
  X2_pass_j213 F u145.2.1 (o_steps + 1) u145.2.2.1 u145.2.2.2.1 o_hours o_happened o_warned o_unfinished o_begins o_ends o_timesLeft q1_wage q1_delay u145.2.2.2.2.1 q1_streets_corners q1_streets_takes q1_streets_hours q1_extras_many u145.2.2.2.2.2.1 q1_happenings_many u145.2.2.2.2.2.2.1 q1_watchers_many u145.2.2.2.2.2.2.2 q1_weeks_many q1_weeks_cells v4 v5 (jmax (v3 + 1) u159)
  else
  if (3 : Int32) ≤ v4 then
  X2_pass_j213 F u145.2.1 (o_steps + 1) u145.2.2.1 u145.2.2.2.1 o_hours o_happened o_warned o_unfinished o_begins o_ends o_timesLeft q1_wage q1_delay u145.2.2.2.2.1 q1_streets_corners q1_streets_takes q1_streets_hours q1_extras_many u145.2.2.2.2.2.1 q1_happenings_many u145.2.2.2.2.2.2.1 q1_watchers_many u145.2.2.2.2.2.2.2 q1_weeks_many q1_weeks_cells v4 v5 (jmax (v3 + 1) u159)
  else
  if ix v4 3 then
  if ix v4 3 then
  if ix v4 3 then
  X2_pass_j216 F u145.2.1 (o_steps + 1) u145.2.2.1 u145.2.2.2.1 o_hours o_happened o_warned o_unfinished (jput o_begins v4 (v3 + 1)) (jput o_ends v4 (jmax (v3 + 1) u159)) (jput o_timesLeft v4 u145.1) q1_wage q1_delay u145.2.2.2.2.1 q1_streets_corners q1_streets_takes q1_streets_hours q1_extras_many u145.2.2.2.2.2.1 q1_happenings_many u145.2.2.2.2.2.2.1 q1_watchers_many u145.2.2.2.2.2.2.2 q1_weeks_many q1_weeks_cells (v3 + 1) (v4 + 1) v5
  else none
  else none
  else none
  else
  X2_pass_j216 F o_seed o_steps 1 o_missed o_hours o_happened o_warned 1 o_begins o_ends o_timesLeft q1_wage q1_delay q1_clock q1_streets_corners q1_streets_takes q1_streets_hours q1_extras_many q1_extras_cells q1_happenings_many q1_happenings_cells q1_watchers_many q1_watchers_cells q1_weeks_many q1_weeks_cells v3 v4 v5
  else
  X2_pass_j216 F o_seed o_steps 1 o_missed o_hours o_happened o_warned o_unfinished o_begins o_ends o_timesLeft q1_wage q1_delay q1_clock q1_streets_corners q1_streets_takes q1_streets_hours q1_extras_many q1_extras_cells q1_happenings_many q1_happenings_cells q1_watchers_many q1_watchers_cells q1_weeks_many q1_weeks_cells v3 v4 v5
def X2_pass_b14 (F : Nat) (o_hours : Int32) (o_happened : Int32) (o_warned : Int32) (q1_wage : Int32) (q1_delay : Int32) (q1_streets_corners : Int32) (q1_streets_takes : Nat → Int32) (q1_streets_hours : Nat → Int32) (q1_extras_many : Int32) (q1_happenings_many : Int32) (q1_watchers_many : Int32) (q1_weeks_many : Int32) (q1_weeks_cells : Nat → Int32) (st14 : vS) : Option ((vS) ⊕ ((vS))) :=
  if (1000000 : Int32) ≤ (st14.1 2) then
  some (.inr (mkS [(st14.1 3), (st14.1 4), (st14.1 5), (st14.1 6), (st14.1 7), (st14.1 8)] [] [(st14.2.2.1 0), (st14.2.2.1 1), (st14.2.2.1 2), (st14.2.2.1 3), (st14.2.2.1 4), (st14.2.2.1 5)] []))
  else
  if (st14.1 5) = 0 then
  if (st14.1 1) ≤ 0 then
  X2_pass_j90 F (st14.1 3) (st14.1 4) (st14.1 5) (st14.1 6) o_hours o_happened o_warned (st14.1 7) (st14.2.2.1 0) (st14.2.2.1 1) (st14.2.2.1 2) q1_wage q1_delay (st14.1 8) q1_streets_corners q1_streets_takes q1_streets_hours q1_extras_many (st14.2.2.1 3) q1_happenings_many (st14.2.2.1 4) q1_watchers_many (st14.2.2.1 5) q1_weeks_many q1_weeks_cells (st14.1 0) (st14.1 1) (st14.1 2)
  else
  if ix ((st14.1 1) - 1) 3 then
  if (st14.1 0) < (jat (st14.2.2.1 1) ((st14.1 1) - 1)) then
  X2_pass_j90 F (st14.1 3) (st14.1 4) (st14.1 5) (st14.1 6) o_hours o_happened o_warned (st14.1 7) (st14.2.2.1 0) (st14.2.2.1 1) (st14.2.2.1 2) q1_wage q1_delay (st14.1 8) q1_streets_corners q1_streets_takes q1_streets_hours q1_extras_many (st14.2.2.1 3) q1_happenings_many (st14.2.2.1 4) q1_watchers_many (st14.2.2.1 5) q1_weeks_many q1_weeks_cells (st14.1 0) (st14.1 1) (st14.1 2)
  else
  if ix ((st14.1 1) - 1) 3 then
  if ix ((st14.1 1) - 1) 3 then
  if ix ((st14.1 1) - 1) 3 then
  if (jat (jput (st14.2.2.1 2) ((st14.1 1) - 1) ((jat (st14.2.2.1 2) ((st14.1 1) - 1)) - 1)) ((st14.1 1) - 1)) ≤ 0 then
  X2_pass_j216 F (st14.1 3) (st14.1 4) (st14.1 5) (st14.1 6) o_hours o_happened o_warned (st14.1 7) (st14.2.2.1 0) (st14.2.2.1 1) (jput (st14.2.2.1 2) ((st14.1 1) - 1) ((jat (st14.2.2.1 2) ((st14.1 1) - 1)) - 1)) q1_wage q1_delay (st14.1 8) q1_streets_corners q1_streets_takes q1_streets_hours q1_extras_many (st14.2.2.1 3) q1_happenings_many (st14.2.2.1 4) q1_watchers_many (st14.2.2.1 5) q1_weeks_many q1_weeks_cells (st14.1 0) ((st14.1 1) + (-1)) (st14.1 2)
  else
  if ix ((st14.1 1) - 1) 3 then
  X2_pass_j216 F (st14.1 3) (st14.1 4) (st14.1 5) (st14.1 6) o_hours o_happened o_warned (st14.1 7) (st14.2.2.1 0) (st14.2.2.1 1) (jput (st14.2.2.1 2) ((st14.1 1) - 1) ((jat (st14.2.2.1 2) ((st14.1 1) - 1)) - 1)) q1_wage q1_delay (st14.1 8) q1_streets_corners q1_streets_takes q1_streets_hours q1_extras_many (st14.2.2.1 3) q1_happenings_many (st14.2.2.1 4) q1_watchers_many (st14.2.2.1 5) q1_weeks_many q1_weeks_cells (jat (st14.2.2.1 0) ((st14.1 1) - 1)) (st14.1 1) (st14.1 2)
  else none
  else none
  else none
  else none
  else none
  else
  some (.inr (mkS [(st14.1 3), (st14.1 4), (st14.1 5), (st14.1 6), (st14.1 7), (st14.1 8)] [] [(st14.2.2.1 0), (st14.2.2.1 1), (st14.2.2.1 2), (st14.2.2.1 3), (st14.2.2.1 4), (st14.2.2.1 5)] []))
def X2_pass (F : Nat) (o_seed : Int32) (o_steps : Int32) (o_isOver : Int32) (o_missed : Int32) (o_hours : Int32) (o_happened : Int32) (o_warned : Int32) (o_unfinished : Int32) (o_begins : Nat → Int32) (o_ends : Nat → Int32) (o_timesLeft : Nat → Int32) (q1_wage : Int32) (q1_delay : Int32) (q1_clock : Int32) (q1_streets_corners : Int32) (q1_streets_takes : Nat → Int32) (q1_streets_hours : Nat → Int32) (q1_extras_many : Int32) (q1_extras_cells : Nat → Int32) (q1_happenings_many : Int32) (q1_happenings_cells : Nat → Int32) (q1_watchers_many : Int32) (q1_watchers_cells : Nat → Int32) (q1_weeks_many : Int32) (q1_weeks_cells : Nat → Int32) (v2 : Int32) : Option (vS) :=
  (X2_begin F o_seed o_steps o_isOver o_missed o_hours o_happened o_warned o_unfinished q1_clock q1_happenings_many q1_happenings_cells q1_watchers_many q1_watchers_cells v2).bind fun u3 =>
  (iter (X2_pass_b14 F u3.2.2.2.2.1 u3.2.2.2.2.2.1 u3.2.2.2.2.2.2.1 q1_wage q1_delay q1_streets_corners q1_streets_takes q1_streets_hours q1_extras_many q1_happenings_many q1_watchers_many q1_weeks_many q1_weeks_cells) F (mkS [0, 0, 0, u3.1, u3.2.1, u3.2.2.1, u3.2.2.2.1, u3.2.2.2.2.2.2.2, q1_clock] [] [o_begins, o_ends, o_timesLeft, q1_extras_cells, q1_happenings_cells, q1_watchers_cells] [])).bind (fun (e14 : vS) =>
    X2_pass_j222 F (e14.1 0) (e14.1 1) (e14.1 2) (e14.1 3) u3.2.2.2.2.1 u3.2.2.2.2.2.1 u3.2.2.2.2.2.2.1 (e14.1 4) (e14.2.2.1 0) (e14.2.2.1 1) (e14.2.2.1 2) q1_wage q1_delay (e14.1 5) q1_streets_corners q1_streets_takes q1_streets_hours q1_extras_many (e14.2.2.1 3) q1_happenings_many (e14.2.2.1 4) q1_watchers_many (e14.2.2.1 5) q1_weeks_many q1_weeks_cells)
abbrev wd_X2_pass (E : vE) (a_o a_o_begins a_o_ends a_o_timesLeft a_q1 a_q1_streets a_q1_names a_q1_extras a_q1_happenings a_q1_watchers a_q1_weeks a_q1_streets_roads a_q1_streets_takes a_q1_streets_hours a_q1_extras_cells a_q1_happenings_cells a_q1_watchers_cells a_q1_weeks_cells : Nat) (o_seed : Int32) (o_steps : Int32) (o_isOver : Int32) (o_missed : Int32) (o_hours : Int32) (o_happened : Int32) (o_warned : Int32) (o_unfinished : Int32) (o_begins : Nat → Int32) (o_ends : Nat → Int32) (o_timesLeft : Nat → Int32) (q1_wage : Int32) (q1_delay : Int32) (q1_odds : Int32) (q1_clock : Int32) (q1_hasWeeks : Int32) (q1_streets_corners : Int32) (q1_streets_takes : Nat → Int32) (q1_streets_hours : Nat → Int32) (q1_extras_many : Int32) (q1_extras_cells : Nat → Int32) (q1_happenings_many : Int32) (q1_happenings_cells : Nat → Int32) (q1_watchers_many : Int32) (q1_watchers_cells : Nat → Int32) (q1_weeks_many : Int32) (q1_weeks_cells : Nat → Int32) : va_W := [(a_o, .inr (2, [.ref a_o_begins, .ref a_o_ends, .ref a_o_timesLeft, .int o_seed, .int o_steps, .int o_isOver, .int o_missed, .int o_hours, .int o_happened, .int o_warned, .int o_unfinished])), (a_o_begins, .inl (E.2.1, 3, .inl o_begins)), (a_o_ends, .inl (E.2.1, 3, .inl o_ends)), (a_o_timesLeft, .inl (E.2.1, 3, .inl o_timesLeft)), (a_q1, .inr (0, [.int q1_wage, .int q1_delay, .int q1_odds, .int q1_clock, .int q1_hasWeeks, .ref a_q1_streets, .ref a_q1_names, .ref a_q1_extras, .ref a_q1_happenings, .ref a_q1_watchers, .ref a_q1_weeks])), (a_q1_streets, .inr (6, [.int q1_streets_corners, .ref a_q1_streets_roads, .ref a_q1_streets_takes, .ref a_q1_streets_hours])), (a_q1_streets_takes, .inl (E.2.1, 64, .inl q1_streets_takes)), (a_q1_streets_hours, .inl (E.2.1, 64, .inl q1_streets_hours)), (a_q1_extras, .inr (7, [.int 5, .ref a_q1_extras_cells, .int q1_extras_many])), (a_q1_extras_cells, .inl (E.2.1, 35, .inl q1_extras_cells)), (a_q1_happenings, .inr (7, [.int 5, .ref a_q1_happenings_cells, .int q1_happenings_many])), (a_q1_happenings_cells, .inl (E.2.1, 40, .inl q1_happenings_cells)), (a_q1_watchers, .inr (7, [.int 3, .ref a_q1_watchers_cells, .int q1_watchers_many])), (a_q1_watchers_cells, .inl (E.2.1, 12, .inl q1_watchers_cells)), (a_q1_weeks, .inr (7, [.int 6, .ref a_q1_weeks_cells, .int q1_weeks_many])), (a_q1_weeks_cells, .inl (E.2.1, 180, .inl q1_weeks_cells))]
set_option maxHeartbeats 4000000 in
set_option maxRecDepth 100000 in
theorem ct_X2_pass (l : Launch) (E : vE) (F : Nat) (a_o a_o_begins a_o_ends a_o_timesLeft a_q1 a_q1_streets a_q1_names a_q1_extras a_q1_happenings a_q1_watchers a_q1_weeks a_q1_streets_roads a_q1_streets_takes a_q1_streets_hours a_q1_extras_cells a_q1_happenings_cells a_q1_watchers_cells a_q1_weeks_cells : Nat) (o_seed : Int32) (o_steps : Int32) (o_isOver : Int32) (o_missed : Int32) (o_hours : Int32) (o_happened : Int32) (o_warned : Int32) (o_unfinished : Int32) (o_begins : Nat → Int32) (o_ends : Nat → Int32) (o_timesLeft : Nat → Int32) (q1_wage : Int32) (q1_delay : Int32) (q1_odds : Int32) (q1_clock : Int32) (q1_hasWeeks : Int32) (q1_streets_corners : Int32) (q1_streets_takes : Nat → Int32) (q1_streets_hours : Nat → Int32) (q1_extras_many : Int32) (q1_extras_cells : Nat → Int32) (q1_happenings_many : Int32) (q1_happenings_cells : Nat → Int32) (q1_watchers_many : Int32) (q1_watchers_cells : Nat → Int32) (q1_weeks_many : Int32) (q1_weeks_cells : Nat → Int32) (v2 : Int32) (u : vS) (hf : X2_pass F o_seed o_steps o_isOver o_missed o_hours o_happened o_warned o_unfinished o_begins o_ends o_timesLeft q1_wage q1_delay q1_clock q1_streets_corners q1_streets_takes q1_streets_hours q1_extras_many q1_extras_cells q1_happenings_many q1_happenings_cells q1_watchers_many q1_watchers_cells q1_weeks_many q1_weeks_cells v2 = some u) :
    CtI l yX2_pass cX2_pass 8 (some .int) 6 E [.ref a_o, .ref a_q1, .int v2] (wd_X2_pass E a_o a_o_begins a_o_ends a_o_timesLeft a_q1 a_q1_streets a_q1_names a_q1_extras a_q1_happenings a_q1_watchers a_q1_weeks a_q1_streets_roads a_q1_streets_takes a_q1_streets_hours a_q1_extras_cells a_q1_happenings_cells a_q1_watchers_cells a_q1_weeks_cells o_seed o_steps o_isOver o_missed o_hours o_happened o_warned o_unfinished o_begins o_ends o_timesLeft q1_wage q1_delay q1_odds q1_clock q1_hasWeeks q1_streets_corners q1_streets_takes q1_streets_hours q1_extras_many q1_extras_cells q1_happenings_many q1_happenings_cells q1_watchers_many q1_watchers_cells q1_weeks_many q1_weeks_cells) (wd_X2_pass E a_o a_o_begins a_o_ends a_o_timesLeft a_q1 a_q1_streets a_q1_names a_q1_extras a_q1_happenings a_q1_watchers a_q1_weeks a_q1_streets_roads a_q1_streets_takes a_q1_streets_hours a_q1_extras_cells a_q1_happenings_cells a_q1_watchers_cells a_q1_weeks_cells (u.1 1) (u.1 2) (u.1 3) (u.1 4) (u.1 5) (u.1 6) (u.1 7) (u.1 8) (u.2.2.1 0) (u.2.2.1 1) (u.2.2.1 2) q1_wage q1_delay q1_odds (u.1 9) q1_hasWeeks q1_streets_corners q1_streets_takes q1_streets_hours q1_extras_many (u.2.2.1 3) q1_happenings_many (u.2.2.1 4) q1_watchers_many (u.2.2.1 5) q1_weeks_many q1_weeks_cells) (u.1 0) := by
  refine ctI (by decide) (Nat.le_of_ble_eq_true rfl) ?_
  intro p e s m below meth cd A ls aa QQ hq cx hP hD hS hl
  obtain ⟨⟨hx, hb, hml, hown, hts⟩, hr, hlocks, hK, hA, hX⟩ := id cx
  have hl : lv_has ls 8 [(0, .ref a_o), (1, .ref a_q1), (2, .int v2)] := hl
  have hj222 : ∀ (o_seed_j222 : Int32) (o_steps_j222 : Int32) (o_isOver_j222 : Int32) (o_missed_j222 : Int32) (o_hours_j222 : Int32) (o_happened_j222 : Int32) (o_warned_j222 : Int32) (o_unfinished_j222 : Int32) (o_begins_j222 : Nat → Int32) (o_ends_j222 : Nat → Int32) (o_timesLeft_j222 : Nat → Int32) (q1_clock_j222 : Int32) (q1_extras_cells_j222 : Nat → Int32) (q1_happenings_cells_j222 : Nat → Int32) (q1_watchers_cells_j222 : Nat → Int32) (H : Heap) (locs : List Loc) (ls : Array Slot), X2_pass_j222 F o_seed_j222 o_steps_j222 o_isOver_j222 o_missed_j222 o_hours_j222 o_happened_j222 o_warned_j222 o_unfinished_j222 o_begins_j222 o_ends_j222 o_timesLeft_j222 q1_wage q1_delay q1_clock_j222 q1_streets_corners q1_streets_takes q1_streets_hours q1_extras_many q1_extras_cells_j222 q1_happenings_many q1_happenings_cells_j222 q1_watchers_many q1_watchers_cells_j222 q1_weeks_many q1_weeks_cells = some u → va_P E.1 vwCl (wd_X2_pass E a_o a_o_begins a_o_ends a_o_timesLeft a_q1 a_q1_streets a_q1_names a_q1_extras a_q1_happenings a_q1_watchers a_q1_weeks a_q1_streets_roads a_q1_streets_takes a_q1_streets_hours a_q1_extras_cells a_q1_happenings_cells a_q1_watchers_cells a_q1_weeks_cells o_seed_j222 o_steps_j222 o_isOver_j222 o_missed_j222 o_hours_j222 o_happened_j222 o_warned_j222 o_unfinished_j222 o_begins_j222 o_ends_j222 o_timesLeft_j222 q1_wage q1_delay q1_odds q1_clock_j222 q1_hasWeeks q1_streets_corners q1_streets_takes q1_streets_hours q1_extras_many q1_extras_cells_j222 q1_happenings_many q1_happenings_cells_j222 q1_watchers_many q1_watchers_cells_j222 q1_weeks_many q1_weeks_cells) H → va_D A (wd_X2_pass E a_o a_o_begins a_o_ends a_o_timesLeft a_q1 a_q1_streets a_q1_names a_q1_extras a_q1_happenings a_q1_watchers a_q1_weeks a_q1_streets_roads a_q1_streets_takes a_q1_streets_hours a_q1_extras_cells a_q1_happenings_cells a_q1_watchers_cells a_q1_weeks_cells o_seed_j222 o_steps_j222 o_isOver_j222 o_missed_j222 o_hours_j222 o_happened_j222 o_warned_j222 o_unfinished_j222 o_begins_j222 o_ends_j222 o_timesLeft_j222 q1_wage q1_delay q1_odds q1_clock_j222 q1_hasWeeks q1_streets_corners q1_streets_takes q1_streets_hours q1_extras_many q1_extras_cells_j222 q1_happenings_many q1_happenings_cells_j222 q1_watchers_many q1_watchers_cells_j222 q1_weeks_many q1_weeks_cells) → va_S A s.heap H locs → lv_has ls 8 [(0, .ref a_o), (1, .ref a_q1)] → W p l e (rmd 6) s m aa below meth cd H locs 0 0 QQ (F0 m 222 ls []) := by
    intro o_seed_j222 o_steps_j222 o_isOver_j222 o_missed_j222 o_hours_j222 o_happened_j222 o_warned_j222 o_unfinished_j222 o_begins_j222 o_ends_j222 o_timesLeft_j222 q1_clock_j222 q1_extras_cells_j222 q1_happenings_cells_j222 q1_watchers_cells_j222 H locs ls hf hP hD hS hl
    unfold X2_pass_j222 at hf
    refine lv_aload_n hx hb dX2_pass_222 rfl (lv_at hl 0 rfl) ?_
    refine lv_aload_n hx hb dX2_pass_223 rfl (lv_at hl 1 rfl) ?_
    refine lv_iconst (v := 1) hx hb dX2_pass_224 (by decide) ?_
    obtain ⟨u225, hu225, hf⟩ := bd hf
    refine callVV (wn := (wd_X2_pass E a_o a_o_begins a_o_ends a_o_timesLeft a_q1 a_q1_streets a_q1_names a_q1_extras a_q1_happenings a_q1_watchers a_q1_weeks a_q1_streets_roads a_q1_streets_takes a_q1_streets_hours a_q1_extras_cells a_q1_happenings_cells a_q1_watchers_cells a_q1_weeks_cells o_seed_j222 o_steps_j222 o_isOver_j222 o_missed_j222 u225.1 u225.2.1 u225.2.2 o_unfinished_j222 o_begins_j222 o_ends_j222 o_timesLeft_j222 q1_wage q1_delay q1_odds q1_clock_j222 q1_hasWeeks q1_streets_corners q1_streets_takes q1_streets_hours q1_extras_many q1_extras_cells_j222 q1_happenings_many q1_happenings_cells_j222 q1_watchers_many q1_watchers_cells_j222 q1_weeks_many q1_weeks_cells)) (n1 := 16) (ct_X2_addTallies l E F a_o a_o_begins a_o_ends a_o_timesLeft a_q1 a_q1_streets a_q1_names a_q1_extras a_q1_happenings a_q1_watchers a_q1_weeks a_q1_happenings_cells a_q1_watchers_cells o_seed_j222 o_steps_j222 o_isOver_j222 o_missed_j222 o_hours_j222 o_happened_j222 o_warned_j222 o_unfinished_j222 q1_wage q1_delay q1_odds q1_clock_j222 q1_hasWeeks q1_happenings_many q1_happenings_cells_j222 q1_watchers_many q1_watchers_cells_j222 (1 : Int32) u225 hu225) [0, 4, 10, 11, 12, 13] cal_X2_addTallies cav_X2_addTallies lk_X2_61 cx hP hD hS hl dX2_pass_225 rfl rfl rfl rfl (Nat.le_of_ble_eq_true rfl) ⟨Nat.le_of_ble_eq_true rfl, Nat.le_of_ble_eq_true rfl⟩ rfl (by decide +kernel) rfl [some 0, none, none, none, some 1, none, none, none, none, none, some 2, some 3, some 4, some 5, none, none] rfl (by decide +kernel) rfl (fun H locs hP hD hS => ?_)
    refine lv_aload_n hx hb dX2_pass_228 rfl (lv_at hl 0 rfl) ?_
    refine va_get (D := E.1) (ci := 2) (v := .int o_steps_j222) (C := RX2) (T := TX2) (N := 11) hx hb hts inX2 hown hK hP 0 rfl rfl 4 (by decide) (hts _ fl_X2_42) (fun _ h9 => h9) rfl dX2_pass_229 ?_
    obtain rfl := Option.some.inj hf
    subst hq
    exact retI cx hP hD hS dX2_pass_232
  unfold X2_pass at hf
  refine lv_aload_n hx hb dX2_pass_0 rfl (lv_at hl 0 rfl) ?_
  refine lv_aload_n hx hb dX2_pass_1 rfl (lv_at hl 1 rfl) ?_
  refine lv_iload_n hx hb dX2_pass_2 rfl (lv_at hl 2 rfl) ?_
  obtain ⟨u3, hu3, hf⟩ := bd hf
  refine callVV (wn := (wd_X2_pass E a_o a_o_begins a_o_ends a_o_timesLeft a_q1 a_q1_streets a_q1_names a_q1_extras a_q1_happenings a_q1_watchers a_q1_weeks a_q1_streets_roads a_q1_streets_takes a_q1_streets_hours a_q1_extras_cells a_q1_happenings_cells a_q1_watchers_cells a_q1_weeks_cells u3.1 u3.2.1 u3.2.2.1 u3.2.2.2.1 u3.2.2.2.2.1 u3.2.2.2.2.2.1 u3.2.2.2.2.2.2.1 u3.2.2.2.2.2.2.2 o_begins o_ends o_timesLeft q1_wage q1_delay q1_odds q1_clock q1_hasWeeks q1_streets_corners q1_streets_takes q1_streets_hours q1_extras_many q1_extras_cells q1_happenings_many q1_happenings_cells q1_watchers_many q1_watchers_cells q1_weeks_many q1_weeks_cells)) (n1 := 16) (ct_X2_begin l E F a_o a_o_begins a_o_ends a_o_timesLeft a_q1 a_q1_streets a_q1_names a_q1_extras a_q1_happenings a_q1_watchers a_q1_weeks a_q1_happenings_cells a_q1_watchers_cells o_seed o_steps o_isOver o_missed o_hours o_happened o_warned o_unfinished q1_wage q1_delay q1_odds q1_clock q1_hasWeeks q1_happenings_many q1_happenings_cells q1_watchers_many q1_watchers_cells v2 u3 hu3) [0, 4, 10, 11, 12, 13] cal_X2_begin cav_X2_begin lk_X2_21 cx hP hD hS hl dX2_pass_3 rfl rfl rfl rfl (Nat.le_of_ble_eq_true rfl) ⟨Nat.le_of_ble_eq_true rfl, Nat.le_of_ble_eq_true rfl⟩ rfl (by decide +kernel) rfl [some 0, none, none, none, some 1, none, none, none, none, none, some 2, some 3, some 4, some 5, none, none] rfl (by decide +kernel) rfl (fun H locs hP hD hS => ?_)
  refine lv_iconst (v := 0) hx hb dX2_pass_6 (by decide) ?_
  refine lv_istore_n (lv' := [(3, .int 0), (0, .ref a_o), (1, .ref a_q1), (2, .int v2)]) hx hb dX2_pass_7 rfl hl (by decide) rfl (fun ls hl => ?_)
  refine lv_iconst (v := 0) hx hb dX2_pass_8 (by decide) ?_
  refine lv_istore (lv' := [(4, .int 0), (3, .int 0), (0, .ref a_o), (1, .ref a_q1), (2, .int v2)]) hx hb dX2_pass_9 hl (by decide) rfl (fun ls hl => ?_)
  refine lv_iconst (v := 0) hx hb dX2_pass_11 (by decide) ?_
  refine lv_istore (lv' := [(5, .int 0), (4, .int 0), (3, .int 0), (0, .ref a_o), (1, .ref a_q1), (2, .int v2)]) hx hb dX2_pass_12 hl (by decide) rfl (fun ls hl => ?_)
  obtain ⟨e14, hit14, hf⟩ := bd hf
  refine iter_W (b := X2_pass_b14 F u3.2.2.2.2.1 u3.2.2.2.2.2.1 u3.2.2.2.2.2.2.1 q1_wage q1_delay q1_streets_corners q1_streets_takes q1_streets_hours q1_extras_many q1_happenings_many q1_watchers_many q1_weeks_many q1_weeks_cells) (P := fun st14 => ∀ (H : Heap) (locs : List Loc) (ls : Array Slot), va_P E.1 vwCl (wd_X2_pass E a_o a_o_begins a_o_ends a_o_timesLeft a_q1 a_q1_streets a_q1_names a_q1_extras a_q1_happenings a_q1_watchers a_q1_weeks a_q1_streets_roads a_q1_streets_takes a_q1_streets_hours a_q1_extras_cells a_q1_happenings_cells a_q1_watchers_cells a_q1_weeks_cells (st14.1 3) (st14.1 4) (st14.1 5) (st14.1 6) u3.2.2.2.2.1 u3.2.2.2.2.2.1 u3.2.2.2.2.2.2.1 (st14.1 7) (st14.2.2.1 0) (st14.2.2.1 1) (st14.2.2.1 2) q1_wage q1_delay q1_odds (st14.1 8) q1_hasWeeks q1_streets_corners q1_streets_takes q1_streets_hours q1_extras_many (st14.2.2.1 3) q1_happenings_many (st14.2.2.1 4) q1_watchers_many (st14.2.2.1 5) q1_weeks_many q1_weeks_cells) H → va_D A (wd_X2_pass E a_o a_o_begins a_o_ends a_o_timesLeft a_q1 a_q1_streets a_q1_names a_q1_extras a_q1_happenings a_q1_watchers a_q1_weeks a_q1_streets_roads a_q1_streets_takes a_q1_streets_hours a_q1_extras_cells a_q1_happenings_cells a_q1_watchers_cells a_q1_weeks_cells (st14.1 3) (st14.1 4) (st14.1 5) (st14.1 6) u3.2.2.2.2.1 u3.2.2.2.2.2.1 u3.2.2.2.2.2.2.1 (st14.1 7) (st14.2.2.1 0) (st14.2.2.1 1) (st14.2.2.1 2) q1_wage q1_delay q1_odds (st14.1 8) q1_hasWeeks q1_streets_corners q1_streets_takes q1_streets_hours q1_extras_many (st14.2.2.1 3) q1_happenings_many (st14.2.2.1 4) q1_watchers_many (st14.2.2.1 5) q1_weeks_many q1_weeks_cells) → va_S A s.heap H locs → lv_has ls 8 [(0, .ref a_o), (1, .ref a_q1), (3, .int (st14.1 0)), (4, .int (st14.1 1)), (5, .int (st14.1 2))] → W p l e (rmd 6) s m aa below meth cd H locs 0 0 QQ (F0 m 14 ls [])) (G := (fun (e14 : vS) => ∀ (H : Heap) (locs : List Loc) (ls : Array Slot), va_P E.1 vwCl (wd_X2_pass E a_o a_o_begins a_o_ends a_o_timesLeft a_q1 a_q1_streets a_q1_names a_q1_extras a_q1_happenings a_q1_watchers a_q1_weeks a_q1_streets_roads a_q1_streets_takes a_q1_streets_hours a_q1_extras_cells a_q1_happenings_cells a_q1_watchers_cells a_q1_weeks_cells (e14.1 0) (e14.1 1) (e14.1 2) (e14.1 3) u3.2.2.2.2.1 u3.2.2.2.2.2.1 u3.2.2.2.2.2.2.1 (e14.1 4) (e14.2.2.1 0) (e14.2.2.1 1) (e14.2.2.1 2) q1_wage q1_delay q1_odds (e14.1 5) q1_hasWeeks q1_streets_corners q1_streets_takes q1_streets_hours q1_extras_many (e14.2.2.1 3) q1_happenings_many (e14.2.2.1 4) q1_watchers_many (e14.2.2.1 5) q1_weeks_many q1_weeks_cells) H → va_D A (wd_X2_pass E a_o a_o_begins a_o_ends a_o_timesLeft a_q1 a_q1_streets a_q1_names a_q1_extras a_q1_happenings a_q1_watchers a_q1_weeks a_q1_streets_roads a_q1_streets_takes a_q1_streets_hours a_q1_extras_cells a_q1_happenings_cells a_q1_watchers_cells a_q1_weeks_cells (e14.1 0) (e14.1 1) (e14.1 2) (e14.1 3) u3.2.2.2.2.1 u3.2.2.2.2.2.1 u3.2.2.2.2.2.2.1 (e14.1 4) (e14.2.2.1 0) (e14.2.2.1 1) (e14.2.2.1 2) q1_wage q1_delay q1_odds (e14.1 5) q1_hasWeeks q1_streets_corners q1_streets_takes q1_streets_hours q1_extras_many (e14.2.2.1 3) q1_happenings_many (e14.2.2.1 4) q1_watchers_many (e14.2.2.1 5) q1_weeks_many q1_weeks_cells) → va_S A s.heap H locs → lv_has ls 8 [(0, .ref a_o), (1, .ref a_q1)] → W p l e (rmd 6) s m aa below meth cd H locs 0 0 QQ (F0 m 222 ls []))) ?_ F (mkS [0, 0, 0, u3.1, u3.2.1, u3.2.2.1, u3.2.2.2.1, u3.2.2.2.2.2.2.2, q1_clock] [] [o_begins, o_ends, o_timesLeft, q1_extras_cells, q1_happenings_cells, q1_watchers_cells] []) e14 hit14 ?_ _ _ _ hP hD hS (lv_sub hl [3, 4, 2, 1, 0] rfl)
  · intro st14 r14 hf hk14 he14 H locs ls hP hD hS hl
    have hj216 : ∀ (v3_j216 : Int32) (v4_j216 : Int32) (v5_j216 : Int32) (o_seed_j216 : Int32) (o_steps_j216 : Int32) (o_isOver_j216 : Int32) (o_missed_j216 : Int32) (o_unfinished_j216 : Int32) (o_begins_j216 : Nat → Int32) (o_ends_j216 : Nat → Int32) (o_timesLeft_j216 : Nat → Int32) (q1_clock_j216 : Int32) (q1_extras_cells_j216 : Nat → Int32) (q1_happenings_cells_j216 : Nat → Int32) (q1_watchers_cells_j216 : Nat → Int32) (H : Heap) (locs : List Loc) (ls : Array Slot), X2_pass_j216 F o_seed_j216 o_steps_j216 o_isOver_j216 o_missed_j216 u3.2.2.2.2.1 u3.2.2.2.2.2.1 u3.2.2.2.2.2.2.1 o_unfinished_j216 o_begins_j216 o_ends_j216 o_timesLeft_j216 q1_wage q1_delay q1_clock_j216 q1_streets_corners q1_streets_takes q1_streets_hours q1_extras_many q1_extras_cells_j216 q1_happenings_many q1_happenings_cells_j216 q1_watchers_many q1_watchers_cells_j216 q1_weeks_many q1_weeks_cells v3_j216 v4_j216 v5_j216 = some r14 → va_P E.1 vwCl (wd_X2_pass E a_o a_o_begins a_o_ends a_o_timesLeft a_q1 a_q1_streets a_q1_names a_q1_extras a_q1_happenings a_q1_watchers a_q1_weeks a_q1_streets_roads a_q1_streets_takes a_q1_streets_hours a_q1_extras_cells a_q1_happenings_cells a_q1_watchers_cells a_q1_weeks_cells o_seed_j216 o_steps_j216 o_isOver_j216 o_missed_j216 u3.2.2.2.2.1 u3.2.2.2.2.2.1 u3.2.2.2.2.2.2.1 o_unfinished_j216 o_begins_j216 o_ends_j216 o_timesLeft_j216 q1_wage q1_delay q1_odds q1_clock_j216 q1_hasWeeks q1_streets_corners q1_streets_takes q1_streets_hours q1_extras_many q1_extras_cells_j216 q1_happenings_many q1_happenings_cells_j216 q1_watchers_many q1_watchers_cells_j216 q1_weeks_many q1_weeks_cells) H → va_D A (wd_X2_pass E a_o a_o_begins a_o_ends a_o_timesLeft a_q1 a_q1_streets a_q1_names a_q1_extras a_q1_happenings a_q1_watchers a_q1_weeks a_q1_streets_roads a_q1_streets_takes a_q1_streets_hours a_q1_extras_cells a_q1_happenings_cells a_q1_watchers_cells a_q1_weeks_cells o_seed_j216 o_steps_j216 o_isOver_j216 o_missed_j216 u3.2.2.2.2.1 u3.2.2.2.2.2.1 u3.2.2.2.2.2.2.1 o_unfinished_j216 o_begins_j216 o_ends_j216 o_timesLeft_j216 q1_wage q1_delay q1_odds q1_clock_j216 q1_hasWeeks q1_streets_corners q1_streets_takes q1_streets_hours q1_extras_many q1_extras_cells_j216 q1_happenings_many q1_happenings_cells_j216 q1_watchers_many q1_watchers_cells_j216 q1_weeks_many q1_weeks_cells) → va_S A s.heap H locs → lv_has ls 8 [(0, .ref a_o), (1, .ref a_q1), (3, .int v3_j216), (4, .int v4_j216), (5, .int v5_j216)] → W p l e (rmd 6) s m aa below meth cd H locs 0 0 QQ (F0 m 216 ls []) := by
      intro v3_j216 v4_j216 v5_j216 o_seed_j216 o_steps_j216 o_isOver_j216 o_missed_j216 o_unfinished_j216 o_begins_j216 o_ends_j216 o_timesLeft_j216 q1_clock_j216 q1_extras_cells_j216 q1_happenings_cells_j216 q1_watchers_cells_j216 H locs ls hf hP hD hS hl
      unfold X2_pass_j216 at hf
      refine lv_iinc (v := (v5_j216 + 1)) (lv' := [(5, .int (v5_j216 + 1)), (0, .ref a_o), (1, .ref a_q1), (3, .int v3_j216), (4, .int v4_j216)]) hx hb dX2_pass_216 hl (k := 4) rfl rfl (by decide) rfl (fun ls hl => ?_)
      refine lv_goto (tgt := 14) hx hb dX2_pass_219 (by decide) ?_
      exact hk14 _ (Option.some.inj hf).symm _ _ _ hP hD hS (lv_sub hl [1, 2, 3, 4, 0] rfl)
    have hj213 : ∀ (v4_j213 : Int32) (v5_j213 : Int32) (v7_j213 : Int32) (o_seed_j213 : Int32) (o_steps_j213 : Int32) (o_isOver_j213 : Int32) (o_missed_j213 : Int32) (o_unfinished_j213 : Int32) (o_begins_j213 : Nat → Int32) (o_ends_j213 : Nat → Int32) (o_timesLeft_j213 : Nat → Int32) (q1_clock_j213 : Int32) (q1_extras_cells_j213 : Nat → Int32) (q1_happenings_cells_j213 : Nat → Int32) (q1_watchers_cells_j213 : Nat → Int32) (H : Heap) (locs : List Loc) (ls : Array Slot), X2_pass_j213 F o_seed_j213 o_steps_j213 o_isOver_j213 o_missed_j213 u3.2.2.2.2.1 u3.2.2.2.2.2.1 u3.2.2.2.2.2.2.1 o_unfinished_j213 o_begins_j213 o_ends_j213 o_timesLeft_j213 q1_wage q1_delay q1_clock_j213 q1_streets_corners q1_streets_takes q1_streets_hours q1_extras_many q1_extras_cells_j213 q1_happenings_many q1_happenings_cells_j213 q1_watchers_many q1_watchers_cells_j213 q1_weeks_many q1_weeks_cells v4_j213 v5_j213 v7_j213 = some r14 → va_P E.1 vwCl (wd_X2_pass E a_o a_o_begins a_o_ends a_o_timesLeft a_q1 a_q1_streets a_q1_names a_q1_extras a_q1_happenings a_q1_watchers a_q1_weeks a_q1_streets_roads a_q1_streets_takes a_q1_streets_hours a_q1_extras_cells a_q1_happenings_cells a_q1_watchers_cells a_q1_weeks_cells o_seed_j213 o_steps_j213 o_isOver_j213 o_missed_j213 u3.2.2.2.2.1 u3.2.2.2.2.2.1 u3.2.2.2.2.2.2.1 o_unfinished_j213 o_begins_j213 o_ends_j213 o_timesLeft_j213 q1_wage q1_delay q1_odds q1_clock_j213 q1_hasWeeks q1_streets_corners q1_streets_takes q1_streets_hours q1_extras_many q1_extras_cells_j213 q1_happenings_many q1_happenings_cells_j213 q1_watchers_many q1_watchers_cells_j213 q1_weeks_many q1_weeks_cells) H → va_D A (wd_X2_pass E a_o a_o_begins a_o_ends a_o_timesLeft a_q1 a_q1_streets a_q1_names a_q1_extras a_q1_happenings a_q1_watchers a_q1_weeks a_q1_streets_roads a_q1_streets_takes a_q1_streets_hours a_q1_extras_cells a_q1_happenings_cells a_q1_watchers_cells a_q1_weeks_cells o_seed_j213 o_steps_j213 o_isOver_j213 o_missed_j213 u3.2.2.2.2.1 u3.2.2.2.2.2.1 u3.2.2.2.2.2.2.1 o_unfinished_j213 o_begins_j213 o_ends_j213 o_timesLeft_j213 q1_wage q1_delay q1_odds q1_clock_j213 q1_hasWeeks q1_streets_corners q1_streets_takes q1_streets_hours q1_extras_many q1_extras_cells_j213 q1_happenings_many q1_happenings_cells_j213 q1_watchers_many q1_watchers_cells_j213 q1_weeks_many q1_weeks_cells) → va_S A s.heap H locs → lv_has ls 8 [(0, .ref a_o), (1, .ref a_q1), (4, .int v4_j213), (5, .int v5_j213), (7, .int v7_j213)] → W p l e (rmd 6) s m aa below meth cd H locs 0 0 QQ (F0 m 213 ls []) := by
      intro v4_j213 v5_j213 v7_j213 o_seed_j213 o_steps_j213 o_isOver_j213 o_missed_j213 o_unfinished_j213 o_begins_j213 o_ends_j213 o_timesLeft_j213 q1_clock_j213 q1_extras_cells_j213 q1_happenings_cells_j213 q1_watchers_cells_j213 H locs ls hf hP hD hS hl
      unfold X2_pass_j213 at hf
      refine lv_iload hx hb dX2_pass_213 (lv_at hl 4 rfl) ?_
      refine lv_istore_n (lv' := [(3, .int v7_j213), (0, .ref a_o), (1, .ref a_q1), (4, .int v4_j213), (5, .int v5_j213), (7, .int v7_j213)]) hx hb dX2_pass_215 rfl hl (by decide) rfl (fun ls hl => ?_)
      exact hj216 _ _ _ _ _ _ _ _ _ _ _ _ _ _ _ _ _ _ hf hP hD hS (lv_sub hl [1, 2, 0, 3, 4] rfl)
    have hj90 : ∀ (v3_j90 : Int32) (v4_j90 : Int32) (v5_j90 : Int32) (o_seed_j90 : Int32) (o_steps_j90 : Int32) (o_isOver_j90 : Int32) (o_missed_j90 : Int32) (o_unfinished_j90 : Int32) (o_begins_j90 : Nat → Int32) (o_ends_j90 : Nat → Int32) (o_timesLeft_j90 : Nat → Int32) (q1_clock_j90 : Int32) (q1_extras_cells_j90 : Nat → Int32) (q1_happenings_cells_j90 : Nat → Int32) (q1_watchers_cells_j90 : Nat → Int32) (H : Heap) (locs : List Loc) (ls : Array Slot), X2_pass_j90 F o_seed_j90 o_steps_j90 o_isOver_j90 o_missed_j90 u3.2.2.2.2.1 u3.2.2.2.2.2.1 u3.2.2.2.2.2.2.1 o_unfinished_j90 o_begins_j90 o_ends_j90 o_timesLeft_j90 q1_wage q1_delay q1_clock_j90 q1_streets_corners q1_streets_takes q1_streets_hours q1_extras_many q1_extras_cells_j90 q1_happenings_many q1_happenings_cells_j90 q1_watchers_many q1_watchers_cells_j90 q1_weeks_many q1_weeks_cells v3_j90 v4_j90 v5_j90 = some r14 → va_P E.1 vwCl (wd_X2_pass E a_o a_o_begins a_o_ends a_o_timesLeft a_q1 a_q1_streets a_q1_names a_q1_extras a_q1_happenings a_q1_watchers a_q1_weeks a_q1_streets_roads a_q1_streets_takes a_q1_streets_hours a_q1_extras_cells a_q1_happenings_cells a_q1_watchers_cells a_q1_weeks_cells o_seed_j90 o_steps_j90 o_isOver_j90 o_missed_j90 u3.2.2.2.2.1 u3.2.2.2.2.2.1 u3.2.2.2.2.2.2.1 o_unfinished_j90 o_begins_j90 o_ends_j90 o_timesLeft_j90 q1_wage q1_delay q1_odds q1_clock_j90 q1_hasWeeks q1_streets_corners q1_streets_takes q1_streets_hours q1_extras_many q1_extras_cells_j90 q1_happenings_many q1_happenings_cells_j90 q1_watchers_many q1_watchers_cells_j90 q1_weeks_many q1_weeks_cells) H → va_D A (wd_X2_pass E a_o a_o_begins a_o_ends a_o_timesLeft a_q1 a_q1_streets a_q1_names a_q1_extras a_q1_happenings a_q1_watchers a_q1_weeks a_q1_streets_roads a_q1_streets_takes a_q1_streets_hours a_q1_extras_cells a_q1_happenings_cells a_q1_watchers_cells a_q1_weeks_cells o_seed_j90 o_steps_j90 o_isOver_j90 o_missed_j90 u3.2.2.2.2.1 u3.2.2.2.2.2.1 u3.2.2.2.2.2.2.1 o_unfinished_j90 o_begins_j90 o_ends_j90 o_timesLeft_j90 q1_wage q1_delay q1_odds q1_clock_j90 q1_hasWeeks q1_streets_corners q1_streets_takes q1_streets_hours q1_extras_many q1_extras_cells_j90 q1_happenings_many q1_happenings_cells_j90 q1_watchers_many q1_watchers_cells_j90 q1_weeks_many q1_weeks_cells) → va_S A s.heap H locs → lv_has ls 8 [(0, .ref a_o), (1, .ref a_q1), (3, .int v3_j90), (4, .int v4_j90), (5, .int v5_j90)] → W p l e (rmd 6) s m aa below meth cd H locs 0 0 QQ (F0 m 90 ls []) := by
      intro v3_j90 v4_j90 v5_j90 o_seed_j90 o_steps_j90 o_isOver_j90 o_missed_j90 o_unfinished_j90 o_begins_j90 o_ends_j90 o_timesLeft_j90 q1_clock_j90 q1_extras_cells_j90 q1_happenings_cells_j90 q1_watchers_cells_j90 H locs ls hf hP hD hS hl
      unfold X2_pass_j90 at hf
      refine lv_iload_n hx hb dX2_pass_90 rfl (lv_at hl 2 rfl) ?_
      refine lv_aload_n hx hb dX2_pass_91 rfl (lv_at hl 1 rfl) ?_
      refine va_get (D := E.1) (ci := 0) (v := .ref a_q1_weeks) (C := RX0) (T := TX0) (N := 11) hx hb hts inX0 hown hK hP 4 rfl rfl 10 (by decide) (hts _ fl_X2_30) (fun _ h9 => h9) rfl dX2_pass_92 ?_
      refine va_get (D := E.1) (ci := 7) (v := .int q1_weeks_many) (C := RX7) (T := TX7) (N := 3) hx hb hts inX7 hown hK hP 14 rfl rfl 2 (by decide) (hts _ fl_X2_36) (fun _ h9 => h9) rfl dX2_pass_95 ?_
      refine lv_icmp_lt (tgt := 109) hx hb dX2_pass_98 (by decide) (fun hc => ?_) (fun hc => ?_)
      · have hf := it_t hc hf
        refine lv_aload_n hx hb dX2_pass_109 rfl (lv_at hl 0 rfl) ?_
        refine va_get (D := E.1) (ci := 2) (v := .int o_steps_j90) (C := RX2) (T := TX2) (N := 11) hx hb hts inX2 hown hK hP 0 rfl rfl 4 (by decide) (hts _ fl_X2_42) (fun _ h9 => h9) rfl dX2_pass_110 ?_
        refine lv_sipush (v := 300) hx hb dX2_pass_113 (by decide) ?_
        refine lv_icmp_lt (tgt := 132) hx hb dX2_pass_116 (by decide) (fun hc => ?_) (fun hc => ?_)
        · have hf := it_t hc hf
          refine lv_aload_n hx hb dX2_pass_132 rfl (lv_at hl 0 rfl) ?_
          refine lv_dup hx hb dX2_pass_133 rfl ?_
          refine va_get (D := E.1) (ci := 2) (v := .int o_steps_j90) (C := RX2) (T := TX2) (N := 11) hx hb hts inX2 hown hK hP 0 rfl rfl 4 (by decide) (hts _ fl_X2_42) (fun _ h9 => h9) rfl dX2_pass_134 ?_
          refine lv_iconst (v := 1) hx hb dX2_pass_137 (by decide) ?_
          refine lv_iadd hx hb dX2_pass_138 ?_
          refine va_put (D := E.1) (ci := 2) (v := .int (o_steps_j90 + 1)) (ty := .int) (C := RX2) (T := TX2) (N := 11) hx hb hts inX2 tyX2 tyX2_ok nmX2 hown hK hP hD hS 0 rfl rfl 4 (by decide) (hts _ fl_X2_42) (fun _ h9 => h9) rfl (by decide +kernel) rfl rfl (Nat.le_of_ble_eq_true rfl) dX2_pass_139 (fun H locs hP hD hS => ?_)
          have hP : va_P E.1 vwCl (wd_X2_pass E a_o a_o_begins a_o_ends a_o_timesLeft a_q1 a_q1_streets a_q1_names a_q1_extras a_q1_happenings a_q1_watchers a_q1_weeks a_q1_streets_roads a_q1_streets_takes a_q1_streets_hours a_q1_extras_cells a_q1_happenings_cells a_q1_watchers_cells a_q1_weeks_cells o_seed_j90 (o_steps_j90 + 1) o_isOver_j90 o_missed_j90 u3.2.2.2.2.1 u3.2.2.2.2.2.1 u3.2.2.2.2.2.2.1 o_unfinished_j90 o_begins_j90 o_ends_j90 o_timesLeft_j90 q1_wage q1_delay q1_odds q1_clock_j90 q1_hasWeeks q1_streets_corners q1_streets_takes q1_streets_hours q1_extras_many q1_extras_cells_j90 q1_happenings_many q1_happenings_cells_j90 q1_watchers_many q1_watchers_cells_j90 q1_weeks_many q1_weeks_cells) H := hP
          have hD : va_D A (wd_X2_pass E a_o a_o_begins a_o_ends a_o_timesLeft a_q1 a_q1_streets a_q1_names a_q1_extras a_q1_happenings a_q1_watchers a_q1_weeks a_q1_streets_roads a_q1_streets_takes a_q1_streets_hours a_q1_extras_cells a_q1_happenings_cells a_q1_watchers_cells a_q1_weeks_cells o_seed_j90 (o_steps_j90 + 1) o_isOver_j90 o_missed_j90 u3.2.2.2.2.1 u3.2.2.2.2.2.1 u3.2.2.2.2.2.2.1 o_unfinished_j90 o_begins_j90 o_ends_j90 o_timesLeft_j90 q1_wage q1_delay q1_odds q1_clock_j90 q1_hasWeeks q1_streets_corners q1_streets_takes q1_streets_hours q1_extras_many q1_extras_cells_j90 q1_happenings_many q1_happenings_cells_j90 q1_watchers_many q1_watchers_cells_j90 q1_weeks_many q1_weeks_cells) := hD
          refine lv_aload_n hx hb dX2_pass_142 rfl (lv_at hl 0 rfl) ?_
          refine lv_aload_n hx hb dX2_pass_143 rfl (lv_at hl 1 rfl) ?_
          refine lv_iload_n hx hb dX2_pass_144 rfl (lv_at hl 2 rfl) ?_
          obtain ⟨u145, hu145, hf⟩ := bd hf
          refine callVI (wn := (wd_X2_pass E a_o a_o_begins a_o_ends a_o_timesLeft a_q1 a_q1_streets a_q1_names a_q1_extras a_q1_happenings a_q1_watchers a_q1_weeks a_q1_streets_roads a_q1_streets_takes a_q1_streets_hours a_q1_extras_cells a_q1_happenings_cells a_q1_watchers_cells a_q1_weeks_cells u145.2.1 (o_steps_j90 + 1) u145.2.2.1 u145.2.2.2.1 u3.2.2.2.2.1 u3.2.2.2.2.2.1 u3.2.2.2.2.2.2.1 o_unfinished_j90 o_begins_j90 o_ends_j90 o_timesLeft_j90 q1_wage q1_delay q1_odds u145.2.2.2.2.1 q1_hasWeeks q1_streets_corners q1_streets_takes q1_streets_hours q1_extras_many u145.2.2.2.2.2.1 q1_happenings_many u145.2.2.2.2.2.2.1 q1_watchers_many u145.2.2.2.2.2.2.2 q1_weeks_many q1_weeks_cells)) (n1 := 16) (ct_X2_timesOf l E F a_o a_o_begins a_o_ends a_o_timesLeft a_q1 a_q1_streets a_q1_names a_q1_extras a_q1_happenings a_q1_watchers a_q1_weeks a_q1_streets_roads a_q1_streets_takes a_q1_streets_hours a_q1_extras_cells a_q1_happenings_cells a_q1_watchers_cells a_q1_weeks_cells o_seed_j90 (o_steps_j90 + 1) o_isOver_j90 o_missed_j90 u3.2.2.2.2.1 u3.2.2.2.2.2.1 u3.2.2.2.2.2.2.1 o_unfinished_j90 q1_wage q1_delay q1_odds q1_clock_j90 q1_hasWeeks q1_streets_corners q1_streets_takes q1_streets_hours q1_extras_many q1_extras_cells_j90 q1_happenings_many q1_happenings_cells_j90 q1_watchers_many q1_watchers_cells_j90 q1_weeks_many q1_weeks_cells v3_j90 u145 hu145) [0, 4, 5, 6, 7, 8, 9, 10, 11, 12, 13, 14, 15] cal_X2_timesOf cav_X2_timesOf lk_X2_48 cx hP hD hS hl dX2_pass_145 rfl rfl rfl rfl (Nat.le_of_ble_eq_true rfl) ⟨Nat.le_of_ble_eq_true rfl, Nat.le_of_ble_eq_true rfl⟩ rfl (by decide +kernel) rfl [some 0, none, none, none, some 1, some 2, some 3, some 4, some 5, some 6, some 7, some 8, some 9, some 10, some 11, some 12] rfl (by decide +kernel) rfl (fun H locs hP hD hS => ?_)
          refine lv_istore (lv' := [(6, .int u145.1), (0, .ref a_o), (1, .ref a_q1), (3, .int v3_j90), (4, .int v4_j90), (5, .int v5_j90)]) hx hb dX2_pass_148 hl (by decide) rfl (fun ls hl => ?_)
          refine lv_iload_n hx hb dX2_pass_150 rfl (lv_at hl 3 rfl) ?_
          refine lv_iconst (v := 1) hx hb dX2_pass_151 (by decide) ?_
          refine lv_iadd hx hb dX2_pass_152 ?_
          refine lv_aload_n hx hb dX2_pass_153 rfl (lv_at hl 2 rfl) ?_
          refine va_get (D := E.1) (ci := 0) (v := .ref a_q1_weeks) (C := RX0) (T := TX0) (N := 11) hx hb hts inX0 hown hK hP 4 rfl rfl 10 (by decide) (hts _ fl_X2_30) (fun _ h9 => h9) rfl dX2_pass_154 ?_
          refine lv_iload_n hx hb dX2_pass_157 rfl (lv_at hl 3 rfl) ?_
          refine lv_iconst (v := 5) hx hb dX2_pass_158 (by decide) ?_
          obtain ⟨u159, hu159, hf⟩ := bd hf
          refine keepVI (ct_X7_get l E a_q1_weeks a_q1_weeks_cells 180 6 q1_weeks_many q1_weeks_cells v3_j90 (5 : Int32) u159 hu159) [14, 15] cal_X7_get cav_X7_get lk_X2_52 cx hP hD hS hl dX2_pass_159 rfl rfl rfl rfl (Nat.le_of_ble_eq_true rfl) ⟨Nat.le_of_ble_eq_true rfl, Nat.le_of_ble_eq_true rfl⟩ rfl (by decide) (fun H locs hP hS => ?_)
          refine r_mmax cx hl lk_X2_56 mt_max (Nat.le_of_ble_eq_true rfl) (Nat.le_of_ble_eq_true rfl) dX2_pass_162 ?_
          refine lv_istore (lv' := [(7, .int (jmax (v3_j90 + 1) u159)), (6, .int u145.1), (0, .ref a_o), (1, .ref a_q1), (3, .int v3_j90), (4, .int v4_j90), (5, .int v5_j90)]) hx hb dX2_pass_165 hl (by decide) rfl (fun ls hl => ?_)
          refine lv_iinc (v := (v3_j90 + 1)) (lv' := [(3, .int (v3_j90 + 1)), (7, .int (jmax (v3_j90 + 1) u159)), (6, .int u145.1), (0, .ref a_o), (1, .ref a_q1), (4, .int v4_j90), (5, .int v5_j90)]) hx hb dX2_pass_167 hl (k := 4) rfl rfl (by decide) rfl (fun ls hl => ?_)
          refine lv_iload hx hb dX2_pass_170 (lv_at hl 2 rfl) ?_
          refine lv_if_le (tgt := 213) hx hb dX2_pass_172 (by decide) (fun hc => ?_) (fun hc => ?_)
          · have hf := it_t hc hf
            exact hj213 _ _ _ _ _ _ _ _ _ _ _ _ _ _ _ _ _ _ hf hP hD hS (lv_sub hl [3, 4, 5, 6, 1] rfl)
          · have hf := it_f hc hf
            refine lv_iload hx hb dX2_pass_175 (lv_at hl 5 rfl) ?_
            refine lv_iconst (v := 3) hx hb dX2_pass_177 (by decide) ?_
            refine lv_icmp_ge (tgt := 213) hx hb dX2_pass_178 (by decide) (fun hc => ?_) (fun hc => ?_)
            · have hf := it_t hc hf
              exact hj213 _ _ _ _ _ _ _ _ _ _ _ _ _ _ _ _ _ _ hf hP hD hS (lv_sub hl [3, 4, 5, 6, 1] rfl)
            · have hf := it_f hc hf
              refine lv_aload_n hx hb dX2_pass_181 rfl (lv_at hl 3 rfl) ?_
              refine va_get (D := E.1) (ci := 2) (v := .ref a_o_begins) (C := RX2) (T := TX2) (N := 11) hx hb hts inX2 hown hK hP 0 rfl rfl 0 (by decide) (hts _ fl_X2_9) (fun _ h9 => h9) rfl dX2_pass_182 ?_
              refine lv_iload hx hb dX2_pass_185 (lv_at hl 5 rfl) ?_
              refine lv_iload_n hx hb dX2_pass_187 rfl (lv_at hl 0 rfl) ?_
              obtain ⟨hi, hf⟩ := ck hf
              refine r_iast 1 cx hP hD hS rfl hi dX2_pass_188 (fun H locs hP hD hS => ?_)
              have hP : va_P E.1 vwCl (wd_X2_pass E a_o a_o_begins a_o_ends a_o_timesLeft a_q1 a_q1_streets a_q1_names a_q1_extras a_q1_happenings a_q1_watchers a_q1_weeks a_q1_streets_roads a_q1_streets_takes a_q1_streets_hours a_q1_extras_cells a_q1_happenings_cells a_q1_watchers_cells a_q1_weeks_cells u145.2.1 (o_steps_j90 + 1) u145.2.2.1 u145.2.2.2.1 u3.2.2.2.2.1 u3.2.2.2.2.2.1 u3.2.2.2.2.2.2.1 o_unfinished_j90 (jput o_begins_j90 v4_j90 (v3_j90 + 1)) o_ends_j90 o_timesLeft_j90 q1_wage q1_delay q1_odds u145.2.2.2.2.1 q1_hasWeeks q1_streets_corners q1_streets_takes q1_streets_hours q1_extras_many u145.2.2.2.2.2.1 q1_happenings_many u145.2.2.2.2.2.2.1 q1_watchers_many u145.2.2.2.2.2.2.2 q1_weeks_many q1_weeks_cells) H := hP
              have hD : va_D A (wd_X2_pass E a_o a_o_begins a_o_ends a_o_timesLeft a_q1 a_q1_streets a_q1_names a_q1_extras a_q1_happenings a_q1_watchers a_q1_weeks a_q1_streets_roads a_q1_streets_takes a_q1_streets_hours a_q1_extras_cells a_q1_happenings_cells a_q1_watchers_cells a_q1_weeks_cells u145.2.1 (o_steps_j90 + 1) u145.2.2.1 u145.2.2.2.1 u3.2.2.2.2.1 u3.2.2.2.2.2.1 u3.2.2.2.2.2.2.1 o_unfinished_j90 (jput o_begins_j90 v4_j90 (v3_j90 + 1)) o_ends_j90 o_timesLeft_j90 q1_wage q1_delay q1_odds u145.2.2.2.2.1 q1_hasWeeks q1_streets_corners q1_streets_takes q1_streets_hours q1_extras_many u145.2.2.2.2.2.1 q1_happenings_many u145.2.2.2.2.2.2.1 q1_watchers_many u145.2.2.2.2.2.2.2 q1_weeks_many q1_weeks_cells) := hD
              refine lv_aload_n hx hb dX2_pass_189 rfl (lv_at hl 3 rfl) ?_
              refine va_get (D := E.1) (ci := 2) (v := .ref a_o_ends) (C := RX2) (T := TX2) (N := 11) hx hb hts inX2 hown hK hP 0 rfl rfl 1 (by decide) (hts _ fl_X2_15) (fun _ h9 => h9) rfl dX2_pass_190 ?_
              refine lv_iload hx hb dX2_pass_193 (lv_at hl 5 rfl) ?_
              refine lv_iload hx hb dX2_pass_195 (lv_at hl 1 rfl) ?_
              obtain ⟨hi, hf⟩ := ck hf
              refine r_iast 2 cx hP hD hS rfl hi dX2_pass_197 (fun H locs hP hD hS => ?_)
              have hP : va_P E.1 vwCl (wd_X2_pass E a_o a_o_begins a_o_ends a_o_timesLeft a_q1 a_q1_streets a_q1_names a_q1_extras a_q1_happenings a_q1_watchers a_q1_weeks a_q1_streets_roads a_q1_streets_takes a_q1_streets_hours a_q1_extras_cells a_q1_happenings_cells a_q1_watchers_cells a_q1_weeks_cells u145.2.1 (o_steps_j90 + 1) u145.2.2.1 u145.2.2.2.1 u3.2.2.2.2.1 u3.2.2.2.2.2.1 u3.2.2.2.2.2.2.1 o_unfinished_j90 (jput o_begins_j90 v4_j90 (v3_j90 + 1)) (jput o_ends_j90 v4_j90 (jmax (v3_j90 + 1) u159)) o_timesLeft_j90 q1_wage q1_delay q1_odds u145.2.2.2.2.1 q1_hasWeeks q1_streets_corners q1_streets_takes q1_streets_hours q1_extras_many u145.2.2.2.2.2.1 q1_happenings_many u145.2.2.2.2.2.2.1 q1_watchers_many u145.2.2.2.2.2.2.2 q1_weeks_many q1_weeks_cells) H := hP
              have hD : va_D A (wd_X2_pass E a_o a_o_begins a_o_ends a_o_timesLeft a_q1 a_q1_streets a_q1_names a_q1_extras a_q1_happenings a_q1_watchers a_q1_weeks a_q1_streets_roads a_q1_streets_takes a_q1_streets_hours a_q1_extras_cells a_q1_happenings_cells a_q1_watchers_cells a_q1_weeks_cells u145.2.1 (o_steps_j90 + 1) u145.2.2.1 u145.2.2.2.1 u3.2.2.2.2.1 u3.2.2.2.2.2.1 u3.2.2.2.2.2.2.1 o_unfinished_j90 (jput o_begins_j90 v4_j90 (v3_j90 + 1)) (jput o_ends_j90 v4_j90 (jmax (v3_j90 + 1) u159)) o_timesLeft_j90 q1_wage q1_delay q1_odds u145.2.2.2.2.1 q1_hasWeeks q1_streets_corners q1_streets_takes q1_streets_hours q1_extras_many u145.2.2.2.2.2.1 q1_happenings_many u145.2.2.2.2.2.2.1 q1_watchers_many u145.2.2.2.2.2.2.2 q1_weeks_many q1_weeks_cells) := hD
              refine lv_aload_n hx hb dX2_pass_198 rfl (lv_at hl 3 rfl) ?_
              refine va_get (D := E.1) (ci := 2) (v := .ref a_o_timesLeft) (C := RX2) (T := TX2) (N := 11) hx hb hts inX2 hown hK hP 0 rfl rfl 2 (by decide) (hts _ fl_X2_18) (fun _ h9 => h9) rfl dX2_pass_199 ?_
              refine lv_iload hx hb dX2_pass_202 (lv_at hl 5 rfl) ?_
              refine lv_iload hx hb dX2_pass_204 (lv_at hl 2 rfl) ?_
              obtain ⟨hi, hf⟩ := ck hf
              refine r_iast 3 cx hP hD hS rfl hi dX2_pass_206 (fun H locs hP hD hS => ?_)
              have hP : va_P E.1 vwCl (wd_X2_pass E a_o a_o_begins a_o_ends a_o_timesLeft a_q1 a_q1_streets a_q1_names a_q1_extras a_q1_happenings a_q1_watchers a_q1_weeks a_q1_streets_roads a_q1_streets_takes a_q1_streets_hours a_q1_extras_cells a_q1_happenings_cells a_q1_watchers_cells a_q1_weeks_cells u145.2.1 (o_steps_j90 + 1) u145.2.2.1 u145.2.2.2.1 u3.2.2.2.2.1 u3.2.2.2.2.2.1 u3.2.2.2.2.2.2.1 o_unfinished_j90 (jput o_begins_j90 v4_j90 (v3_j90 + 1)) (jput o_ends_j90 v4_j90 (jmax (v3_j90 + 1) u159)) (jput o_timesLeft_j90 v4_j90 u145.1) q1_wage q1_delay q1_odds u145.2.2.2.2.1 q1_hasWeeks q1_streets_corners q1_streets_takes q1_streets_hours q1_extras_many u145.2.2.2.2.2.1 q1_happenings_many u145.2.2.2.2.2.2.1 q1_watchers_many u145.2.2.2.2.2.2.2 q1_weeks_many q1_weeks_cells) H := hP
              have hD : va_D A (wd_X2_pass E a_o a_o_begins a_o_ends a_o_timesLeft a_q1 a_q1_streets a_q1_names a_q1_extras a_q1_happenings a_q1_watchers a_q1_weeks a_q1_streets_roads a_q1_streets_takes a_q1_streets_hours a_q1_extras_cells a_q1_happenings_cells a_q1_watchers_cells a_q1_weeks_cells u145.2.1 (o_steps_j90 + 1) u145.2.2.1 u145.2.2.2.1 u3.2.2.2.2.1 u3.2.2.2.2.2.1 u3.2.2.2.2.2.2.1 o_unfinished_j90 (jput o_begins_j90 v4_j90 (v3_j90 + 1)) (jput o_ends_j90 v4_j90 (jmax (v3_j90 + 1) u159)) (jput o_timesLeft_j90 v4_j90 u145.1) q1_wage q1_delay q1_odds u145.2.2.2.2.1 q1_hasWeeks q1_streets_corners q1_streets_takes q1_streets_hours q1_extras_many u145.2.2.2.2.2.1 q1_happenings_many u145.2.2.2.2.2.2.1 q1_watchers_many u145.2.2.2.2.2.2.2 q1_weeks_many q1_weeks_cells) := hD
              refine lv_iinc (v := (v4_j90 + 1)) (lv' := [(4, .int (v4_j90 + 1)), (3, .int (v3_j90 + 1)), (7, .int (jmax (v3_j90 + 1) u159)), (6, .int u145.1), (0, .ref a_o), (1, .ref a_q1), (5, .int v5_j90)]) hx hb dX2_pass_207 hl (k := 5) rfl rfl (by decide) rfl (fun ls hl => ?_)
              refine lv_goto (tgt := 216) hx hb dX2_pass_210 (by decide) ?_
              exact hj216 _ _ _ _ _ _ _ _ _ _ _ _ _ _ _ _ _ _ hf hP hD hS (lv_sub hl [4, 5, 1, 0, 6] rfl)
        · have hf := it_f hc hf
          refine lv_aload_n hx hb dX2_pass_119 rfl (lv_at hl 0 rfl) ?_
          refine lv_iconst (v := 1) hx hb dX2_pass_120 (by decide) ?_
          refine va_put (D := E.1) (ci := 2) (v := .int 1) (ty := .int) (C := RX2) (T := TX2) (N := 11) hx hb hts inX2 tyX2 tyX2_ok nmX2 hown hK hP hD hS 0 rfl rfl 10 (by decide) (hts _ fl_X2_45) (fun _ h9 => h9) rfl (by decide +kernel) rfl rfl (Nat.le_of_ble_eq_true rfl) dX2_pass_121 (fun H locs hP hD hS => ?_)
          have hP : va_P E.1 vwCl (wd_X2_pass E a_o a_o_begins a_o_ends a_o_timesLeft a_q1 a_q1_streets a_q1_names a_q1_extras a_q1_happenings a_q1_watchers a_q1_weeks a_q1_streets_roads a_q1_streets_takes a_q1_streets_hours a_q1_extras_cells a_q1_happenings_cells a_q1_watchers_cells a_q1_weeks_cells o_seed_j90 o_steps_j90 o_isOver_j90 o_missed_j90 u3.2.2.2.2.1 u3.2.2.2.2.2.1 u3.2.2.2.2.2.2.1 1 o_begins_j90 o_ends_j90 o_timesLeft_j90 q1_wage q1_delay q1_odds q1_clock_j90 q1_hasWeeks q1_streets_corners q1_streets_takes q1_streets_hours q1_extras_many q1_extras_cells_j90 q1_happenings_many q1_happenings_cells_j90 q1_watchers_many q1_watchers_cells_j90 q1_weeks_many q1_weeks_cells) H := hP
          have hD : va_D A (wd_X2_pass E a_o a_o_begins a_o_ends a_o_timesLeft a_q1 a_q1_streets a_q1_names a_q1_extras a_q1_happenings a_q1_watchers a_q1_weeks a_q1_streets_roads a_q1_streets_takes a_q1_streets_hours a_q1_extras_cells a_q1_happenings_cells a_q1_watchers_cells a_q1_weeks_cells o_seed_j90 o_steps_j90 o_isOver_j90 o_missed_j90 u3.2.2.2.2.1 u3.2.2.2.2.2.1 u3.2.2.2.2.2.2.1 1 o_begins_j90 o_ends_j90 o_timesLeft_j90 q1_wage q1_delay q1_odds q1_clock_j90 q1_hasWeeks q1_streets_corners q1_streets_takes q1_streets_hours q1_extras_many q1_extras_cells_j90 q1_happenings_many q1_happenings_cells_j90 q1_watchers_many q1_watchers_cells_j90 q1_weeks_many q1_weeks_cells) := hD
          refine lv_aload_n hx hb dX2_pass_124 rfl (lv_at hl 0 rfl) ?_
          refine lv_iconst (v := 1) hx hb dX2_pass_125 (by decide) ?_
          refine va_put (D := E.1) (ci := 2) (v := .int 1) (ty := .boolean) (C := RX2) (T := TX2) (N := 11) hx hb hts inX2 tyX2 tyX2_ok nmX2 hown hK hP hD hS 0 rfl rfl 5 (by decide) (hts _ fl_X2_26) (fun _ h9 => h9) rfl (by decide +kernel) rfl rfl (Nat.le_of_ble_eq_true rfl) dX2_pass_126 (fun H locs hP hD hS => ?_)
          have hP : va_P E.1 vwCl (wd_X2_pass E a_o a_o_begins a_o_ends a_o_timesLeft a_q1 a_q1_streets a_q1_names a_q1_extras a_q1_happenings a_q1_watchers a_q1_weeks a_q1_streets_roads a_q1_streets_takes a_q1_streets_hours a_q1_extras_cells a_q1_happenings_cells a_q1_watchers_cells a_q1_weeks_cells o_seed_j90 o_steps_j90 1 o_missed_j90 u3.2.2.2.2.1 u3.2.2.2.2.2.1 u3.2.2.2.2.2.2.1 1 o_begins_j90 o_ends_j90 o_timesLeft_j90 q1_wage q1_delay q1_odds q1_clock_j90 q1_hasWeeks q1_streets_corners q1_streets_takes q1_streets_hours q1_extras_many q1_extras_cells_j90 q1_happenings_many q1_happenings_cells_j90 q1_watchers_many q1_watchers_cells_j90 q1_weeks_many q1_weeks_cells) H := hP
          have hD : va_D A (wd_X2_pass E a_o a_o_begins a_o_ends a_o_timesLeft a_q1 a_q1_streets a_q1_names a_q1_extras a_q1_happenings a_q1_watchers a_q1_weeks a_q1_streets_roads a_q1_streets_takes a_q1_streets_hours a_q1_extras_cells a_q1_happenings_cells a_q1_watchers_cells a_q1_weeks_cells o_seed_j90 o_steps_j90 1 o_missed_j90 u3.2.2.2.2.1 u3.2.2.2.2.2.1 u3.2.2.2.2.2.2.1 1 o_begins_j90 o_ends_j90 o_timesLeft_j90 q1_wage q1_delay q1_odds q1_clock_j90 q1_hasWeeks q1_streets_corners q1_streets_takes q1_streets_hours q1_extras_many q1_extras_cells_j90 q1_happenings_many q1_happenings_cells_j90 q1_watchers_many q1_watchers_cells_j90 q1_weeks_many q1_weeks_cells) := hD
          refine lv_goto (tgt := 216) hx hb dX2_pass_129 (by decide) ?_
          exact hj216 _ _ _ _ _ _ _ _ _ _ _ _ _ _ _ _ _ _ hf hP hD hS (lv_sub hl [0, 1, 2, 3, 4] rfl)
      · have hf := it_f hc hf
        refine lv_aload_n hx hb dX2_pass_101 rfl (lv_at hl 0 rfl) ?_
        refine lv_iconst (v := 1) hx hb dX2_pass_102 (by decide) ?_
        refine va_put (D := E.1) (ci := 2) (v := .int 1) (ty := .boolean) (C := RX2) (T := TX2) (N := 11) hx hb hts inX2 tyX2 tyX2_ok nmX2 hown hK hP hD hS 0 rfl rfl 5 (by decide) (hts _ fl_X2_26) (fun _ h9 => h9) rfl (by decide +kernel) rfl rfl (Nat.le_of_ble_eq_true rfl) dX2_pass_103 (fun H locs hP hD hS => ?_)
        have hP : va_P E.1 vwCl (wd_X2_pass E a_o a_o_begins a_o_ends a_o_timesLeft a_q1 a_q1_streets a_q1_names a_q1_extras a_q1_happenings a_q1_watchers a_q1_weeks a_q1_streets_roads a_q1_streets_takes a_q1_streets_hours a_q1_extras_cells a_q1_happenings_cells a_q1_watchers_cells a_q1_weeks_cells o_seed_j90 o_steps_j90 1 o_missed_j90 u3.2.2.2.2.1 u3.2.2.2.2.2.1 u3.2.2.2.2.2.2.1 o_unfinished_j90 o_begins_j90 o_ends_j90 o_timesLeft_j90 q1_wage q1_delay q1_odds q1_clock_j90 q1_hasWeeks q1_streets_corners q1_streets_takes q1_streets_hours q1_extras_many q1_extras_cells_j90 q1_happenings_many q1_happenings_cells_j90 q1_watchers_many q1_watchers_cells_j90 q1_weeks_many q1_weeks_cells) H := hP
        have hD : va_D A (wd_X2_pass E a_o a_o_begins a_o_ends a_o_timesLeft a_q1 a_q1_streets a_q1_names a_q1_extras a_q1_happenings a_q1_watchers a_q1_weeks a_q1_streets_roads a_q1_streets_takes a_q1_streets_hours a_q1_extras_cells a_q1_happenings_cells a_q1_watchers_cells a_q1_weeks_cells o_seed_j90 o_steps_j90 1 o_missed_j90 u3.2.2.2.2.1 u3.2.2.2.2.2.1 u3.2.2.2.2.2.2.1 o_unfinished_j90 o_begins_j90 o_ends_j90 o_timesLeft_j90 q1_wage q1_delay q1_odds q1_clock_j90 q1_hasWeeks q1_streets_corners q1_streets_takes q1_streets_hours q1_extras_many q1_extras_cells_j90 q1_happenings_many q1_happenings_cells_j90 q1_watchers_many q1_watchers_cells_j90 q1_weeks_many q1_weeks_cells) := hD
        refine lv_goto (tgt := 216) hx hb dX2_pass_106 (by decide) ?_
        exact hj216 _ _ _ _ _ _ _ _ _ _ _ _ _ _ _ _ _ _ hf hP hD hS (lv_sub hl [0, 1, 2, 3, 4] rfl)
    unfold X2_pass_b14 at hf
    refine lv_iload hx hb dX2_pass_14 (lv_at hl 4 rfl) ?_
    refine lv_ldc (v := 1000000) hx hb hown (hts _ ki_X2_25) dX2_pass_16 ?_
    refine lv_icmp_ge (tgt := 222) hx hb dX2_pass_18 (by decide) (fun hc => ?_) (fun hc => ?_)
    · have hf := it_t hc hf
      exact he14 _ (Option.some.inj hf).symm _ _ _ hP hD hS (lv_sub hl [0, 1] rfl)
    · have hf := it_f hc hf
      refine lv_aload_n hx hb dX2_pass_21 rfl (lv_at hl 0 rfl) ?_
      refine va_get (D := E.1) (ci := 2) (v := .int (st14.1 5)) (C := RX2) (T := TX2) (N := 11) hx hb hts inX2 hown hK hP 0 rfl rfl 5 (by decide) (hts _ fl_X2_26) (fun _ h9 => h9) rfl dX2_pass_22 ?_
      refine lv_if_ne (tgt := 222) hx hb dX2_pass_25 (by decide) (fun hc => ?_) (fun hc => ?_)
      · have hf := it_f hc hf
        exact he14 _ (Option.some.inj hf).symm _ _ _ hP hD hS (lv_sub hl [0, 1] rfl)
      · have hf := it_t hc hf
        refine lv_iload hx hb dX2_pass_28 (lv_at hl 3 rfl) ?_
        refine lv_if_le (tgt := 90) hx hb dX2_pass_30 (by decide) (fun hc => ?_) (fun hc => ?_)
        · have hf := it_t hc hf
          exact hj90 _ _ _ _ _ _ _ _ _ _ _ _ _ _ _ _ _ _ hf hP hD hS (lv_sub hl [0, 1, 2, 3, 4] rfl)
        · have hf := it_f hc hf
          refine lv_iload_n hx hb dX2_pass_33 rfl (lv_at hl 2 rfl) ?_
          refine lv_aload_n hx hb dX2_pass_34 rfl (lv_at hl 0 rfl) ?_
          refine va_get (D := E.1) (ci := 2) (v := .ref a_o_ends) (C := RX2) (T := TX2) (N := 11) hx hb hts inX2 hown hK hP 0 rfl rfl 1 (by decide) (hts _ fl_X2_15) (fun _ h9 => h9) rfl dX2_pass_35 ?_
          refine lv_iload hx hb dX2_pass_38 (lv_at hl 3 rfl) ?_
          refine lv_iconst (v := 1) hx hb dX2_pass_40 (by decide) ?_
          refine lv_isub hx hb dX2_pass_41 ?_
          obtain ⟨hi, hf⟩ := ck hf
          refine r_iald 2 cx hP rfl hi dX2_pass_42 ?_
          refine lv_icmp_lt (tgt := 90) hx hb dX2_pass_43 (by decide) (fun hc => ?_) (fun hc => ?_)
          · have hf := it_t hc hf
            exact hj90 _ _ _ _ _ _ _ _ _ _ _ _ _ _ _ _ _ _ hf hP hD hS (lv_sub hl [0, 1, 2, 3, 4] rfl)
          · have hf := it_f hc hf
            refine lv_aload_n hx hb dX2_pass_46 rfl (lv_at hl 0 rfl) ?_
            refine va_get (D := E.1) (ci := 2) (v := .ref a_o_timesLeft) (C := RX2) (T := TX2) (N := 11) hx hb hts inX2 hown hK hP 0 rfl rfl 2 (by decide) (hts _ fl_X2_18) (fun _ h9 => h9) rfl dX2_pass_47 ?_
            refine lv_iload hx hb dX2_pass_50 (lv_at hl 3 rfl) ?_
            refine lv_iconst (v := 1) hx hb dX2_pass_52 (by decide) ?_
            refine lv_isub hx hb dX2_pass_53 ?_
            refine lv_dup2_11 hx hb dX2_pass_54 rfl rfl ?_
            obtain ⟨hi, hf⟩ := ck hf
            refine r_iald 3 cx hP rfl hi dX2_pass_55 ?_
            refine lv_iconst (v := 1) hx hb dX2_pass_56 (by decide) ?_
            refine lv_isub hx hb dX2_pass_57 ?_
            obtain ⟨hi, hf⟩ := ck hf
            refine r_iast 3 cx hP hD hS rfl hi dX2_pass_58 (fun H locs hP hD hS => ?_)
            have hP : va_P E.1 vwCl (wd_X2_pass E a_o a_o_begins a_o_ends a_o_timesLeft a_q1 a_q1_streets a_q1_names a_q1_extras a_q1_happenings a_q1_watchers a_q1_weeks a_q1_streets_roads a_q1_streets_takes a_q1_streets_hours a_q1_extras_cells a_q1_happenings_cells a_q1_watchers_cells a_q1_weeks_cells (st14.1 3) (st14.1 4) (st14.1 5) (st14.1 6) u3.2.2.2.2.1 u3.2.2.2.2.2.1 u3.2.2.2.2.2.2.1 (st14.1 7) (st14.2.2.1 0) (st14.2.2.1 1) (jput (st14.2.2.1 2) ((st14.1 1) - 1) ((jat (st14.2.2.1 2) ((st14.1 1) - 1)) - 1)) q1_wage q1_delay q1_odds (st14.1 8) q1_hasWeeks q1_streets_corners q1_streets_takes q1_streets_hours q1_extras_many (st14.2.2.1 3) q1_happenings_many (st14.2.2.1 4) q1_watchers_many (st14.2.2.1 5) q1_weeks_many q1_weeks_cells) H := hP
            have hD : va_D A (wd_X2_pass E a_o a_o_begins a_o_ends a_o_timesLeft a_q1 a_q1_streets a_q1_names a_q1_extras a_q1_happenings a_q1_watchers a_q1_weeks a_q1_streets_roads a_q1_streets_takes a_q1_streets_hours a_q1_extras_cells a_q1_happenings_cells a_q1_watchers_cells a_q1_weeks_cells (st14.1 3) (st14.1 4) (st14.1 5) (st14.1 6) u3.2.2.2.2.1 u3.2.2.2.2.2.1 u3.2.2.2.2.2.2.1 (st14.1 7) (st14.2.2.1 0) (st14.2.2.1 1) (jput (st14.2.2.1 2) ((st14.1 1) - 1) ((jat (st14.2.2.1 2) ((st14.1 1) - 1)) - 1)) q1_wage q1_delay q1_odds (st14.1 8) q1_hasWeeks q1_streets_corners q1_streets_takes q1_streets_hours q1_extras_many (st14.2.2.1 3) q1_happenings_many (st14.2.2.1 4) q1_watchers_many (st14.2.2.1 5) q1_weeks_many q1_weeks_cells) := hD
            refine lv_aload_n hx hb dX2_pass_59 rfl (lv_at hl 0 rfl) ?_
            refine va_get (D := E.1) (ci := 2) (v := .ref a_o_timesLeft) (C := RX2) (T := TX2) (N := 11) hx hb hts inX2 hown hK hP 0 rfl rfl 2 (by decide) (hts _ fl_X2_18) (fun _ h9 => h9) rfl dX2_pass_60 ?_
            refine lv_iload hx hb dX2_pass_63 (lv_at hl 3 rfl) ?_
            refine lv_iconst (v := 1) hx hb dX2_pass_65 (by decide) ?_
            refine lv_isub hx hb dX2_pass_66 ?_
            obtain ⟨hi, hf⟩ := ck hf
            refine r_iald 3 cx hP rfl hi dX2_pass_67 ?_
            refine lv_if_le (tgt := 84) hx hb dX2_pass_68 (by decide) (fun hc => ?_) (fun hc => ?_)
            · have hf := it_t hc hf
              refine lv_iinc (v := ((st14.1 1) + (-1))) (lv' := [(4, .int ((st14.1 1) + (-1))), (0, .ref a_o), (1, .ref a_q1), (3, .int (st14.1 0)), (5, .int (st14.1 2))]) hx hb dX2_pass_84 hl (k := 3) rfl rfl (by decide) rfl (fun ls hl => ?_)
              refine lv_goto (tgt := 216) hx hb dX2_pass_87 (by decide) ?_
              exact hj216 _ _ _ _ _ _ _ _ _ _ _ _ _ _ _ _ _ _ hf hP hD hS (lv_sub hl [1, 2, 3, 0, 4] rfl)
            · have hf := it_f hc hf
              refine lv_aload_n hx hb dX2_pass_71 rfl (lv_at hl 0 rfl) ?_
              refine va_get (D := E.1) (ci := 2) (v := .ref a_o_begins) (C := RX2) (T := TX2) (N := 11) hx hb hts inX2 hown hK hP 0 rfl rfl 0 (by decide) (hts _ fl_X2_9) (fun _ h9 => h9) rfl dX2_pass_72 ?_
              refine lv_iload hx hb dX2_pass_75 (lv_at hl 3 rfl) ?_
              refine lv_iconst (v := 1) hx hb dX2_pass_77 (by decide) ?_
              refine lv_isub hx hb dX2_pass_78 ?_
              obtain ⟨hi, hf⟩ := ck hf
              refine r_iald 1 cx hP rfl hi dX2_pass_79 ?_
              refine lv_istore_n (lv' := [(3, .int (jat (st14.2.2.1 0) ((st14.1 1) - 1))), (0, .ref a_o), (1, .ref a_q1), (4, .int (st14.1 1)), (5, .int (st14.1 2))]) hx hb dX2_pass_80 rfl hl (by decide) rfl (fun ls hl => ?_)
              refine lv_goto (tgt := 216) hx hb dX2_pass_81 (by decide) ?_
              exact hj216 _ _ _ _ _ _ _ _ _ _ _ _ _ _ _ _ _ _ hf hP hD hS (lv_sub hl [1, 2, 0, 3, 4] rfl)
  · refine fun H locs ls hP hD hS hl => ?_
    exact hj222 _ _ _ _ _ _ _ _ _ _ _ _ _ _ _ _ _ _ hf hP hD hS (lv_sub hl [0, 1] rfl)
