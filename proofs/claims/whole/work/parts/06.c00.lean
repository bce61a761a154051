def X6_clear_b15 (F : Nat) (o_corners : Int32) (o_roads_many : Int32) (st15 : Int32 × (Nat → Int32) × (Nat → Int32)) : Option ((Int32 × (Nat → Int32) × (Nat → Int32)) ⊕ (((Nat → Int32) × (Nat → Int32)))) :=
  if (64 : Int32) ≤ st15.1 then
  some (.inr (st15.2.1, st15.2.2))
  else
  if ix st15.1 64 then
  if ix st15.1 64 then
  some (.inl ((st15.1 + 1), (jput st15.2.1 st15.1 0), (jput st15.2.2 st15.1 1000)))
  else none
  else none
def X6_clear (F : Nat) (o_corners : Int32) (o_roads_many : Int32) (o_takes : Nat → Int32) (o_hours : Nat → Int32) : Option (Int32 × Int32 × (Nat → Int32) × (Nat → Int32)) :=
  (iter (X6_clear_b15 F 0 0) F (0, o_takes, o_hours)).bind (fun (e15 : (Nat → Int32) × (Nat → Int32)) =>
    some (0, 0, e15.1, e15.2))
abbrev wd_X6_clear (E : vE) (a_o a_o_roads a_o_takes a_o_hours a_o_roads_cells : Nat) (o_corners : Int32) (o_roads_many : Int32) (o_takes : Nat → Int32) (o_hours : Nat → Int32) : va_W := [(a_o, .inr (6, [.int o_corners, .ref a_o_roads, .ref a_o_takes, .ref a_o_hours])), (a_o_roads, .inr (7, [.int 2, .ref a_o_roads_cells, .int o_roads_many])), (a_o_takes, .inl (E.2.1, 64, .inl o_takes)), (a_o_hours, .inl (E.2.1, 64, .inl o_hours))]
set_option maxHeartbeats 4000000 in
set_option maxRecDepth 100000 in
theorem ct_X6_clear (l : Launch) (E : vE) (F : Nat) (a_o a_o_roads a_o_takes a_o_hours a_o_roads_cells : Nat) (o_corners : Int32) (o_roads_many : Int32) (o_takes : Nat → Int32) (o_hours : Nat → Int32) (u : Int32 × Int32 × (Nat → Int32) × (Nat → Int32)) (hf : X6_clear F o_corners o_roads_many o_takes o_hours = some u) :
    CtV l yX6_clear cX6_clear 2 none 0 E [.ref a_o] (wd_X6_clear E a_o a_o_roads a_o_takes a_o_hours a_o_roads_cells o_corners o_roads_many o_takes o_hours) (wd_X6_clear E a_o a_o_roads a_o_takes a_o_hours a_o_roads_cells u.1 u.2.1 u.2.2.1 u.2.2.2) := by
  refine ctV (by decide) (Nat.le_of_ble_eq_true rfl) ?_
  intro p e s m below meth cd A ls aa QQ hq cx hP hD hS hl
  obtain ⟨⟨hx, hb, hml, hown, hts⟩, hr, hlocks, hK, hA, hX⟩ := id cx
  have hl : lv_has ls 2 [(0, .ref a_o)] := hl
  unfold X6_clear at hf
  refine lv_aload_n hx hb dX6_clear_0 rfl (lv_at hl 0 rfl) ?_
  refine lv_iconst (v := 0) hx hb dX6_clear_1 (by decide) ?_
  refine va_put (D := E.1) (ci := 6) (v := .int 0) (ty := .int) (C := RX6) (T := TX6) (N := 4) hx hb hts inX6 tyX6 tyX6_ok nmX6 hown hK hP hD hS 0 rfl rfl 0 (by decide) (hts _ fl_X6_27) (fun _ h9 => h9) rfl (by decide +kernel) rfl rfl (Nat.le_of_ble_eq_true rfl) dX6_clear_2 (fun H locs hP hD hS => ?_)
  have hP : va_P E.1 vwCl (wd_X6_clear E a_o a_o_roads a_o_takes a_o_hours a_o_roads_cells 0 o_roads_many o_takes o_hours) H := hP
  have hD : va_D A (wd_X6_clear E a_o a_o_roads a_o_takes a_o_hours a_o_roads_cells 0 o_roads_many o_takes o_hours) := hD
  refine lv_aload_n hx hb dX6_clear_5 rfl (lv_at hl 0 rfl) ?_
  refine va_get (D := E.1) (ci := 6) (v := .ref a_o_roads) (C := RX6) (T := TX6) (N := 4) hx hb hts inX6 hown hK hP 0 rfl rfl 1 (by decide) (hts _ fl_X6_16) (fun _ h9 => h9) rfl dX6_clear_6 ?_
  refine lv_iconst (v := 0) hx hb dX6_clear_9 (by decide) ?_
  refine va_put (D := E.1) (ci := 7) (v := .int 0) (ty := .int) (C := RX7) (T := TX7) (N := 3) hx hb hts inX7 tyX7 tyX7_ok nmX7 hown hK hP hD hS 1 rfl rfl 2 (by decide) (hts _ fl_X6_31) (fun _ h9 => h9) rfl (by decide +kernel) rfl rfl (Nat.le_of_ble_eq_true rfl) dX6_clear_10 (fun H locs hP hD hS => ?_)
  have hP : va_P E.1 vwCl (wd_X6_clear E a_o a_o_roads a_o_takes a_o_hours a_o_roads_cells 0 0 o_takes o_hours) H := hP
  have hD : va_D A (wd_X6_clear E a_o a_o_roads a_o_takes a_o_hours a_o_roads_cells 0 0 o_takes o_hours) := hD
  refine lv_iconst (v := 0) hx hb dX6_clear_13 (by decide) ?_
  refine lv_istore_n (lv' := [(1, .int 0), (0, .ref a_o)]) hx hb dX6_clear_14 rfl hl (by decide) rfl (fun ls hl => ?_)
  obtain ⟨e15, hit15, hf⟩ := bd hf
  refine iter_W (b := X6_clear_b15 F 0 0) (P := fun st15 => ∀ (H : Heap) (locs : List Loc) (ls : Array Slot), va_P E.1 vwCl (wd_X6_clear E a_o a_o_roads a_o_takes a_o_hours a_o_roads_cells 0 0 st15.2.1 st15.2.2) H → va_D A (wd_X6_clear E a_o a_o_roads a_o_takes a_o_hours a_o_roads_cells 0 0 st15.2.1 st15.2.2) → va_S A s.heap H locs → lv_has ls 2 [(0, .ref a_o), (1, .int st15.1)] → W p l e (rmd 0) s m aa below meth cd H locs 0 0 QQ (F0 m 15 ls [])) (G := (fun (e15 : (Nat → Int32) × (Nat → Int32)) => ∀ (H : Heap) (locs : List Loc) (ls : Array Slot), va_P E.1 vwCl (wd_X6_clear E a_o a_o_roads a_o_takes a_o_hours a_o_roads_cells 0 0 e15.1 e15.2) H → va_D A (wd_X6_clear E a_o a_o_roads a_o_takes a_o_hours a_o_roads_cells 0 0 e15.1 e15.2) → va_S A s.heap H locs → lv_has ls 2 [] → W p l e (rmd 0) s m aa below meth cd H locs 0 0 QQ (F0 m 46 ls []))) ?_ F (0, o_takes, o_hours) e15 hit15 ?_ _ _ _ hP hD hS (lv_sub hl [1, 0] rfl)
  · intro st15 r15 hf hk15 he15 H locs ls hP hD hS hl
    unfold X6_clear_b15 at hf
    refine lv_iload_n hx hb dX6_clear_15 rfl (lv_at hl 1 rfl) ?_
    refine lv_aload_n hx hb dX6_clear_16 rfl (lv_at hl 0 rfl) ?_
    refine va_get (D := E.1) (ci := 6) (v := .ref a_o_takes) (C := RX6) (T := TX6) (N := 4) hx hb hts inX6 hown hK hP 0 rfl rfl 2 (by decide) (hts _ fl_X6_20) (fun _ h9 => h9) rfl dX6_clear_17 ?_
    refine va_alen (v := 64) hx hb hK hP 2 0 rfl rfl (show Int32.ofNat 64 = 64 from by decide) dX6_clear_20 ?_
    refine lv_icmp_ge (tgt := 46) hx hb dX6_clear_21 (by decide) (fun hc => ?_) (fun hc => ?_)
    · have hf := it_t hc hf
      exact he15 _ (Option.some.inj hf).symm _ _ _ hP hD hS (lv_sub hl [] rfl)
    · have hf := it_f hc hf
      refine lv_aload_n hx hb dX6_clear_24 rfl (lv_at hl 0 rfl) ?_
      refine va_get (D := E.1) (ci := 6) (v := .ref a_o_takes) (C := RX6) (T := TX6) (N := 4) hx hb hts inX6 hown hK hP 0 rfl rfl 2 (by decide) (hts _ fl_X6_20) (fun _ h9 => h9) rfl dX6_clear_25 ?_
      refine lv_iload_n hx hb dX6_clear_28 rfl (lv_at hl 1 rfl) ?_
      refine lv_iconst (v := 0) hx hb dX6_clear_29 (by decide) ?_
      obtain ⟨hi, hf⟩ := ck hf
      refine r_iast 2 cx hP hD hS rfl hi dX6_clear_30 (fun H locs hP hD hS => ?_)
      have hP : va_P E.1 vwCl (wd_X6_clear E a_o a_o_roads a_o_takes a_o_hours a_o_roads_cells 0 0 (jput st15.2.1 st15.1 0) st15.2.2) H := hP
      have hD : va_D A (wd_X6_clear E a_o a_o_roads a_o_takes a_o_hours a_o_roads_cells 0 0 (jput st15.2.1 st15.1 0) st15.2.2) := hD
      refine lv_aload_n hx hb dX6_clear_31 rfl (lv_at hl 0 rfl) ?_
      refine va_get (D := E.1) (ci := 6) (v := .ref a_o_hours) (C := RX6) (T := TX6) (N := 4) hx hb hts inX6 hown hK hP 0 rfl rfl 3 (by decide) (hts _ fl_X6_24) (fun _ h9 => h9) rfl dX6_clear_32 ?_
      refine lv_iload_n hx hb dX6_clear_35 rfl (lv_at hl 1 rfl) ?_
      refine lv_sipush (v := 1000) hx hb dX6_clear_36 (by decide) ?_
      obtain ⟨hi, hf⟩ := ck hf
      refine r_iast 3 cx hP hD hS rfl hi dX6_clear_39 (fun H locs hP hD hS => ?_)
      have hP : va_P E.1 vwCl (wd_X6_clear E a_o a_o_roads a_o_takes a_o_hours a_o_roads_cells 0 0 (jput st15.2.1 st15.1 0) (jput st15.2.2 st15.1 1000)) H := hP
      have hD : va_D A (wd_X6_clear E a_o a_o_roads a_o_takes a_o_hours a_o_roads_cells 0 0 (jput st15.2.1 st15.1 0) (jput st15.2.2 st15.1 1000)) := hD
      refine lv_iinc (v := (st15.1 + 1)) (lv' := [(1, .int (st15.1 + 1)), (0, .ref a_o)]) hx hb dX6_clear_40 hl (k := 1) rfl rfl (by decide) rfl (fun ls hl => ?_)
      refine lv_goto (tgt := 15) hx hb dX6_clear_43 (by decide) ?_
      exact hk15 _ (Option.some.inj hf).symm _ _ _ hP hD hS (lv_sub hl [1, 0] rfl)
  · refine fun H locs ls hP hD hS hl => ?_
    obtain rfl := Option.some.inj hf
    subst hq
    exact retV cx hP hD hS dX6_clear_46
def X3_clear (o_many : Int32) : Option (Int32) :=
  some 0
abbrev wd_X3_clear (E : vE) (a_o a_o_codes a_o_sorts a_o_numbers : Nat) (o_many : Int32) : va_W := [(a_o, .inr (3, [.ref a_o_codes, .ref a_o_sorts, .ref a_o_numbers, .int o_many]))]
set_option maxHeartbeats 4000000 in
set_option maxRecDepth 100000 in
theorem ct_X3_clear (l : Launch) (E : vE) (a_o a_o_codes a_o_sorts a_o_numbers : Nat) (o_many : Int32) (u : Int32) (hf : X3_clear o_many = some u) :
    CtV l yX3_clear cX3_clear 1 none 0 E [.ref a_o] (wd_X3_clear E a_o a_o_codes a_o_sorts a_o_numbers o_many) (wd_X3_clear E a_o a_o_codes a_o_sorts a_o_numbers u) := by
  refine ctV (by decide) (Nat.le_of_ble_eq_true rfl) ?_
  intro p e s m below meth cd A ls aa QQ hq cx hP hD hS hl
  obtain ⟨⟨hx, hb, hml, hown, hts⟩, hr, hlocks, hK, hA, hX⟩ := id cx
  have hl : lv_has ls 1 [(0, .ref a_o)] := hl
  unfold X3_clear at hf
  refine lv_aload_n hx hb dX3_clear_0 rfl (lv_at hl 0 rfl) ?_
  refine lv_iconst (v := 0) hx hb dX3_clear_1 (by decide) ?_
  refine va_put (D := E.1) (ci := 3) (v := .int 0) (ty := .int) (C := RX3) (T := TX3) (N := 4) hx hb hts inX3 tyX3 tyX3_ok nmX3 hown hK hP hD hS 0 rfl rfl 3 (by decide) (hts _ fl_X3_22) (fun _ h9 => h9) rfl (by decide +kernel) rfl rfl (Nat.le_of_ble_eq_true rfl) dX3_clear_2 (fun H locs hP hD hS => ?_)
  have hP : va_P E.1 vwCl (wd_X3_clear E a_o a_o_codes a_o_sorts a_o_numbers 0) H := hP
  have hD : va_D A (wd_X3_clear E a_o a_o_codes a_o_sorts a_o_numbers 0) := hD
  obtain rfl := Option.some.inj hf
  subst hq
  exact retV cx hP hD hS dX3_clear_5
def X0_clear (F : Nat) (o_wage : Int32) (o_delay : Int32) (o_odds : Int32) (o_clock : Int32) (o_hasWeeks : Int32) (o_streets_corners : Int32) (o_streets_roads_many : Int32) (o_streets_takes : Nat → Int32) (o_streets_hours : Nat → Int32) (o_names_many : Int32) (o_extras_many : Int32) (o_happenings_many : Int32) (o_watchers_many : Int32) (o_weeks_many : Int32) : Option (vS) :=
  (X6_clear F o_streets_corners o_streets_roads_many o_streets_takes o_streets_hours).bind fun u29 =>
  (X3_clear o_names_many).bind fun u36 =>
  some (mkS [1, 2, 1, 0, 0, u29.1, u29.2.1, u36, 0, 0, 0, 0] [] [u29.2.2.1, u29.2.2.2] [])
abbrev wd_X0_clear (E : vE) (a_o a_o_streets a_o_names a_o_extras a_o_happenings a_o_watchers a_o_weeks a_o_streets_roads a_o_streets_takes a_o_streets_hours a_o_streets_roads_cells a_o_names_codes a_o_names_sorts a_o_names_numbers a_o_extras_cells a_o_happenings_cells a_o_watchers_cells a_o_weeks_cells : Nat) (o_wage : Int32) (o_delay : Int32) (o_odds : Int32) (o_clock : Int32) (o_hasWeeks : Int32) (o_streets_corners : Int32) (o_streets_roads_many : Int32) (o_streets_takes : Nat → Int32) (o_streets_hours : Nat → Int32) (o_names_many : Int32) (o_extras_many : Int32) (o_happenings_many : Int32) (o_watchers_many : Int32) (o_weeks_many : Int32) : va_W := [(a_o, .inr (0, [.int o_wage, .int o_delay, .int o_odds, .int o_clock, .int o_hasWeeks, .ref a_o_streets, .ref a_o_names, .ref a_o_extras, .ref a_o_happenings, .ref a_o_watchers, .ref a_o_weeks])), (a_o_streets, .inr (6, [.int o_streets_corners, .ref a_o_streets_roads, .ref a_o_streets_takes, .ref a_o_streets_hours])), (a_o_streets_roads, .inr (7, [.int 2, .ref a_o_streets_roads_cells, .int o_streets_roads_many])), (a_o_streets_takes, .inl (E.2.1, 64, .inl o_streets_takes)), (a_o_streets_hours, .inl (E.2.1, 64, .inl o_streets_hours)), (a_o_names, .inr (3, [.ref a_o_names_codes, .ref a_o_names_sorts, .ref a_o_names_numbers, .int o_names_many])), (a_o_extras, .inr (7, [.int 5, .ref a_o_extras_cells, .int o_extras_many])), (a_o_happenings, .inr (7, [.int 5, .ref a_o_happenings_cells, .int o_happenings_many])), (a_o_watchers, .inr (7, [.int 3, .ref a_o_watchers_cells, .int o_watchers_many])), (a_o_weeks, .inr (7, [.int 6, .ref a_o_weeks_cells, .int o_weeks_many]))]
set_option maxHeartbeats 4000000 in
set_option maxRecDepth 100000 in
theorem ct_X0_clear (l : Launch) (E : vE) (F : Nat) (a_o a_o_streets a_o_names a_o_extras a_o_happenings a_o_watchers a_o_weeks a_o_streets_roads a_o_streets_takes a_o_streets_hours a_o_streets_roads_cells a_o_names_codes a_o_names_sorts a_o_names_numbers a_o_extras_cells a_o_happenings_cells a_o_watchers_cells a_o_weeks_cells : Nat) (o_wage : Int32) (o_delay : Int32) (o_odds : Int32) (o_clock : Int32) (o_hasWeeks : Int32) (o_streets_corners : Int32) (o_streets_roads_many : Int32) (o_streets_takes : Nat → Int32) (o_streets_hours : Nat → Int32) (o_names_many : Int32) (o_extras_many : Int32) (o_happenings_many : Int32) (o_watchers_many : Int32) (o_weeks_many : Int32) (u : vS) (hf : X0_clear F o_wage o_delay o_odds o_clock o_hasWeeks o_streets_corners o_streets_roads_many o_streets_takes o_streets_hours o_names_many o_extras_many o_happenings_many o_watchers_many o_weeks_many = some u) :
    CtV l yX0_clear cX0_clear 1 none 1 E [.ref a_o] (wd_X0_clear E a_o a_o_streets a_o_names a_o_extras a_o_happenings a_o_watchers a_o_weeks a_o_streets_roads a_o_streets_takes a_o_streets_hours a_o_streets_roads_cells a_o_names_codes a_o_names_sorts a_o_names_numbers a_o_extras_cells a_o_happenings_cells a_o_watchers_cells a_o_weeks_cells o_wage o_delay o_odds o_clock o_hasWeeks o_streets_corners o_streets_roads_many o_streets_takes o_streets_hours o_names_many o_extras_many o_happenings_many o_watchers_many o_weeks_many) (wd_X0_clear E a_o a_o_streets a_o_names a_o_extras a_o_happenings a_o_watchers a_o_weeks a_o_streets_roads a_o_streets_takes a_o_streets_hours a_o_streets_roads_cells a_o_names_codes a_o_names_sorts a_o_names_numbers a_o_extras_cells a_o_happenings_cells a_o_watchers_cells a_o_weeks_cells (u.1 0) (u.1 1) (u.1 2) (u.1 3) (u.1 4) (u.1 5) (u.1 6) (u.2.2.1 0) (u.2.2.1 1) (u.1 7) (u.1 8) (u.1 9) (u.1 10) (u.1 11)) := by
  refine ctV (by decide) (Nat.le_of_ble_eq_true rfl) ?_
  intro p e s m below meth cd A ls aa QQ hq cx hP hD hS hl
  obtain ⟨⟨hx, hb, hml, hown, hts⟩, hr, hlocks, hK, hA, hX⟩ := id cx
  have hl : lv_has ls 1 [(0, .ref a_o)] := hl
  unfold X0_clear at hf
  refine lv_aload_n hx hb dX0_clear_0 rfl (lv_at hl 0 rfl) ?_
  refine lv_iconst (v := 1) hx hb dX0_clear_1 (by decide) ?_
  refine va_put (D := E.1) (ci := 0) (v := .int 1) (ty := .int) (C := RX0) (T := TX0) (N := 11) hx hb hts inX0 tyX0 tyX0_ok nmX0 hown hK hP hD hS 0 rfl rfl 0 (by decide) (hts _ fl_X0_48) (fun _ h9 => h9) rfl (by decide +kernel) rfl rfl (Nat.le_of_ble_eq_true rfl) dX0_clear_2 (fun H locs hP hD hS => ?_)
  have hP : va_P E.1 vwCl (wd_X0_clear E a_o a_o_streets a_o_names a_o_extras a_o_happenings a_o_watchers a_o_weeks a_o_streets_roads a_o_streets_takes a_o_streets_hours a_o_streets_roads_cells a_o_names_codes a_o_names_sorts a_o_names_numbers a_o_extras_cells a_o_happenings_cells a_o_watchers_cells a_o_weeks_cells 1 o_delay o_odds o_clock o_hasWeeks o_streets_corners o_streets_roads_many o_streets_takes o_streets_hours o_names_many o_extras_many o_happenings_many o_watchers_many o_weeks_many) H := hP
  have hD : va_D A (wd_X0_clear E a_o a_o_streets a_o_names a_o_extras a_o_happenings a_o_watchers a_o_weeks a_o_streets_roads a_o_streets_takes a_o_streets_hours a_o_streets_roads_cells a_o_names_codes a_o_names_sorts a_o_names_numbers a_o_extras_cells a_o_happenings_cells a_o_watchers_cells a_o_weeks_cells 1 o_delay o_odds o_clock o_hasWeeks o_streets_corners o_streets_roads_many o_streets_takes o_streets_hours o_names_many o_extras_many o_happenings_many o_watchers_many o_weeks_many) := hD
  refine lv_aload_n hx hb dX0_clear_5 rfl (lv_at hl 0 rfl) ?_
  refine lv_iconst (v := 2) hx hb dX0_clear_6 (by decide) ?_
  refine va_put (D := E.1) (ci := 0) (v := .int 2) (ty := .int) (C := RX0) (T := TX0) (N := 11) hx hb hts inX0 tyX0 tyX0_ok nmX0 hown hK hP hD hS 0 rfl rfl 1 (by decide) (hts _ fl_X0_52) (fun _ h9 => h9) rfl (by decide +kernel) rfl rfl (Nat.le_of_ble_eq_true rfl) dX0_clear_7 (fun H locs hP hD hS => ?_)
  have hP : va_P E.1 vwCl (wd_X0_clear E a_o a_o_streets a_o_names a_o_extras a_o_happenings a_o_watchers a_o_weeks a_o_streets_roads a_o_streets_takes a_o_streets_hours a_o_streets_roads_cells a_o_names_codes a_o_names_sorts a_o_names_numbers a_o_extras_cells a_o_happenings_cells a_o_watchers_cells a_o_weeks_cells 1 2 o_odds o_clock o_hasWeeks o_streets_corners o_streets_roads_many o_streets_takes o_streets_hours o_names_many o_extras_many o_happenings_many o_watchers_many o_weeks_many) H := hP
  have hD : va_D A (wd_X0_clear E a_o a_o_streets a_o_names a_o_extras a_o_happenings a_o_watchers a_o_weeks a_o_streets_roads a_o_streets_takes a_o_streets_hours a_o_streets_roads_cells a_o_names_codes a_o_names_sorts a_o_names_numbers a_o_extras_cells a_o_happenings_cells a_o_watchers_cells a_o_weeks_cells 1 2 o_odds o_clock o_hasWeeks o_streets_corners o_streets_roads_many o_streets_takes o_streets_hours o_names_many o_extras_many o_happenings_many o_watchers_many o_weeks_many) := hD
  refine lv_aload_n hx hb dX0_clear_10 rfl (lv_at hl 0 rfl) ?_
  refine lv_iconst (v := 1) hx hb dX0_clear_11 (by decide) ?_
  refine va_put (D := E.1) (ci := 0) (v := .int 1) (ty := .int) (C := RX0) (T := TX0) (N := 11) hx hb hts inX0 tyX0 tyX0_ok nmX0 hown hK hP hD hS 0 rfl rfl 2 (by decide) (hts _ fl_X0_55) (fun _ h9 => h9) rfl (by decide +kernel) rfl rfl (Nat.le_of_ble_eq_true rfl) dX0_clear_12 (fun H locs hP hD hS => ?_)
  have hP : va_P E.1 vwCl (wd_X0_clear E a_o a_o_streets a_o_names a_o_extras a_o_happenings a_o_watchers a_o_weeks a_o_streets_roads a_o_streets_takes a_o_streets_hours a_o_streets_roads_cells a_o_names_codes a_o_names_sorts a_o_names_numbers a_o_extras_cells a_o_happenings_cells a_o_watchers_cells a_o_weeks_cells 1 2 1 o_clock o_hasWeeks o_streets_corners o_streets_roads_many o_streets_takes o_streets_hours o_names_many o_extras_many o_happenings_many o_watchers_many o_weeks_many) H := hP
  have hD : va_D A (wd_X0_clear E a_o a_o_streets a_o_names a_o_extras a_o_happenings a_o_watchers a_o_weeks a_o_streets_roads a_o_streets_takes a_o_streets_hours a_o_streets_roads_cells a_o_names_codes a_o_names_sorts a_o_names_numbers a_o_extras_cells a_o_happenings_cells a_o_watchers_cells a_o_weeks_cells 1 2 1 o_clock o_hasWeeks o_streets_corners o_streets_roads_many o_streets_takes o_streets_hours o_names_many o_extras_many o_happenings_many o_watchers_many o_weeks_many) := hD
  refine lv_aload_n hx hb dX0_clear_15 rfl (lv_at hl 0 rfl) ?_
  refine lv_iconst (v := 0) hx hb dX0_clear_16 (by decide) ?_
  refine va_put (D := E.1) (ci := 0) (v := .int 0) (ty := .int) (C := RX0) (T := TX0) (N := 11) hx hb hts inX0 tyX0 tyX0_ok nmX0 hown hK hP hD hS 0 rfl rfl 3 (by decide) (hts _ fl_X0_58) (fun _ h9 => h9) rfl (by decide +kernel) rfl rfl (Nat.le_of_ble_eq_true rfl) dX0_clear_17 (fun H locs hP hD hS => ?_)
  have hP : va_P E.1 vwCl (wd_X0_clear E a_o a_o_streets a_o_names a_o_extras a_o_happenings a_o_watchers a_o_weeks a_o_streets_roads a_o_streets_takes a_o_streets_hours a_o_streets_roads_cells a_o_names_codes a_o_names_sorts a_o_names_numbers a_o_extras_cells a_o_happenings_cells a_o_watchers_cells a_o_weeks_cells 1 2 1 0 o_hasWeeks o_streets_corners o_streets_roads_many o_streets_takes o_streets_hours o_names_many o_extras_many o_happenings_many o_watchers_many o_weeks_many) H := hP
  have hD : va_D A (wd_X0_clear E a_o a_o_streets a_o_names a_o_extras a_o_happenings a_o_watchers a_o_weeks a_o_streets_roads a_o_streets_takes a_o_streets_hours a_o_streets_roads_cells a_o_names_codes a_o_names_sorts a_o_names_numbers a_o_extras_cells a_o_happenings_cells a_o_watchers_cells a_o_weeks_cells 1 2 1 0 o_hasWeeks o_streets_corners o_streets_roads_many o_streets_takes o_streets_hours o_names_many o_extras_many o_happenings_many o_watchers_many o_weeks_many) := hD
  refine lv_aload_n hx hb dX0_clear_20 rfl (lv_at hl 0 rfl) ?_
  refine lv_iconst (v := 0) hx hb dX0_clear_21 (by decide) ?_
  refine va_put (D := E.1) (ci := 0) (v := .int 0) (ty := .boolean) (C := RX0) (T := TX0) (N := 11) hx hb hts inX0 tyX0 tyX0_ok nmX0 hown hK hP hD hS 0 rfl rfl 4 (by decide) (hts _ fl_X0_61) (fun _ h9 => h9) rfl (by decide +kernel) rfl rfl (Nat.le_of_ble_eq_true rfl) dX0_clear_22 (fun H locs hP hD hS => ?_)
  have hP : va_P E.1 vwCl (wd_X0_clear E a_o a_o_streets a_o_names a_o_extras a_o_happenings a_o_watchers a_o_weeks a_o_streets_roads a_o_streets_takes a_o_streets_hours a_o_streets_roads_cells a_o_names_codes a_o_names_sorts a_o_names_numbers a_o_extras_cells a_o_happenings_cells a_o_watchers_cells a_o_weeks_cells 1 2 1 0 0 o_streets_corners o_streets_roads_many o_streets_takes o_streets_hours o_names_many o_extras_many o_happenings_many o_watchers_many o_weeks_many) H := hP
  have hD : va_D A (wd_X0_clear E a_o a_o_streets a_o_names a_o_extras a_o_happenings a_o_watchers a_o_weeks a_o_streets_roads a_o_streets_takes a_o_streets_hours a_o_streets_roads_cells a_o_names_codes a_o_names_sorts a_o_names_numbers a_o_extras_cells a_o_happenings_cells a_o_watchers_cells a_o_weeks_cells 1 2 1 0 0 o_streets_corners o_streets_roads_many o_streets_takes o_streets_hours o_names_many o_extras_many o_happenings_many o_watchers_many o_weeks_many) := hD
  refine lv_aload_n hx hb dX0_clear_25 rfl (lv_at hl 0 rfl) ?_
  refine va_get (D := E.1) (ci := 0) (v := .ref a_o_streets) (C := RX0) (T := TX0) (N := 11) hx hb hts inX0 hown hK hP 0 rfl rfl 5 (by decide) (hts _ fl_X0_12) (fun _ h9 => h9) rfl dX0_clear_26 ?_
  obtain ⟨u29, hu29, hf⟩ := bd hf
  refine callVV (wn := (wd_X0_clear E a_o a_o_streets a_o_names a_o_extras a_o_happenings a_o_watchers a_o_weeks a_o_streets_roads a_o_streets_takes a_o_streets_hours a_o_streets_roads_cells a_o_names_codes a_o_names_sorts a_o_names_numbers a_o_extras_cells a_o_happenings_cells a_o_watchers_cells a_o_weeks_cells 1 2 1 0 0 u29.1 u29.2.1 u29.2.2.1 u29.2.2.2 o_names_many o_extras_many o_happenings_many o_watchers_many o_weeks_many)) (n1 := 10) (ct_X6_clear l E F a_o_streets a_o_streets_roads a_o_streets_takes a_o_streets_hours a_o_streets_roads_cells o_streets_corners o_streets_roads_many o_streets_takes o_streets_hours u29 hu29) [1, 2, 3, 4] cal_X6_clear cav_X6_clear lk_X0_65 cx hP hD hS hl dX0_clear_29 rfl rfl rfl rfl (Nat.le_of_ble_eq_true rfl) ⟨Nat.le_of_ble_eq_true rfl, Nat.le_of_ble_eq_true rfl⟩ rfl (by decide +kernel) rfl [none, some 0, some 1, some 2, some 3, none, none, none, none, none] rfl (by decide +kernel) rfl (fun H locs hP hD hS => ?_)
  refine lv_aload_n hx hb dX0_clear_32 rfl (lv_at hl 0 rfl) ?_
  refine va_get (D := E.1) (ci := 0) (v := .ref a_o_names) (C := RX0) (T := TX0) (N := 11) hx hb hts inX0 hown hK hP 0 rfl rfl 6 (by decide) (hts _ fl_X0_21) (fun _ h9 => h9) rfl dX0_clear_33 ?_
  obtain ⟨u36, hu36, hf⟩ := bd hf
  refine callVV (wn := (wd_X0_clear E a_o a_o_streets a_o_names a_o_extras a_o_happenings a_o_watchers a_o_weeks a_o_streets_roads a_o_streets_takes a_o_streets_hours a_o_streets_roads_cells a_o_names_codes a_o_names_sorts a_o_names_numbers a_o_extras_cells a_o_happenings_cells a_o_watchers_cells a_o_weeks_cells 1 2 1 0 0 u29.1 u29.2.1 u29.2.2.1 u29.2.2.2 u36 o_extras_many o_happenings_many o_watchers_many o_weeks_many)) (n1 := 10) (ct_X3_clear l E a_o_names a_o_names_codes a_o_names_sorts a_o_names_numbers o_names_many u36 hu36) [5] cal_X3_clear cav_X3_clear lk_X0_66 cx hP hD hS hl dX0_clear_36 rfl rfl rfl rfl (Nat.le_of_ble_eq_true rfl) ⟨Nat.le_of_ble_eq_true rfl, Nat.le_of_ble_eq_true rfl⟩ rfl (by decide +kernel) rfl [none, none, none, none, none, some 0, none, none, none, none] rfl (by decide +kernel) rfl (fun H locs hP hD hS => ?_)
  refine lv_aload_n hx hb dX0_clear_39 rfl (lv_at hl 0 rfl) ?_
  refine va_get (D := E.1) (ci := 0) (v := .ref a_o_extras) (C := RX0) (T := TX0) (N := 11) hx hb hts inX0 hown hK hP 0 rfl rfl 7 (by decide) (hts _ fl_X0_30) (fun _ h9 => h9) rfl dX0_clear_40 ?_
  refine lv_iconst (v := 0) hx hb dX0_clear_43 (by decide) ?_
  refine va_put (D := E.1) (ci := 7) (v := .int 0) (ty := .int) (C := RX7) (T := TX7) (N := 3) hx hb hts inX7 tyX7 tyX7_ok nmX7 hown hK hP hD hS 6 rfl rfl 2 (by decide) (hts _ fl_X0_67) (fun _ h9 => h9) rfl (by decide +kernel) rfl rfl (Nat.le_of_ble_eq_true rfl) dX0_clear_44 (fun H locs hP hD hS => ?_)
  have hP : va_P E.1 vwCl (wd_X0_clear E a_o a_o_streets a_o_names a_o_extras a_o_happenings a_o_watchers a_o_weeks a_o_streets_roads a_o_streets_takes a_o_streets_hours a_o_streets_roads_cells a_o_names_codes a_o_names_sorts a_o_names_numbers a_o_extras_cells a_o_happenings_cells a_o_watchers_cells a_o_weeks_cells 1 2 1 0 0 u29.1 u29.2.1 u29.2.2.1 u29.2.2.2 u36 0 o_happenings_many o_watchers_many o_weeks_many) H := hP
  have hD : va_D A (wd_X0_clear E a_o a_o_streets a_o_names a_o_extras a_o_happenings a_o_watchers a_o_weeks a_o_streets_roads a_o_streets_takes a_o_streets_hours a_o_streets_roads_cells a_o_names_codes a_o_names_sorts a_o_names_numbers a_o_extras_cells a_o_happenings_cells a_o_watchers_cells a_o_weeks_cells 1 2 1 0 0 u29.1 u29.2.1 u29.2.2.1 u29.2.2.2 u36 0 o_happenings_many o_watchers_many o_weeks_many) := hD
  refine lv_aload_n hx hb dX0_clear_47 rfl (lv_at hl 0 rfl) ?_
  refine va_get (D := E.1) (ci := 0) (v := .ref a_o_happenings) (C := RX0) (T := TX0) (N := 11) hx hb hts inX0 hown hK hP 0 rfl rfl 8 (by decide) (hts _ fl_X0_34) (fun _ h9 => h9) rfl dX0_clear_48 ?_
  refine lv_iconst (v := 0) hx hb dX0_clear_51 (by decide) ?_
  refine va_put (D := E.1) (ci := 7) (v := .int 0) (ty := .int) (C := RX7) (T := TX7) (N := 3) hx hb hts inX7 tyX7 tyX7_ok nmX7 hown hK hP hD hS 7 rfl rfl 2 (by decide) (hts _ fl_X0_67) (fun _ h9 => h9) rfl (by decide +kernel) rfl rfl (Nat.le_of_ble_eq_true rfl) dX0_clear_52 (fun H locs hP hD hS => ?_)
  have hP : va_P E.1 vwCl (wd_X0_clear E a_o a_o_streets a_o_names a_o_extras a_o_happenings a_o_watchers a_o_weeks a_o_streets_roads a_o_streets_takes a_o_streets_hours a_o_streets_roads_cells a_o_names_codes a_o_names_sorts a_o_names_numbers a_o_extras_cells a_o_happenings_cells a_o_watchers_cells a_o_weeks_cells 1 2 1 0 0 u29.1 u29.2.1 u29.2.2.1 u29.2.2.2 u36 0 0 o_watchers_many o_weeks_many) H := hP
  have hD : va_D A (wd_X0_clear E a_o a_o_streets a_o_names a_o_extras a_o_happenings a_o_watchers a_o_weeks a_o_streets_roads a_o_streets_takes a_o_streets_hours a_o_streets_roads_cells a_o_names_codes a_o_names_sorts a_o_names_numbers a_o_extras_cells a_o_happenings_cells a_o_watchers_cells a_o_weeks_cells 1 2 1 0 0 u29.1 u29.2.1 u29.2.2.1 u29.2.2.2 u36 0 0 o_watchers_many o_weeks_many) := hD
  refine lv_aload_n hx hb dX0_clear_55 rfl (lv_at hl 0 rfl) ?_
  refine va_get (D := E.1) (ci := 0) (v := .ref a_o_watchers) (C := RX0) (T := TX0) (N := 11) hx hb hts inX0 hown hK hP 0 rfl rfl 9 (by decide) (hts _ fl_X0_37) (fun _ h9 => h9) rfl dX0_clear_56 ?_
  refine lv_iconst (v := 0) hx hb dX0_clear_59 (by decide) ?_
  refine va_put (D := E.1) (ci := 7) (v := .int 0) (ty := .int) (C := RX7) (T := TX7) (N := 3) hx hb hts inX7 tyX7 tyX7_ok nmX7 hown hK hP hD hS 8 rfl rfl 2 (by decide) (hts _ fl_X0_67) (fun _ h9 => h9) rfl (by decide +kernel) rfl rfl (Nat.le_of_ble_eq_true rfl) dX0_clear_60 (fun H locs hP hD hS => ?_)
  have hP : va_P E.1 vwCl (wd_X0_clear E a_o a_o_streets a_o_names a_o_extras a_o_happenings a_o_watchers a_o_weeks a_o_streets_roads a_o_streets_takes a_o_streets_hours a_o_streets_roads_cells a_o_names_codes a_o_names_sorts a_o_names_numbers a_o_extras_cells a_o_happenings_cells a_o_watchers_cells a_o_weeks_cells 1 2 1 0 0 u29.1 u29.2.1 u29.2.2.1 u29.2.2.2 u36 0 0 0 o_weeks_many) H := hP
  have hD : va_D A (wd_X0_clear E a_o a_o_streets a_o_names a_o_extras a_o_happenings a_o_watchers a_o_weeks a_o_streets_roads a_o_streets_takes a_o_streets_hours a_o_streets_roads_cells a_o_names_codes a_o_names_sorts a_o_names_numbers a_o_extras_cells a_o_happenings_cells a_o_watchers_cells a_o_weeks_cells 1 2 1 0 0 u29.1 u29.2.1 u29.2.2.1 u29.2.2.2 u36 0 0 0 o_weeks_many) := hD
  refine lv_aload_n hx hb dX0_clear_63 rfl (lv_at hl 0 rfl) ?_
  refine va_get (D := E.1) (ci := 0) (v := .ref a_o_weeks) (C := RX0) (T := TX0) (N := 11) hx hb hts inX0 hown hK hP 0 rfl rfl 10 (by decide) (hts _ fl_X0_42) (fun _ h9 => h9) rfl dX0_clear_64 ?_
  refine lv_iconst (v := 0) hx hb dX0_clear_67 (by decide) ?_
  refine va_put (D := E.1) (ci := 7) (v := .int 0) (ty := .int) (C := RX7) (T := TX7) (N := 3) hx hb hts inX7 tyX7 tyX7_ok nmX7 hown hK hP hD hS 9 rfl rfl 2 (by decide) (hts _ fl_X0_67) (fun _ h9 => h9) rfl (by decide +kernel) rfl rfl (Nat.le_of_ble_eq_true rfl) dX0_clear_68 (fun H locs hP hD hS => ?_)
  have hP : va_P E.1 vwCl (wd_X0_clear E a_o a_o_streets a_o_names a_o_extras a_o_happenings a_o_watchers a_o_weeks a_o_streets_roads a_o_streets_takes a_o_streets_hours a_o_streets_roads_cells a_o_names_codes a_o_names_sorts a_o_names_numbers a_o_extras_cells a_o_happenings_cells a_o_watchers_cells a_o_weeks_cells 1 2 1 0 0 u29.1 u29.2.1 u29.2.2.1 u29.2.2.2 u36 0 0 0 0) H := hP
  have hD : va_D A (wd_X0_clear E a_o a_o_streets a_o_names a_o_extras a_o_happenings a_o_watchers a_o_weeks a_o_streets_roads a_o_streets_takes a_o_streets_hours a_o_streets_roads_cells a_o_names_codes a_o_names_sorts a_o_names_numbers a_o_extras_cells a_o_happenings_cells a_o_watchers_cells a_o_weeks_cells 1 2 1 0 0 u29.1 u29.2.1 u29.2.2.1 u29.2.2.2 u36 0 0 0 0) := hD
  obtain rfl := Option.some.inj hf
  subst hq
  exact retV cx hP hD hS dX0_clear_71
def X7_copyFrom (n_o_cells : Nat) (n_q1_cells : Nat) (o_many : Int32) (o_cells : Nat → Int32) (q1_many : Int32) (q1_cells : Nat → Int32) : Option (Int32 × (Nat → Int32)) :=
  if (Int32.ofNat n_q1_cells) = (Int32.ofNat n_o_cells) then
  if cpok 0 0 (Int32.ofNat n_o_cells) n_q1_cells n_o_cells then
  some (q1_many, (jcpy q1_cells o_cells 0 0 (Int32.ofNat n_o_cells)))
  else none
  else
  some (o_many, o_cells)
abbrev wd_X7_copyFrom (E : vE) (a_o a_o_cells a_q1 a_q1_cells : Nat) (n_o_cells n_q1_cells : Nat) (o_width : Int32) (o_many : Int32) (o_cells : Nat → Int32) (q1_width : Int32) (q1_many : Int32) (q1_cells : Nat → Int32) : va_W := [(a_o, .inr (7, [.int o_width, .ref a_o_cells, .int o_many])), (a_o_cells, .inl (E.2.1, n_o_cells, .inl o_cells)), (a_q1, .inr (7, [.int q1_width, .ref a_q1_cells, .int q1_many])), (a_q1_cells, .inl (E.2.1, n_q1_cells, .inl q1_cells))]
set_option maxHeartbeats 4000000 in
set_option maxRecDepth 100000 in
theorem ct_X7_copyFrom (l : Launch) (E : vE) (a_o a_o_cells a_q1 a_q1_cells : Nat) (n_o_cells n_q1_cells : Nat) (o_width : Int32) (o_many : Int32) (o_cells : Nat → Int32) (q1_width : Int32) (q1_many : Int32) (q1_cells : Nat → Int32) (u : Int32 × (Nat → Int32)) (hf : X7_copyFrom n_o_cells n_q1_cells o_many o_cells q1_many q1_cells = some u) :
    CtV l yX7_copyFrom cX7_copyFrom 2 none 1 E [.ref a_o, .ref a_q1] (wd_X7_copyFrom E a_o a_o_cells a_q1 a_q1_cells n_o_cells n_q1_cells o_width o_many o_cells q1_width q1_many q1_cells) (wd_X7_copyFrom E a_o a_o_cells a_q1 a_q1_cells n_o_cells n_q1_cells o_width u.1 u.2 q1_width q1_many q1_cells) := by
  refine ctV (by decide) (Nat.le_of_ble_eq_true rfl) ?_
  intro p e s m below meth cd A ls aa QQ hq cx hP hD hS hl
  obtain ⟨⟨hx, hb, hml, hown, hts⟩, hr, hlocks, hK, hA, hX⟩ := id cx
  have hl : lv_has ls 2 [(0, .ref a_o), (1, .ref a_q1)] := hl
  unfold X7_copyFrom at hf
  refine lv_aload_n hx hb dX7_copyFrom_0 rfl (lv_at hl 1 rfl) ?_
  refine va_get (D := E.1) (ci := 7) (v := .ref a_q1_cells) (C := RX7) (T := TX7) (N := 3) hx hb hts inX7 hown hK hP 2 rfl rfl 1 (by decide) (hts _ fl_X7_15) (fun _ h9 => h9) rfl dX7_copyFrom_1 ?_
  refine va_alen (v := (Int32.ofNat n_q1_cells)) hx hb hK hP 3 0 rfl rfl rfl dX7_copyFrom_4 ?_
  refine lv_aload_n hx hb dX7_copyFrom_5 rfl (lv_at hl 0 rfl) ?_
  refine va_get (D := E.1) (ci := 7) (v := .ref a_o_cells) (C := RX7) (T := TX7) (N := 3) hx hb hts inX7 hown hK hP 0 rfl rfl 1 (by decide) (hts _ fl_X7_15) (fun _ h9 => h9) rfl dX7_copyFrom_6 ?_
  refine va_alen (v := (Int32.ofNat n_o_cells)) hx hb hK hP 1 0 rfl rfl rfl dX7_copyFrom_9 ?_
  refine lv_icmp_ne (tgt := 39) hx hb dX7_copyFrom_10 (by decide) (fun hc => ?_) (fun hc => ?_)
  · have hf := it_f hc hf
    obtain rfl := Option.some.inj hf
    subst hq
    exact retV cx hP hD hS dX7_copyFrom_39
  · have hf := it_t hc hf
    refine lv_aload_n hx hb dX7_copyFrom_13 rfl (lv_at hl 1 rfl) ?_
    refine va_get (D := E.1) (ci := 7) (v := .ref a_q1_cells) (C := RX7) (T := TX7) (N := 3) hx hb hts inX7 hown hK hP 2 rfl rfl 1 (by decide) (hts _ fl_X7_15) (fun _ h9 => h9) rfl dX7_copyFrom_14 ?_
    refine lv_iconst (v := 0) hx hb dX7_copyFrom_17 (by decide) ?_
    refine lv_aload_n hx hb dX7_copyFrom_18 rfl (lv_at hl 0 rfl) ?_
    refine va_get (D := E.1) (ci := 7) (v := .ref a_o_cells) (C := RX7) (T := TX7) (N := 3) hx hb hts inX7 hown hK hP 0 rfl rfl 1 (by decide) (hts _ fl_X7_15) (fun _ h9 => h9) rfl dX7_copyFrom_19 ?_
    refine lv_iconst (v := 0) hx hb dX7_copyFrom_22 (by decide) ?_
    refine lv_aload_n hx hb dX7_copyFrom_23 rfl (lv_at hl 0 rfl) ?_
    refine va_get (D := E.1) (ci := 7) (v := .ref a_o_cells) (C := RX7) (T := TX7) (N := 3) hx hb hts inX7 hown hK hP 0 rfl rfl 1 (by decide) (hts _ fl_X7_15) (fun _ h9 => h9) rfl dX7_copyFrom_24 ?_
    refine va_alen (v := (Int32.ofNat n_o_cells)) hx hb hK hP 1 0 rfl rfl rfl dX7_copyFrom_27 ?_
    obtain ⟨hi, hf⟩ := ck hf
    refine r_copyi 3 1 cx hP hD hS hl rfl rfl hi lk_X7_34 acp (Nat.le_of_ble_eq_true rfl) (by decide) dX7_copyFrom_28 (fun H locs hP hD hS => ?_)
    have hP : va_P E.1 vwCl (wd_X7_copyFrom E a_o a_o_cells a_q1 a_q1_cells n_o_cells n_q1_cells o_width o_many (jcpy q1_cells o_cells 0 0 (Int32.ofNat n_o_cells)) q1_width q1_many q1_cells) H := hP
    have hD : va_D A (wd_X7_copyFrom E a_o a_o_cells a_q1 a_q1_cells n_o_cells n_q1_cells o_width o_many (jcpy q1_cells o_cells 0 0 (Int32.ofNat n_o_cells)) q1_width q1_many q1_cells) := hD
    refine lv_aload_n hx hb dX7_copyFrom_31 rfl (lv_at hl 0 rfl) ?_
    refine lv_aload_n hx hb dX7_copyFrom_32 rfl (lv_at hl 1 rfl) ?_
    refine va_get (D := E.1) (ci := 7) (v := .int q1_many) (C := RX7) (T := TX7) (N := 3) hx hb hts inX7 hown hK hP 2 rfl rfl 2 (by decide) (hts _ fl_X7_19) (fun _ h9 => h9) rfl dX7_copyFrom_33 ?_
    refine va_put (D := E.1) (ci := 7) (v := .int q1_many) (ty := .int) (C := RX7) (T := TX7) (N := 3) hx hb hts inX7 tyX7 tyX7_ok nmX7 hown hK hP hD hS 0 rfl rfl 2 (by decide) (hts _ fl_X7_19) (fun _ h9 => h9) rfl (by decide +kernel) rfl rfl (Nat.le_of_ble_eq_true rfl) dX7_copyFrom_36 (fun H locs hP hD hS => ?_)
    have hP : va_P E.1 vwCl (wd_X7_copyFrom E a_o a_o_cells a_q1 a_q1_cells n_o_cells n_q1_cells o_width q1_many (jcpy q1_cells o_cells 0 0 (Int32.ofNat n_o_cells)) q1_width q1_many q1_cells) H := hP
    have hD : va_D A (wd_X7_copyFrom E a_o a_o_cells a_q1 a_q1_cells n_o_cells n_q1_cells o_width q1_many (jcpy q1_cells o_cells 0 0 (Int32.ofNat n_o_cells)) q1_width q1_many q1_cells) := hD
    obtain rfl := Option.some.inj hf
    subst hq
    exact retV cx hP hD hS dX7_copyFrom_39
def X6_copyFrom (o_corners : Int32) (o_roads_many : Int32) (o_roads_cells : Nat → Int32) (o_takes : Nat → Int32) (o_hours : Nat → Int32) (q1_corners : Int32) (q1_roads_many : Int32) (q1_roads_cells : Nat → Int32) (q1_takes : Nat → Int32) (q1_hours : Nat → Int32) : Option (Int32 × Int32 × (Nat → Int32) × (Nat → Int32) × (Nat → Int32)) :=
  (X7_copyFrom 24 24 o_roads_many o_roads_cells q1_roads_many q1_roads_cells).bind fun u16 =>
  if cpok 0 0 64 64 64 then
  if cpok 0 0 64 64 64 then
  some (q1_corners, u16.1, u16.2, (jcpy q1_takes o_takes 0 0 64), (jcpy q1_hours o_hours 0 0 64))
  else none
  else none
abbrev wd_X6_copyFrom (E : vE) (a_o a_o_roads a_o_takes a_o_hours a_o_roads_cells a_q1 a_q1_roads a_q1_takes a_q1_hours a_q1_roads_cells : Nat) (o_corners : Int32) (o_roads_many : Int32) (o_roads_cells : Nat → Int32) (o_takes : Nat → Int32) (o_hours : Nat → Int32) (q1_corners : Int32) (q1_roads_many : Int32) (q1_roads_cells : Nat → Int32) (q1_takes : Nat → Int32) (q1_hours : Nat → Int32) : va_W := [(a_o, .inr (6, [.int o_corners, .ref a_o_roads, .ref a_o_takes, .ref a_o_hours])), (a_o_roads, .inr (7, [.int 2, .ref a_o_roads_cells, .int o_roads_many])), (a_o_roads_cells, .inl (E.2.1, 24, .inl o_roads_cells)), (a_o_takes, .inl (E.2.1, 64, .inl o_takes)), (a_o_hours, .inl (E.2.1, 64, .inl o_hours)), (a_q1, .inr (6, [.int q1_corners, .ref a_q1_roads, .ref a_q1_takes, .ref a_q1_hours])), (a_q1_roads, .inr (7, [.int 2, .ref a_q1_roads_cells, .int q1_roads_many])), (a_q1_roads_cells, .inl (E.2.1, 24, .inl q1_roads_cells)), (a_q1_takes, .inl (E.2.1, 64, .inl q1_takes)), (a_q1_hours, .inl (E.2.1, 64, .inl q1_hours))]
set_option maxHeartbeats 4000000 in
set_option maxRecDepth 100000 in
theorem ct_X6_copyFrom (l : Launch) (E : vE) (a_o a_o_roads a_o_takes a_o_hours a_o_roads_cells a_q1 a_q1_roads a_q1_takes a_q1_hours a_q1_roads_cells : Nat) (o_corners : Int32) (o_roads_many : Int32) (o_roads_cells : Nat → Int32) (o_takes : Nat → Int32) (o_hours : Nat → Int32) (q1_corners : Int32) (q1_roads_many : Int32) (q1_roads_cells : Nat → Int32) (q1_takes : Nat → Int32) (q1_hours : Nat → Int32) (u : Int32 × Int32 × (Nat → Int32) × (Nat → Int32) × (Nat → Int32)) (hf : X6_copyFrom o_corners o_roads_many o_roads_cells o_takes o_hours q1_corners q1_roads_many q1_roads_cells q1_takes q1_hours = some u) :
    CtV l yX6_copyFrom cX6_copyFrom 2 none 2 E [.ref a_o, .ref a_q1] (wd_X6_copyFrom E a_o a_o_roads a_o_takes a_o_hours a_o_roads_cells a_q1 a_q1_roads a_q1_takes a_q1_hours a_q1_roads_cells o_corners o_roads_many o_roads_cells o_takes o_hours q1_corners q1_roads_many q1_roads_cells q1_takes q1_hours) (wd_X6_copyFrom E a_o a_o_roads a_o_takes a_o_hours a_o_roads_cells a_q1 a_q1_roads a_q1_takes a_q1_hours a_q1_roads_cells u.1 u.2.1 u.2.2.1 u.2.2.2.1 u.2.2.2.2 q1_corners q1_roads_many q1_roads_cells q1_takes q1_hours) := by
  refine ctV (by decide) (Nat.le_of_ble_eq_true rfl) ?_
  intro p e s m below meth cd A ls aa QQ hq cx hP hD hS hl
  obtain ⟨⟨hx, hb, hml, hown, hts⟩, hr, hlocks, hK, hA, hX⟩ := id cx
  have hl : lv_has ls 2 [(0, .ref a_o), (1, .ref a_q1)] := hl
  unfold X6_copyFrom at hf
  refine lv_aload_n hx hb dX6_copyFrom_0 rfl (lv_at hl 0 rfl) ?_
  refine lv_aload_n hx hb dX6_copyFrom_1 rfl (lv_at hl 1 rfl) ?_
  refine va_get (D := E.1) (ci := 6) (v := .int q1_corners) (C := RX6) (T := TX6) (N := 4) hx hb hts inX6 hown hK hP 5 rfl rfl 0 (by decide) (hts _ fl_X6_27) (fun _ h9 => h9) rfl dX6_copyFrom_2 ?_
  refine va_put (D := E.1) (ci := 6) (v := .int q1_corners) (ty := .int) (C := RX6) (T := TX6) (N := 4) hx hb hts inX6 tyX6 tyX6_ok nmX6 hown hK hP hD hS 0 rfl rfl 0 (by decide) (hts _ fl_X6_27) (fun _ h9 => h9) rfl (by decide +kernel) rfl rfl (Nat.le_of_ble_eq_true rfl) dX6_copyFrom_5 (fun H locs hP hD hS => ?_)
  have hP : va_P E.1 vwCl (wd_X6_copyFrom E a_o a_o_roads a_o_takes a_o_hours a_o_roads_cells a_q1 a_q1_roads a_q1_takes a_q1_hours a_q1_roads_cells q1_corners o_roads_many o_roads_cells o_takes o_hours q1_corners q1_roads_many q1_roads_cells q1_takes q1_hours) H := hP
  have hD : va_D A (wd_X6_copyFrom E a_o a_o_roads a_o_takes a_o_hours a_o_roads_cells a_q1 a_q1_roads a_q1_takes a_q1_hours a_q1_roads_cells q1_corners o_roads_many o_roads_cells o_takes o_hours q1_corners q1_roads_many q1_roads_cells q1_takes q1_hours) := hD
  refine lv_aload_n hx hb dX6_copyFrom_8 rfl (lv_at hl 0 rfl) ?_
  refine va_get (D := E.1) (ci := 6) (v := .ref a_o_roads) (C := RX6) (T := TX6) (N := 4) hx hb hts inX6 hown hK hP 0 rfl rfl 1 (by decide) (hts _ fl_X6_16) (fun _ h9 => h9) rfl dX6_copyFrom_9 ?_
  refine lv_aload_n hx hb dX6_copyFrom_12 rfl (lv_at hl 1 rfl) ?_
  refine va_get (D := E.1) (ci := 6) (v := .ref a_q1_roads) (C := RX6) (T := TX6) (N := 4) hx hb hts inX6 hown hK hP 5 rfl rfl 1 (by decide) (hts _ fl_X6_16) (fun _ h9 => h9) rfl dX6_copyFrom_13 ?_
  obtain ⟨u16, hu16, hf⟩ := bd hf
  refine callVV (wn := (wd_X6_copyFrom E a_o a_o_roads a_o_takes a_o_hours a_o_roads_cells a_q1 a_q1_roads a_q1_takes a_q1_hours a_q1_roads_cells q1_corners u16.1 u16.2 o_takes o_hours q1_corners q1_roads_many q1_roads_cells q1_takes q1_hours)) (n1 := 10) (ct_X7_copyFrom l E a_o_roads a_o_roads_cells a_q1_roads a_q1_roads_cells 24 24 2 o_roads_many o_roads_cells 2 q1_roads_many q1_roads_cells u16 hu16) [1, 2, 6, 7] cal_X7_copyFrom cav_X7_copyFrom lk_X6_34 cx hP hD hS hl dX6_copyFrom_16 rfl rfl rfl rfl (Nat.le_of_ble_eq_true rfl) ⟨Nat.le_of_ble_eq_true rfl, Nat.le_of_ble_eq_true rfl⟩ rfl (by decide +kernel) rfl [none, some 0, some 1, none, none, none, some 2, some 3, none, none] rfl (by decide +kernel) rfl (fun H locs hP hD hS => ?_)
  refine lv_aload_n hx hb dX6_copyFrom_19 rfl (lv_at hl 1 rfl) ?_
  refine va_get (D := E.1) (ci := 6) (v := .ref a_q1_takes) (C := RX6) (T := TX6) (N := 4) hx hb hts inX6 hown hK hP 5 rfl rfl 2 (by decide) (hts _ fl_X6_20) (fun _ h9 => h9) rfl dX6_copyFrom_20 ?_
  refine lv_iconst (v := 0) hx hb dX6_copyFrom_23 (by decide) ?_
  refine lv_aload_n hx hb dX6_copyFrom_24 rfl (lv_at hl 0 rfl) ?_
  refine va_get (D := E.1) (ci := 6) (v := .ref a_o_takes) (C := RX6) (T := TX6) (N := 4) hx hb hts inX6 hown hK hP 0 rfl rfl 2 (by decide) (hts _ fl_X6_20) (fun _ h9 => h9) rfl dX6_copyFrom_25 ?_
  refine lv_iconst (v := 0) hx hb dX6_copyFrom_28 (by decide) ?_
  refine lv_aload_n hx hb dX6_copyFrom_29 rfl (lv_at hl 0 rfl) ?_
  refine va_get (D := E.1) (ci := 6) (v := .ref a_o_takes) (C := RX6) (T := TX6) (N := 4) hx hb hts inX6 hown hK hP 0 rfl rfl 2 (by decide) (hts _ fl_X6_20) (fun _ h9 => h9) rfl dX6_copyFrom_30 ?_
  refine va_alen (v := 64) hx hb hK hP 3 0 rfl rfl (show Int32.ofNat 64 = 64 from by decide) dX6_copyFrom_33 ?_
  obtain ⟨hi, hf⟩ := ck hf
  refine r_copyi 8 3 cx hP hD hS hl rfl rfl hi lk_X6_38 acp (Nat.le_of_ble_eq_true rfl) (by decide) dX6_copyFrom_34 (fun H locs hP hD hS => ?_)
  have hP : va_P E.1 vwCl (wd_X6_copyFrom E a_o a_o_roads a_o_takes a_o_hours a_o_roads_cells a_q1 a_q1_roads a_q1_takes a_q1_hours a_q1_roads_cells q1_corners u16.1 u16.2 (jcpy q1_takes o_takes 0 0 64) o_hours q1_corners q1_roads_many q1_roads_cells q1_takes q1_hours) H := hP
  have hD : va_D A (wd_X6_copyFrom E a_o a_o_roads a_o_takes a_o_hours a_o_roads_cells a_q1 a_q1_roads a_q1_takes a_q1_hours a_q1_roads_cells q1_corners u16.1 u16.2 (jcpy q1_takes o_takes 0 0 64) o_hours q1_corners q1_roads_many q1_roads_cells q1_takes q1_hours) := hD
  refine lv_aload_n hx hb dX6_copyFrom_37 rfl (lv_at hl 1 rfl) ?_
  refine va_get (D := E.1) (ci := 6) (v := .ref a_q1_hours) (C := RX6) (T := TX6) (N := 4) hx hb hts inX6 hown hK hP 5 rfl rfl 3 (by decide) (hts _ fl_X6_24) (fun _ h9 => h9) rfl dX6_copyFrom_38 ?_
  refine lv_iconst (v := 0) hx hb dX6_copyFrom_41 (by decide) ?_
  refine lv_aload_n hx hb dX6_copyFrom_42 rfl (lv_at hl 0 rfl) ?_
  refine va_get (D := E.1) (ci := 6) (v := .ref a_o_hours) (C := RX6) (T := TX6) (N := 4) hx hb hts inX6 hown hK hP 0 rfl rfl 3 (by decide) (hts _ fl_X6_24) (fun _ h9 => h9) rfl dX6_copyFrom_43 ?_
  refine lv_iconst (v := 0) hx hb dX6_copyFrom_46 (by decide) ?_
  refine lv_aload_n hx hb dX6_copyFrom_47 rfl (lv_at hl 0 rfl) ?_
  refine va_get (D := E.1) (ci := 6) (v := .ref a_o_hours) (C := RX6) (T := TX6) (N := 4) hx hb hts inX6 hown hK hP 0 rfl rfl 3 (by decide) (hts _ fl_X6_24) (fun _ h9 => h9) rfl dX6_copyFrom_48 ?_
  refine va_alen (v := 64) hx hb hK hP 4 0 rfl rfl (show Int32.ofNat 64 = 64 from by decide) dX6_copyFrom_51 ?_
  obtain ⟨hi, hf⟩ := ck hf
  refine r_copyi 9 4 cx hP hD hS hl rfl rfl hi lk_X6_38 acp (Nat.le_of_ble_eq_true rfl) (by decide) dX6_copyFrom_52 (fun H locs hP hD hS => ?_)
  have hP : va_P E.1 vwCl (wd_X6_copyFrom E a_o a_o_roads a_o_takes a_o_hours a_o_roads_cells a_q1 a_q1_roads a_q1_takes a_q1_hours a_q1_roads_cells q1_corners u16.1 u16.2 (jcpy q1_takes o_takes 0 0 64) (jcpy q1_hours o_hours 0 0 64) q1_corners q1_roads_many q1_roads_cells q1_takes q1_hours) H := hP
  have hD : va_D A (wd_X6_copyFrom E a_o a_o_roads a_o_takes a_o_hours a_o_roads_cells a_q1 a_q1_roads a_q1_takes a_q1_hours a_q1_roads_cells q1_corners u16.1 u16.2 (jcpy q1_takes o_takes 0 0 64) (jcpy q1_hours o_hours 0 0 64) q1_corners q1_roads_many q1_roads_cells q1_takes q1_hours) := hD
  obtain rfl := Option.some.inj hf
  subst hq
  exact retV cx hP hD hS dX6_copyFrom_55
def X3_copyFrom (o_many : Int32) (o_codes : Nat → Int64) (o_sorts : Nat → Int32) (o_numbers : Nat → Int32) (q1_many : Int32) (q1_codes : Nat → Int64) (q1_sorts : Nat → Int32) (q1_numbers : Nat → Int32) : Option (Int32 × (Nat → Int64) × (Nat → Int32) × (Nat → Int32)) :=
  if cpok 0 0 27 27 27 then
  if cpok 0 0 27 27 27 then
  if cpok 0 0 27 27 27 then
  some (q1_many, (jcpyL q1_codes o_codes 0 0 27), (jcpy q1_sorts o_sorts 0 0 27), (jcpy q1_numbers o_numbers 0 0 27))
  else none
  else none
  else none
abbrev wd_X3_copyFrom (E : vE) (a_o a_o_codes a_o_sorts a_o_numbers a_q1 a_q1_codes a_q1_sorts a_q1_numbers : Nat) (o_many : Int32) (o_codes : Nat → Int64) (o_sorts : Nat → Int32) (o_numbers : Nat → Int32) (q1_many : Int32) (q1_codes : Nat → Int64) (q1_sorts : Nat → Int32) (q1_numbers : Nat → Int32) : va_W := [(a_o, .inr (3, [.ref a_o_codes, .ref a_o_sorts, .ref a_o_numbers, .int o_many])), (a_o_codes, .inl (E.2.2.1, 27, .inr (.inl o_codes))), (a_o_sorts, .inl (E.2.1, 27, .inl o_sorts)), (a_o_numbers, .inl (E.2.1, 27, .inl o_numbers)), (a_q1, .inr (3, [.ref a_q1_codes, .ref a_q1_sorts, .ref a_q1_numbers, .int q1_many])), (a_q1_codes, .inl (E.2.2.1, 27, .inr (.inl q1_codes))), (a_q1_sorts, .inl (E.2.1, 27, .inl q1_sorts)), (a_q1_numbers, .inl (E.2.1, 27, .inl q1_numbers))]
set_option maxHeartbeats 4000000 in
set_option maxRecDepth 100000 in
theorem ct_X3_copyFrom (l : Launch) (E : vE) (a_o a_o_codes a_o_sorts a_o_numbers a_q1 a_q1_codes a_q1_sorts a_q1_numbers : Nat) (o_many : Int32) (o_codes : Nat → Int64) (o_sorts : Nat → Int32) (o_numbers : Nat → Int32) (q1_many : Int32) (q1_codes : Nat → Int64) (q1_sorts : Nat → Int32) (q1_numbers : Nat → Int32) (u : Int32 × (Nat → Int64) × (Nat → Int32) × (Nat → Int32)) (hf : X3_copyFrom o_many o_codes o_sorts o_numbers q1_many q1_codes q1_sorts q1_numbers = some u) :
    CtV l yX3_copyFrom cX3_copyFrom 2 none 1 E [.ref a_o, .ref a_q1] (wd_X3_copyFrom E a_o a_o_codes a_o_sorts a_o_numbers a_q1 a_q1_codes a_q1_sorts a_q1_numbers o_many o_codes o_sorts o_numbers q1_many q1_codes q1_sorts q1_numbers) (wd_X3_copyFrom E a_o a_o_codes a_o_sorts a_o_numbers a_q1 a_q1_codes a_q1_sorts a_q1_numbers u.1 u.2.1 u.2.2.1 u.2.2.2 q1_many q1_codes q1_sorts q1_numbers) := by
  refine ctV (by decide) (Nat.le_of_ble_eq_true rfl) ?_
  intro p e s m below meth cd A ls aa QQ hq cx hP hD hS hl
  obtain ⟨⟨hx, hb, hml, hown, hts⟩, hr, hlocks, hK, hA, hX⟩ := id cx
  have hl : lv_has ls 2 [(0, .ref a_o), (1, .ref a_q1)] := hl
  unfold X3_copyFrom at hf
  refine lv_aload_n hx hb dX3_copyFrom_0 rfl (lv_at hl 1 rfl) ?_
  refine va_get (D := E.1) (ci := 3) (v := .ref a_q1_codes) (C := RX3) (T := TX3) (N := 4) hx hb hts inX3 hown hK hP 4 rfl rfl 0 (by decide) (hts _ fl_X3_11) (fun _ h9 => h9) rfl dX3_copyFrom_1 ?_
  refine lv_iconst (v := 0) hx hb dX3_copyFrom_4 (by decide) ?_
  refine lv_aload_n hx hb dX3_copyFrom_5 rfl (lv_at hl 0 rfl) ?_
  refine va_get (D := E.1) (ci := 3) (v := .ref a_o_codes) (C := RX3) (T := TX3) (N := 4) hx hb hts inX3 hown hK hP 0 rfl rfl 0 (by decide) (hts _ fl_X3_11) (fun _ h9 => h9) rfl dX3_copyFrom_6 ?_
  refine lv_iconst (v := 0) hx hb dX3_copyFrom_9 (by decide) ?_
  refine lv_bipush (v := 27) hx hb dX3_copyFrom_10 (by decide) ?_
  obtain ⟨hi, hf⟩ := ck hf
  refine r_copyl 5 1 cx hP hD hS hl rfl rfl hi lk_X3_26 acp (Nat.le_of_ble_eq_true rfl) (by decide) dX3_copyFrom_12 (fun H locs hP hD hS => ?_)
  have hP : va_P E.1 vwCl (wd_X3_copyFrom E a_o a_o_codes a_o_sorts a_o_numbers a_q1 a_q1_codes a_q1_sorts a_q1_numbers o_many (jcpyL q1_codes o_codes 0 0 27) o_sorts o_numbers q1_many q1_codes q1_sorts q1_numbers) H := hP
  have hD : va_D A (wd_X3_copyFrom E a_o a_o_codes a_o_sorts a_o_numbers a_q1 a_q1_codes a_q1_sorts a_q1_numbers o_many (jcpyL q1_codes o_codes 0 0 27) o_sorts o_numbers q1_many q1_codes q1_sorts q1_numbers) := hD
  refine lv_aload_n hx hb dX3_copyFrom_15 rfl (lv_at hl 1 rfl) ?_
  refine va_get (D := E.1) (ci := 3) (v := .ref a_q1_sorts) (C := RX3) (T := TX3) (N := 4) hx hb hts inX3 hown hK hP 4 rfl rfl 1 (by decide) (hts _ fl_X3_15) (fun _ h9 => h9) rfl dX3_copyFrom_16 ?_
  refine lv_iconst (v := 0) hx hb dX3_copyFrom_19 (by decide) ?_
  refine lv_aload_n hx hb dX3_copyFrom_20 rfl (lv_at hl 0 rfl) ?_
  refine va_get (D := E.1) (ci := 3) (v := .ref a_o_sorts) (C := RX3) (T := TX3) (N := 4) hx hb hts inX3 hown hK hP 0 rfl rfl 1 (by decide) (hts _ fl_X3_15) (fun _ h9 => h9) rfl dX3_copyFrom_21 ?_
  refine lv_iconst (v := 0) hx hb dX3_copyFrom_24 (by decide) ?_
  refine lv_bipush (v := 27) hx hb dX3_copyFrom_25 (by decide) ?_
  obtain ⟨hi, hf⟩ := ck hf
  refine r_copyi 6 2 cx hP hD hS hl rfl rfl hi lk_X3_26 acp (Nat.le_of_ble_eq_true rfl) (by decide) dX3_copyFrom_27 (fun H locs hP hD hS => ?_)
  have hP : va_P E.1 vwCl (wd_X3_copyFrom E a_o a_o_codes a_o_sorts a_o_numbers a_q1 a_q1_codes a_q1_sorts a_q1_numbers o_many (jcpyL q1_codes o_codes 0 0 27) (jcpy q1_sorts o_sorts 0 0 27) o_numbers q1_many q1_codes q1_sorts q1_numbers) H := hP
  have hD : va_D A (wd_X3_copyFrom E a_o a_o_codes a_o_sorts a_o_numbers a_q1 a_q1_codes a_q1_sorts a_q1_numbers o_many (jcpyL q1_codes o_codes 0 0 27) (jcpy q1_sorts o_sorts 0 0 27) o_numbers q1_many q1_codes q1_sorts q1_numbers) := hD
  refine lv_aload_n hx hb dX3_copyFrom_30 rfl (lv_at hl 1 rfl) ?_
  refine va_get (D := E.1) (ci := 3) (v := .ref a_q1_numbers) (C := RX3) (T := TX3) (N := 4) hx hb hts inX3 hown hK hP 4 rfl rfl 2 (by decide) (hts _ fl_X3_19) (fun _ h9 => h9) rfl dX3_copyFrom_31 ?_
  refine lv_iconst (v := 0) hx hb dX3_copyFrom_34 (by decide) ?_
  refine lv_aload_n hx hb dX3_copyFrom_35 rfl (lv_at hl 0 rfl) ?_
  refine va_get (D := E.1) (ci := 3) (v := .ref a_o_numbers) (C := RX3) (T := TX3) (N := 4) hx hb hts inX3 hown hK hP 0 rfl rfl 2 (by decide) (hts _ fl_X3_19) (fun _ h9 => h9) rfl dX3_copyFrom_36 ?_
  refine lv_iconst (v := 0) hx hb dX3_copyFrom_39 (by decide) ?_
  refine lv_bipush (v := 27) hx hb dX3_copyFrom_40 (by decide) ?_
  obtain ⟨hi, hf⟩ := ck hf
  refine r_copyi 7 3 cx hP hD hS hl rfl rfl hi lk_X3_26 acp (Nat.le_of_ble_eq_true rfl) (by decide) dX3_copyFrom_42 (fun H locs hP hD hS => ?_)
  have hP : va_P E.1 vwCl (wd_X3_copyFrom E a_o a_o_codes a_o_sorts a_o_numbers a_q1 a_q1_codes a_q1_sorts a_q1_numbers o_many (jcpyL q1_codes o_codes 0 0 27) (jcpy q1_sorts o_sorts 0 0 27) (jcpy q1_numbers o_numbers 0 0 27) q1_many q1_codes q1_sorts q1_numbers) H := hP
  have hD : va_D A (wd_X3_copyFrom E a_o a_o_codes a_o_sorts a_o_numbers a_q1 a_q1_codes a_q1_sorts a_q1_numbers o_many (jcpyL q1_codes o_codes 0 0 27) (jcpy q1_sorts o_sorts 0 0 27) (jcpy q1_numbers o_numbers 0 0 27) q1_many q1_codes q1_sorts q1_numbers) := hD
  refine lv_aload_n hx hb dX3_copyFrom_45 rfl (lv_at hl 0 rfl) ?_
  refine lv_aload_n hx hb dX3_copyFrom_46 rfl (lv_at hl 1 rfl) ?_
  refine va_get (D := E.1) (ci := 3) (v := .int q1_many) (C := RX3) (T := TX3) (N := 4) hx hb hts inX3 hown hK hP 4 rfl rfl 3 (by decide) (hts _ fl_X3_22) (fun _ h9 => h9) rfl dX3_copyFrom_47 ?_
  refine va_put (D := E.1) (ci := 3) (v := .int q1_many) (ty := .int) (C := RX3) (T := TX3) (N := 4) hx hb hts inX3 tyX3 tyX3_ok nmX3 hown hK hP hD hS 0 rfl rfl 3 (by decide) (hts _ fl_X3_22) (fun _ h9 => h9) rfl (by decide +kernel) rfl rfl (Nat.le_of_ble_eq_true rfl) dX3_copyFrom_50 (fun H locs hP hD hS => ?_)
  have hP : va_P E.1 vwCl (wd_X3_copyFrom E a_o a_o_codes a_o_sorts a_o_numbers a_q1 a_q1_codes a_q1_sorts a_q1_numbers q1_many (jcpyL q1_codes o_codes 0 0 27) (jcpy q1_sorts o_sorts 0 0 27) (jcpy q1_numbers o_numbers 0 0 27) q1_many q1_codes q1_sorts q1_numbers) H := hP
  have hD : va_D A (wd_X3_copyFrom E a_o a_o_codes a_o_sorts a_o_numbers a_q1 a_q1_codes a_q1_sorts a_q1_numbers q1_many (jcpyL q1_codes o_codes 0 0 27) (jcpy q1_sorts o_sorts 0 0 27) (jcpy q1_numbers o_numbers 0 0 27) q1_many q1_codes q1_sorts q1_numbers) := hD
  obtain rfl := Option.some.inj hf
  subst hq
  exact retV cx hP hD hS dX3_copyFrom_53
def X0_copyFrom (o_wage : Int32) (o_delay : Int32) (o_odds : Int32) (o_clock : Int32) (o_hasWeeks : Int32) (o_streets_corners : Int32) (o_streets_roads_many : Int32) (o_streets_roads_cells : Nat → Int32) (o_streets_takes : Nat → Int32) (o_streets_hours : Nat → Int32) (o_names_many : Int32) (o_names_codes : Nat → Int64) (o_names_sorts : Nat → Int32) (o_names_numbers : Nat → Int32) (o_extras_many : Int32) (o_extras_cells : Nat → Int32) (o_happenings_many : Int32) (o_happenings_cells : Nat → Int32) (o_watchers_many : Int32) (o_watchers_cells : Nat → Int32) (o_weeks_many : Int32) (o_weeks_cells : Nat → Int32) (q1_wage : Int32) (q1_delay : Int32) (q1_odds : Int32) (q1_clock : Int32) (q1_hasWeeks : Int32) (q1_streets_corners : Int32) (q1_streets_roads_many : Int32) (q1_streets_roads_cells : Nat → Int32) (q1_streets_takes : Nat → Int32) (q1_streets_hours : Nat → Int32) (q1_names_many : Int32) (q1_names_codes : Nat → Int64) (q1_names_sorts : Nat → Int32) (q1_names_numbers : Nat → Int32) (q1_extras_many : Int32) (q1_extras_cells : Nat → Int32) (q1_happenings_many : Int32) (q1_happenings_cells : Nat → Int32) (q1_watchers_many : Int32) (q1_watchers_cells : Nat → Int32) (q1_weeks_many : Int32) (q1_weeks_cells : Nat → Int32) : Option (vS) :=
  if isZ q1_hasWeeks then (X6_copyFrom o_streets_corners o_streets_roads_many o_streets_roads_cells o_streets_takes o_streets_hours q1_streets_corners q1_streets_roads_many q1_streets_roads_cells q1_streets_takes q1_streets_hours).bind fun u48 =>
  (X3_copyFrom o_names_many o_names_codes o_names_sorts o_names_numbers q1_names_many q1_names_codes q1_names_sorts q1_names_numbers).bind fun u59 =>
  (X7_copyFrom 35 35 o_extras_many o_extras_cells q1_extras_many q1_extras_cells).bind fun u70 =>
  (X7_copyFrom 40 40 o_happenings_many o_happenings_cells q1_happenings_many q1_happenings_cells).bind fun u81 =>
  (X7_copyFrom 12 12 o_watchers_many o_watchers_cells q1_watchers_many q1_watchers_cells).bind fun u92 =>
  (X7_copyFrom 180 180 o_weeks_many o_weeks_cells q1_weeks_many q1_weeks_cells).bind fun u103 =>
  some (mkS [q1_wage, q1_delay, q1_odds, q1_clock, q1_hasWeeks, u48.1, u48.2.1, u59.1, u70.1, u81.1, u92.1, u103.1] [] [u48.2.2.1, u48.2.2.2.1, u48.2.2.2.2, u59.2.2.1, u59.2.2.2, u70.2, u81.2, u92.2, u103.2] [u59.2.1]) else none
abbrev wd_X0_copyFrom (E : vE) (a_o a_o_streets a_o_names a_o_extras a_o_happenings a_o_watchers a_o_weeks a_o_streets_roads a_o_streets_takes a_o_streets_hours a_o_streets_roads_cells a_o_names_codes a_o_names_sorts a_o_names_numbers a_o_extras_cells a_o_happenings_cells a_o_watchers_cells a_o_weeks_cells a_q1 a_q1_streets a_q1_names a_q1_extras a_q1_happenings a_q1_watchers a_q1_weeks a_q1_streets_roads a_q1_streets_takes a_q1_streets_hours a_q1_streets_roads_cells a_q1_names_codes a_q1_names_sorts a_q1_names_numbers a_q1_extras_cells a_q1_happenings_cells a_q1_watchers_cells a_q1_weeks_cells : Nat) (o_wage : Int32) (o_delay : Int32) (o_odds : Int32) (o_clock : Int32) (o_hasWeeks : Int32) (o_streets_corners : Int32) (o_streets_roads_many : Int32) (o_streets_roads_cells : Nat → Int32) (o_streets_takes : Nat → Int32) (o_streets_hours : Nat → Int32) (o_names_many : Int32) (o_names_codes : Nat → Int64) (o_names_sorts : Nat → Int32) (o_names_numbers : Nat → Int32) (o_extras_many : Int32) (o_extras_cells : Nat → Int32) (o_happenings_many : Int32) (o_happenings_cells : Nat → Int32) (o_watchers_many : Int32) (o_watchers_cells : Nat → Int32) (o_weeks_many : Int32) (o_weeks_cells : Nat → Int32) (q1_wage : Int32) (q1_delay : Int32) (q1_odds : Int32) (q1_clock : Int32) (q1_hasWeeks : Int32) (q1_streets_corners : Int32) (q1_streets_roads_many : Int32) (q1_streets_roads_cells : Nat → Int32) (q1_streets_takes : Nat → Int32) (q1_streets_hours : Nat → Int32) (q1_names_many : Int32) (q1_names_codes : Nat → Int64) (q1_names_sorts : Nat → Int32) (q1_names_numbers : Nat → Int32) (q1_extras_many : Int32) (q1_extras_cells : Nat → Int32) (q1_happenings_many : Int32) (q1_happenings_cells : Nat → Int32) (q1_watchers_many : Int32) (q1_watchers_cells : Nat → Int32) (q1_weeks_many : Int32) (q1_weeks_cells : Nat → Int32) : va_W := [(a_o, .inr (0, [.int o_wage, .int o_delay, .int o_odds, .int o_clock, .int o_hasWeeks, .ref a_o_streets, .ref a_o_names, .ref a_o_extras, .ref a_o_happenings, .ref a_o_watchers, .ref a_o_weeks])), (a_o_streets, .inr (6, [.int o_streets_corners, .ref a_o_streets_roads, .ref a_o_streets_takes, .ref a_o_streets_hours])), (a_o_streets_roads, .inr (7, [.int 2, .ref a_o_streets_roads_cells, .int o_streets_roads_many])), (a_o_streets_roads_cells, .inl (E.2.1, 24, .inl o_streets_roads_cells)), (a_o_streets_takes, .inl (E.2.1, 64, .inl o_streets_takes)), (a_o_streets_hours, .inl (E.2.1, 64, .inl o_streets_hours)), (a_o_names, .inr (3, [.ref a_o_names_codes, .ref a_o_names_sorts, .ref a_o_names_numbers, .int o_names_many])), (a_o_names_codes, .inl (E.2.2.1, 27, .inr (.inl o_names_codes))), (a_o_names_sorts, .inl (E.2.1, 27, .inl o_names_sorts)), (a_o_names_numbers, .inl (E.2.1, 27, .inl o_names_numbers)), (a_o_extras, .inr (7, [.int 5, .ref a_o_extras_cells, .int o_extras_many])), (a_o_extras_cells, .inl (E.2.1, 35, .inl o_extras_cells)), (a_o_happenings, .inr (7, [.int 5, .ref a_o_happenings_cells, .int o_happenings_many])), (a_o_happenings_cells, .inl (E.2.1, 40, .inl o_happenings_cells)), (a_o_watchers, .inr (7, [.int 3, .ref a_o_watchers_cells, .int o_watchers_many])), (a_o_watchers_cells, .inl (E.2.1, 12, .inl o_watchers_cells)), (a_o_weeks, .inr (7, [.int 6, .ref a_o_weeks_cells, .int o_weeks_many])), (a_o_weeks_cells, .inl (E.2.1, 180, .inl o_weeks_cells)), (a_q1, .inr (0, [.int q1_wage, .int q1_delay, .int q1_odds, .int q1_clock, .int q1_hasWeeks, .ref a_q1_streets, .ref a_q1_names, .ref a_q1_extras, .ref a_q1_happenings, .ref a_q1_watchers, .ref a_q1_weeks])), (a_q1_streets, .inr (6, [.int q1_streets_corners, .ref a_q1_streets_roads, .ref a_q1_streets_takes, .ref a_q1_streets_hours])), (a_q1_streets_roads, .inr (7, [.int 2, .ref a_q1_streets_roads_cells, .int q1_streets_roads_many])), (a_q1_streets_roads_cells, .inl (E.2.1, 24, .inl q1_streets_roads_cells)), (a_q1_streets_takes, .inl (E.2.1, 64, .inl q1_streets_takes)), (a_q1_streets_hours, .inl (E.2.1, 64, .inl q1_streets_hours)), (a_q1_names, .inr (3, [.ref a_q1_names_codes, .ref a_q1_names_sorts, .ref a_q1_names_numbers, .int q1_names_many])), (a_q1_names_codes, .inl (E.2.2.1, 27, .inr (.inl q1_names_codes))), (a_q1_names_sorts, .inl (E.2.1, 27, .inl q1_names_sorts)), (a_q1_names_numbers, .inl (E.2.1, 27, .inl q1_names_numbers)), (a_q1_extras, .inr (7, [.int 5, .ref a_q1_extras_cells, .int q1_extras_many])), (a_q1_extras_cells, .inl (E.2.1, 35, .inl q1_extras_cells)), (a_q1_happenings, .inr (7, [.int 5, .ref a_q1_happenings_cells, .int q1_happenings_many])), (a_q1_happenings_cells, .inl (E.2.1, 40, .inl q1_happenings_cells)), (a_q1_watchers, .inr (7, [.int 3, .ref a_q1_watchers_cells, .int q1_watchers_many])), (a_q1_watchers_cells, .inl (E.2.1, 12, .inl q1_watchers_cells)), (a_q1_weeks, .inr (7, [.int 6, .ref a_q1_weeks_cells, .int q1_weeks_many])), (a_q1_weeks_cells, .inl (E.2.1, 180, .inl q1_weeks_cells))]
set_option maxHeartbeats 4000000 in
set_option maxRecDepth 100000 in
theorem ct_X0_copyFrom (l : Launch) (E : vE) (a_o a_o_streets a_o_names a_o_extras a_o_happenings a_o_watchers a_o_weeks a_o_streets_roads a_o_streets_takes a_o_streets_hours a_o_streets_roads_cells a_o_names_codes a_o_names_sorts a_o_names_numbers a_o_extras_cells a_o_happenings_cells a_o_watchers_cells a_o_weeks_cells a_q1 a_q1_streets a_q1_names a_q1_extras a_q1_happenings a_q1_watchers a_q1_weeks a_q1_streets_roads a_q1_streets_takes a_q1_streets_hours a_q1_streets_roads_cells a_q1_names_codes a_q1_names_sorts a_q1_names_numbers a_q1_extras_cells a_q1_happenings_cells a_q1_watchers_cells a_q1_weeks_cells : Nat) (o_wage : Int32) (o_delay : Int32) (o_odds : Int32) (o_clock : Int32) (o_hasWeeks : Int32) (o_streets_corners : Int32) (o_streets_roads_many : Int32) (o_streets_roads_cells : Nat → Int32) (o_streets_takes : Nat → Int32) (o_streets_hours : Nat → Int32) (o_names_many : Int32) (o_names_codes : Nat → Int64) (o_names_sorts : Nat → Int32) (o_names_numbers : Nat → Int32) (o_extras_many : Int32) (o_extras_cells : Nat → Int32) (o_happenings_many : Int32) (o_happenings_cells : Nat → Int32) (o_watchers_many : Int32) (o_watchers_cells : Nat → Int32) (o_weeks_many : Int32) (o_weeks_cells : Nat → Int32) (q1_wage : Int32) (q1_delay : Int32) (q1_odds : Int32) (q1_clock : Int32) (q1_hasWeeks : Int32) (q1_streets_corners : Int32) (q1_streets_roads_many : Int32) (q1_streets_roads_cells : Nat → Int32) (q1_streets_takes : Nat → Int32) (q1_streets_hours : Nat → Int32) (q1_names_many : Int32) (q1_names_codes : Nat → Int64) (q1_names_sorts : Nat → Int32) (q1_names_numbers : Nat → Int32) (q1_extras_many : Int32) (q1_extras_cells : Nat → Int32) (q1_happenings_many : Int32) (q1_happenings_cells : Nat → Int32) (q1_watchers_many : Int32) (q1_watchers_cells : Nat → Int32) (q1_weeks_many : Int32) (q1_weeks_cells : Nat → Int32) (u : vS) (hf : X0_copyFrom o_wage o_delay o_odds o_clock o_hasWeeks o_streets_corners o_streets_roads_many o_streets_roads_cells o_streets_takes o_streets_hours o_names_many o_names_codes o_names_sorts o_names_numbers o_extras_many o_extras_cells o_happenings_many o_happenings_cells o_watchers_many o_watchers_cells o_weeks_many o_weeks_cells q1_wage q1_delay q1_odds q1_clock q1_hasWeeks q1_streets_corners q1_streets_roads_many q1_streets_roads_cells q1_streets_takes q1_streets_hours q1_names_many q1_names_codes q1_names_sorts q1_names_numbers q1_extras_many q1_extras_cells q1_happenings_many q1_happenings_cells q1_watchers_many q1_watchers_cells q1_weeks_many q1_weeks_cells = some u) :
    CtV l yX0_copyFrom cX0_copyFrom 2 none 3 E [.ref a_o, .ref a_q1] (wd_X0_copyFrom E a_o a_o_streets a_o_names a_o_extras a_o_happenings a_o_watchers a_o_weeks a_o_streets_roads a_o_streets_takes a_o_streets_hours a_o_streets_roads_cells a_o_names_codes a_o_names_sorts a_o_names_numbers a_o_extras_cells a_o_happenings_cells a_o_watchers_cells a_o_weeks_cells a_q1 a_q1_streets a_q1_names a_q1_extras a_q1_happenings a_q1_watchers a_q1_weeks a_q1_streets_roads a_q1_streets_takes a_q1_streets_hours a_q1_streets_roads_cells a_q1_names_codes a_q1_names_sorts a_q1_names_numbers a_q1_extras_cells a_q1_happenings_cells a_q1_watchers_cells a_q1_weeks_cells o_wage o_delay o_odds o_clock o_hasWeeks o_streets_corners o_streets_roads_many o_streets_roads_cells o_streets_takes o_streets_hours o_names_many o_names_codes o_names_sorts o_names_numbers o_extras_many o_extras_cells o_happenings_many o_happenings_cells o_watchers_many o_watchers_cells o_weeks_many o_weeks_cells q1_wage q1_delay q1_odds q1_clock q1_hasWeeks q1_streets_corners q1_streets_roads_many q1_streets_roads_cells q1_streets_takes q1_streets_hours q1_names_many q1_names_codes q1_names_sorts q1_names_numbers q1_extras_many q1_extras_cells q1_happenings_many q1_happenings_cells q1_watchers_many q1_watchers_cells q1_weeks_many q1_weeks_cells) (wd_X0_copyFrom E a_o a_o_streets a_o_names a_o_extras a_o_happenings a_o_watchers a_o_weeks a_o_streets_roads a_o_streets_takes a_o_streets_hours a_o_streets_roads_cells a_o_names_codes a_o_names_sorts a_o_names_numbers a_o_extras_cells a_o_happenings_cells a_o_watchers_cells a_o_weeks_cells a_q1 a_q1_streets a_q1_names a_q1_extras a_q1_happenings a_q1_watchers a_q1_weeks a_q1_streets_roads a_q1_streets_takes a_q1_streets_hours a_q1_streets_roads_cells a_q1_names_codes a_q1_names_sorts a_q1_names_numbers a_q1_extras_cells a_q1_happenings_cells a_q1_watchers_cells a_q1_weeks_cells (u.1 0) (u.1 1) (u.1 2) (u.1 3) (u.1 4) (u.1 5) (u.1 6) (u.2.2.1 0) (u.2.2.1 1) (u.2.2.1 2) (u.1 7) (u.2.2.2 0) (u.2.2.1 3) (u.2.2.1 4) (u.1 8) (u.2.2.1 5) (u.1 9) (u.2.2.1 6) (u.1 10) (u.2.2.1 7) (u.1 11) (u.2.2.1 8) q1_wage q1_delay q1_odds q1_clock q1_hasWeeks q1_streets_corners q1_streets_roads_many q1_streets_roads_cells q1_streets_takes q1_streets_hours q1_names_many q1_names_codes q1_names_sorts q1_names_numbers q1_extras_many q1_extras_cells q1_happenings_many q1_happenings_cells q1_watchers_many q1_watchers_cells q1_weeks_many q1_weeks_cells) := by
  refine ctV (by decide) (Nat.le_of_ble_eq_true rfl) ?_
  intro p e s m below meth cd A ls aa QQ hq cx hP hD hS hl
  obtain ⟨⟨hx, hb, hml, hown, hts⟩, hr, hlocks, hK, hA, hX⟩ := id cx
  have hl : lv_has ls 2 [(0, .ref a_o), (1, .ref a_q1)] := hl
  unfold X0_copyFrom at hf
  refine lv_aload_n hx hb dX0_copyFrom_0 rfl (lv_at hl 0 rfl) ?_
  refine lv_aload_n hx hb dX0_copyFrom_1 rfl (lv_at hl 1 rfl) ?_
  refine va_get (D := E.1) (ci := 0) (v := .int q1_wage) (C := RX0) (T := TX0) (N := 11) hx hb hts inX0 hown hK hP 18 rfl rfl 0 (by decide) (hts _ fl_X0_48) (fun _ h9 => h9) rfl dX0_copyFrom_2 ?_
  refine va_put (D := E.1) (ci := 0) (v := .int q1_wage) (ty := .int) (C := RX0) (T := TX0) (N := 11) hx hb hts inX0 tyX0 tyX0_ok nmX0 hown hK hP hD hS 0 rfl rfl 0 (by decide) (hts _ fl_X0_48) (fun _ h9 => h9) rfl (by decide +kernel) rfl rfl (Nat.le_of_ble_eq_true rfl) dX0_copyFrom_5 (fun H locs hP hD hS => ?_)
  have hP : va_P E.1 vwCl (wd_X0_copyFrom E a_o a_o_streets a_o_names a_o_extras a_o_happenings a_o_watchers a_o_weeks a_o_streets_roads a_o_streets_takes a_o_streets_hours a_o_streets_roads_cells a_o_names_codes a_o_names_sorts a_o_names_numbers a_o_extras_cells a_o_happenings_cells a_o_watchers_cells a_o_weeks_cells a_q1 a_q1_streets a_q1_names a_q1_extras a_q1_happenings a_q1_watchers a_q1_weeks a_q1_streets_roads a_q1_streets_takes a_q1_streets_hours a_q1_streets_roads_cells a_q1_names_codes a_q1_names_sorts a_q1_names_numbers a_q1_extras_cells a_q1_happenings_cells a_q1_watchers_cells a_q1_weeks_cells q1_wage o_delay o_odds o_clock o_hasWeeks o_streets_corners o_streets_roads_many o_streets_roads_cells o_streets_takes o_streets_hours o_names_many o_names_codes o_names_sorts o_names_numbers o_extras_many o_extras_cells o_happenings_many o_happenings_cells o_watchers_many o_watchers_cells o_weeks_many o_weeks_cells q1_wage q1_delay q1_odds q1_clock q1_hasWeeks q1_streets_corners q1_streets_roads_many q1_streets_roads_cells q1_streets_takes q1_streets_hours q1_names_many q1_names_codes q1_names_sorts q1_names_numbers q1_extras_many q1_extras_cells q1_happenings_many q1_happenings_cells q1_watchers_many q1_watchers_cells q1_weeks_many q1_weeks_cells) H := hP
  have hD : va_D A (wd_X0_copyFrom E a_o a_o_streets a_o_names a_o_extras a_o_happenings a_o_watchers a_o_weeks a_o_streets_roads a_o_streets_takes a_o_streets_hours a_o_streets_roads_cells a_o_names_codes a_o_names_sorts a_o_names_numbers a_o_extras_cells a_o_happenings_cells a_o_watchers_cells a_o_weeks_cells a_q1 a_q1_streets a_q1_names a_q1_extras a_q1_happenings a_q1_watchers a_q1_weeks a_q1_streets_roads a_q1_streets_takes a_q1_streets_hours a_q1_streets_roads_cells a_q1_names_codes a_q1_names_sorts a_q1_names_numbers a_q1_extras_cells a_q1_happenings_cells a_q1_watchers_cells a_q1_weeks_cells q1_wage o_delay o_odds o_clock o_hasWeeks o_streets_corners o_streets_roads_many o_streets_roads_cells o_streets_takes o_streets_hours o_names_many o_names_codes o_names_sorts o_names_numbers o_extras_many o_extras_cells o_happenings_many o_happenings_cells o_watchers_many o_watchers_cells o_weeks_many o_weeks_cells q1_wage q1_delay q1_odds q1_clock q1_hasWeeks q1_streets_corners q1_streets_roads_many q1_streets_roads_cells q1_streets_takes q1_streets_hours q1_names_many q1_names_codes q1_names_sorts q1_names_numbers q1_extras_many q1_extras_cells q1_happenings_many q1_happenings_cells q1_watchers_many q1_watchers_cells q1_weeks_many q1_weeks_cells) := hD
  refine lv_aload_n hx hb dX0_copyFrom_8 rfl (lv_at hl 0 rfl) ?_
  refine lv_aload_n hx hb dX0_copyFrom_9 rfl (lv_at hl 1 rfl) ?_
  refine va_get (D := E.1) (ci := 0) (v := .int q1_delay) (C := RX0) (T := TX0) (N := 11) hx hb hts inX0 hown hK hP 18 rfl rfl 1 (by decide) (hts _ fl_X0_52) (fun _ h9 => h9) rfl dX0_copyFrom_10 ?_
  refine va_put (D := E.1) (ci := 0) (v := .int q1_delay) (ty := .int) (C := RX0) (T := TX0) (N := 11) hx hb hts inX0 tyX0 tyX0_ok nmX0 hown hK hP hD hS 0 rfl rfl 1 (by decide) (hts _ fl_X0_52) (fun _ h9 => h9) rfl (by decide +kernel) rfl rfl (Nat.le_of_ble_eq_true rfl) dX0_copyFrom_13 (fun H locs hP hD hS => ?_)
  have hP : va_P E.1 vwCl (wd_X0_copyFrom E a_o a_o_streets a_o_names a_o_extras a_o_happenings a_o_watchers a_o_weeks a_o_streets_roads a_o_streets_takes a_o_streets_hours a_o_streets_roads_cells a_o_names_codes a_o_names_sorts a_o_names_numbers a_o_extras_cells a_o_happenings_cells a_o_watchers_cells a_o_weeks_cells a_q1 a_q1_streets a_q1_names a_q1_extras a_q1_happenings a_q1_watchers a_q1_weeks a_q1_streets_roads a_q1_streets_takes a_q1_streets_hours a_q1_streets_roads_cells a_q1_names_codes a_q1_names_sorts a_q1_names_numbers a_q1_extras_cells a_q1_happenings_cells a_q1_watchers_cells a_q1_weeks_cells q1_wage q1_delay o_odds o_clock o_hasWeeks o_streets_corners o_streets_roads_many o_streets_roads_cells o_streets_takes o_streets_hours o_names_many o_names_codes o_names_sorts o_names_numbers o_extras_many o_extras_cells o_happenings_many o_happenings_cells o_watchers_many o_watchers_cells o_weeks_many o_weeks_cells q1_wage q1_delay q1_odds q1_clock q1_hasWeeks q1_streets_corners q1_streets_roads_many q1_streets_roads_cells q1_streets_takes q1_streets_hours q1_names_many q1_names_codes q1_names_sorts q1_names_numbers q1_extras_many q1_extras_cells q1_happenings_many q1_happenings_cells q1_watchers_many q1_watchers_cells q1_weeks_many q1_weeks_cells) H := hP
  have hD : va_D A (wd_X0_copyFrom E a_o a_o_streets a_o_names a_o_extras a_o_happenings a_o_watchers a_o_weeks a_o_streets_roads a_o_streets_takes a_o_streets_hours a_o_streets_roads_cells a_o_names_codes a_o_names_sorts a_o_names_numbers a_o_extras_cells a_o_happenings_cells a_o_watchers_cells a_o_weeks_cells a_q1 a_q1_streets a_q1_names a_q1_extras a_q1_happenings a_q1_watchers a_q1_weeks a_q1_streets_roads a_q1_streets_takes a_q1_streets_hours a_q1_streets_roads_cells a_q1_names_codes a_q1_names_sorts a_q1_names_numbers a_q1_extras_cells a_q1_happenings_cells a_q1_watchers_cells a_q1_weeks_cells q1_wage q1_delay o_odds o_clock o_hasWeeks o_streets_corners o_streets_roads_many o_streets_roads_cells o_streets_takes o_streets_hours o_names_many o_names_codes o_names_sorts o_names_numbers o_extras_many o_extras_cells o_happenings_many o_happenings_cells o_watchers_many o_watchers_cells o_weeks_many o_weeks_cells q1_wage q1_delay q1_odds q1_clock q1_hasWeeks q1_streets_corners q1_streets_roads_many q1_streets_roads_cells q1_streets_takes q1_streets_hours q1_names_many q1_names_codes q1_names_sorts q1_names_numbers q1_extras_many q1_extras_cells q1_happenings_many q1_happenings_cells q1_watchers_many q1_watchers_cells q1_weeks_many q1_weeks_cells) := hD
  refine lv_aload_n hx hb dX0_copyFrom_16 rfl (lv_at hl 0 rfl) ?_
  refine lv_aload_n hx hb dX0_copyFrom_17 rfl (lv_at hl 1 rfl) ?_
  refine va_get (D := E.1) (ci := 0) (v := .int q1_odds) (C := RX0) (T := TX0) (N := 11) hx hb hts inX0 hown hK hP 18 rfl rfl 2 (by decide) (hts _ fl_X0_55) (fun _ h9 => h9) rfl dX0_copyFrom_18 ?_
  refine va_put (D := E.1) (ci := 0) (v := .int q1_odds) (ty := .int) (C := RX0) (T := TX0) (N := 11) hx hb hts inX0 tyX0 tyX0_ok nmX0 hown hK hP hD hS 0 rfl rfl 2 (by decide) (hts _ fl_X0_55) (fun _ h9 => h9) rfl (by decide +kernel) rfl rfl (Nat.le_of_ble_eq_true rfl) dX0_copyFrom_21 (fun H locs hP hD hS => ?_)
  have hP : va_P E.1 vwCl (wd_X0_copyFrom E a_o a_o_streets a_o_names a_o_extras a_o_happenings a_o_watchers a_o_weeks a_o_streets_roads a_o_streets_takes a_o_streets_hours a_o_streets_roads_cells a_o_names_codes a_o_names_sorts a_o_names_numbers a_o_extras_cells a_o_happenings_cells a_o_watchers_cells a_o_weeks_cells a_q1 a_q1_streets a_q1_names a_q1_extras a_q1_happenings a_q1_watchers a_q1_weeks a_q1_streets_roads a_q1_streets_takes a_q1_streets_hours a_q1_streets_roads_cells a_q1_names_codes a_q1_names_sorts a_q1_names_numbers a_q1_extras_cells a_q1_happenings_cells a_q1_watchers_cells a_q1_weeks_cells q1_wage q1_delay q1_odds o_clock o_hasWeeks o_streets_corners o_streets_roads_many o_streets_roads_cells o_streets_takes o_streets_hours o_names_many o_names_codes o_names_sorts o_names_numbers o_extras_many o_extras_cells o_happenings_many o_happenings_cells o_watchers_many o_watchers_cells o_weeks_many o_weeks_cells q1_wage q1_delay q1_odds q1_clock q1_hasWeeks q1_streets_corners q1_streets_roads_many q1_streets_roads_cells q1_streets_takes q1_streets_hours q1_names_many q1_names_codes q1_names_sorts q1_names_numbers q1_extras_many q1_extras_cells q1_happenings_many q1_happenings_cells q1_watchers_many q1_watchers_cells q1_weeks_many q1_weeks_cells) H := hP
  have hD : va_D A (wd_X0_copyFrom E a_o a_o_streets a_o_names a_o_extras a_o_happenings a_o_watchers a_o_weeks a_o_streets_roads a_o_streets_takes a_o_streets_hours a_o_streets_roads_cells a_o_names_codes a_o_names_sorts a_o_names_numbers a_o_extras_cells a_o_happenings_cells a_o_watchers_cells a_o_weeks_cells a_q1 a_q1_streets a_q1_names a_q1_extras a_q1_happenings a_q1_watchers a_q1_weeks a_q1_streets_roads a_q1_streets_takes a_q1_streets_hours a_q1_streets_roads_cells a_q1_names_codes a_q1_names_sorts a_q1_names_numbers a_q1_extras_cells a_q1_happenings_cells a_q1_watchers_cells a_q1_weeks_cells q1_wage q1_delay q1_odds o_clock o_hasWeeks o_streets_corners o_streets_roads_many o_streets_roads_cells o_streets_takes o_streets_hours o_names_many o_names_codes o_names_sorts o_names_numbers o_extras_many o_extras_cells o_happenings_many o_happenings_cells o_watchers_many o_watchers_cells o_weeks_many o_weeks_cells q1_wage q1_delay q1_odds q1_clock q1_hasWeeks q1_streets_corners q1_streets_roads_many q1_streets_roads_cells q1_streets_takes q1_streets_hours q1_names_many q1_names_codes q1_names_sorts q1_names_numbers q1_extras_many q1_extras_cells q1_happenings_many q1_happenings_cells q1_watchers_many q1_watchers_cells q1_weeks_many q1_weeks_cells) := hD
  refine lv_aload_n hx hb dX0_copyFrom_24 rfl (lv_at hl 0 rfl) ?_
  refine lv_aload_n hx hb dX0_copyFrom_25 rfl (lv_at hl 1 rfl) ?_
  refine va_get (D := E.1) (ci := 0) (v := .int q1_clock) (C := RX0) (T := TX0) (N := 11) hx hb hts inX0 hown hK hP 18 rfl rfl 3 (by decide) (hts _ fl_X0_58) (fun _ h9 => h9) rfl dX0_copyFrom_26 ?_
  refine va_put (D := E.1) (ci := 0) (v := .int q1_clock) (ty := .int) (C := RX0) (T := TX0) (N := 11) hx hb hts inX0 tyX0 tyX0_ok nmX0 hown hK hP hD hS 0 rfl rfl 3 (by decide) (hts _ fl_X0_58) (fun _ h9 => h9) rfl (by decide +kernel) rfl rfl (Nat.le_of_ble_eq_true rfl) dX0_copyFrom_29 (fun H locs hP hD hS => ?_)
  have hP : va_P E.1 vwCl (wd_X0_copyFrom E a_o a_o_streets a_o_names a_o_extras a_o_happenings a_o_watchers a_o_weeks a_o_streets_roads a_o_streets_takes a_o_streets_hours a_o_streets_roads_cells a_o_names_codes a_o_names_sorts a_o_names_numbers a_o_extras_cells a_o_happenings_cells a_o_watchers_cells a_o_weeks_cells a_q1 a_q1_streets a_q1_names a_q1_extras a_q1_happenings a_q1_watchers a_q1_weeks a_q1_streets_roads a_q1_streets_takes a_q1_streets_hours a_q1_streets_roads_cells a_q1_names_codes a_q1_names_sorts a_q1_names_numbers a_q1_extras_cells a_q1_happenings_cells a_q1_watchers_cells a_q1_weeks_cells q1_wage q1_delay q1_odds q1_clock o_hasWeeks o_streets_corners o_streets_roads_many o_streets_roads_cells o_streets_takes o_streets_hours o_names_many o_names_codes o_names_sorts o_names_numbers o_extras_many o_extras_cells o_happenings_many o_happenings_cells o_watchers_many o_watchers_cells o_weeks_many o_weeks_cells q1_wage q1_delay q1_odds q1_clock q1_hasWeeks q1_streets_corners q1_streets_roads_many q1_streets_roads_cells q1_streets_takes q1_streets_hours q1_names_many q1_names_codes q1_names_sorts q1_names_numbers q1_extras_many q1_extras_cells q1_happenings_many q1_happenings_cells q1_watchers_many q1_watchers_cells q1_weeks_many q1_weeks_cells) H := hP
  have hD : va_D A (wd_X0_copyFrom E a_o a_o_streets a_o_names a_o_extras a_o_happenings a_o_watchers a_o_weeks a_o_streets_roads a_o_streets_takes a_o_streets_hours a_o_streets_roads_cells a_o_names_codes a_o_names_sorts a_o_names_numbers a_o_extras_cells a_o_happenings_cells a_o_watchers_cells a_o_weeks_cells a_q1 a_q1_streets a_q1_names a_q1_extras a_q1_happenings a_q1_watchers a_q1_weeks a_q1_streets_roads a_q1_streets_takes a_q1_streets_hours a_q1_streets_roads_cells a_q1_names_codes a_q1_names_sorts a_q1_names_numbers a_q1_extras_cells a_q1_happenings_cells a_q1_watchers_cells a_q1_weeks_cells q1_wage q1_delay q1_odds q1_clock o_hasWeeks o_streets_corners o_streets_roads_many o_streets_roads_cells o_streets_takes o_streets_hours o_names_many o_names_codes o_names_sorts o_names_numbers o_extras_many o_extras_cells o_happenings_many o_happenings_cells o_watchers_many o_watchers_cells o_weeks_many o_weeks_cells q1_wage q1_delay q1_odds q1_clock q1_hasWeeks q1_streets_corners q1_streets_roads_many q1_streets_roads_cells q1_streets_takes q1_streets_hours q1_names_many q1_names_codes q1_names_sorts q1_names_numbers q1_extras_many q1_extras_cells q1_happenings_many q1_happenings_cells q1_watchers_many q1_watchers_cells q1_weeks_many q1_weeks_cells) := hD
  refine lv_aload_n hx hb dX0_copyFrom_32 rfl (lv_at hl 0 rfl) ?_
  refine lv_aload_n hx hb dX0_copyFrom_33 rfl (lv_at hl 1 rfl) ?_
  refine va_get (D := E.1) (ci := 0) (v := .int q1_hasWeeks) (C := RX0) (T := TX0) (N := 11) hx hb hts inX0 hown hK hP 18 rfl rfl 4 (by decide) (hts _ fl_X0_61) (fun _ h9 => h9) rfl dX0_copyFrom_34 ?_
  obtain ⟨hz, hf⟩ := ck hf
  refine va_put (D := E.1) (ci := 0) (v := .int q1_hasWeeks) (ty := .boolean) (C := RX0) (T := TX0) (N := 11) hx hb hts inX0 tyX0 tyX0_ok nmX0 hown hK hP hD hS 0 rfl rfl 4 (by decide) (hts _ fl_X0_61) (fun _ h9 => h9) rfl (by decide +kernel) (isZ_n hz) (isZ_f hz) (Nat.le_of_ble_eq_true rfl) dX0_copyFrom_37 (fun H locs hP hD hS => ?_)
  have hP : va_P E.1 vwCl (wd_X0_copyFrom E a_o a_o_streets a_o_names a_o_extras a_o_happenings a_o_watchers a_o_weeks a_o_streets_roads a_o_streets_takes a_o_streets_hours a_o_streets_roads_cells a_o_names_codes a_o_names_sorts a_o_names_numbers a_o_extras_cells a_o_happenings_cells a_o_watchers_cells a_o_weeks_cells a_q1 a_q1_streets a_q1_names a_q1_extras a_q1_happenings a_q1_watchers a_q1_weeks a_q1_streets_roads a_q1_streets_takes a_q1_streets_hours a_q1_streets_roads_cells a_q1_names_codes a_q1_names_sorts a_q1_names_numbers a_q1_extras_cells a_q1_happenings_cells a_q1_watchers_cells a_q1_weeks_cells q1_wage q1_delay q1_odds q1_clock q1_hasWeeks o_streets_corners o_streets_roads_many o_streets_roads_cells o_streets_takes o_streets_hours o_names_many o_names_codes o_names_sorts o_names_numbers o_extras_many o_extras_cells o_happenings_many o_happenings_cells o_watchers_many o_watchers_cells o_weeks_many o_weeks_cells q1_wage q1_delay q1_odds q1_clock q1_hasWeeks q1_streets_corners q1_streets_roads_many q1_streets_roads_cells q1_streets_takes q1_streets_hours q1_names_many q1_names_codes q1_names_sorts q1_names_numbers q1_extras_many q1_extras_cells q1_happenings_many q1_happenings_cells q1_watchers_many q1_watchers_cells q1_weeks_many q1_weeks_cells) H := hP
  have hD : va_D A (wd_X0_copyFrom E a_o a_o_streets a_o_names a_o_extras a_o_happenings a_o_watchers a_o_weeks a_o_streets_roads a_o_streets_takes a_o_streets_hours a_o_streets_roads_cells a_o_names_codes a_o_names_sorts a_o_names_numbers a_o_extras_cells a_o_happenings_cells a_o_watchers_cells a_o_weeks_cells a_q1 a_q1_streets a_q1_names a_q1_extras a_q1_happenings a_q1_watchers a_q1_weeks a_q1_streets_roads a_q1_streets_takes a_q1_streets_hours a_q1_streets_roads_cells a_q1_names_codes a_q1_names_sorts a_q1_names_numbers a_q1_extras_cells a_q1_happenings_cells a_q1_watchers_cells a_q1_weeks_cells q1_wage q1_delay q1_odds q1_clock q1_hasWeeks o_streets_corners o_streets_roads_many o_streets_roads_cells o_streets_takes o_streets_hours o_names_many o_names_codes o_names_sorts o_names_numbers o_extras_many o_extras_cells o_happenings_many o_happenings_cells o_watchers_many o_watchers_cells o_weeks_many o_weeks_cells q1_wage q1_delay q1_odds q1_clock q1_hasWeeks q1_streets_corners q1_streets_roads_many q1_streets_roads_cells q1_streets_takes q1_streets_hours q1_names_many q1_names_codes q1_names_sorts q1_names_numbers q1_extras_many q1_extras_cells q1_happenings_many q1_happenings_cells q1_watchers_many q1_watchers_cells q1_weeks_many q1_weeks_cells) := hD
  refine lv_aload_n hx hb dX0_copyFrom_40 rfl (lv_at hl 0 rfl) ?_
  refine va_get (D := E.1) (ci := 0) (v := .ref a_o_streets) (C := RX0) (T := TX0) (N := 11) hx hb hts inX0 hown hK hP 0 rfl rfl 5 (by decide) (hts _ fl_X0_12) (fun _ h9 => h9) rfl dX0_copyFrom_41 ?_
  refine lv_aload_n hx hb dX0_copyFrom_44 rfl (lv_at hl 1 rfl) ?_
  refine va_get (D := E.1) (ci := 0) (v := .ref a_q1_streets) (C := RX0) (T := TX0) (N := 11) hx hb hts inX0 hown hK hP 18 rfl rfl 5 (by decide) (hts _ fl_X0_12) (fun _ h9 => h9) rfl dX0_copyFrom_45 ?_
  obtain ⟨u48, hu48, hf⟩ := bd hf
  refine callVV (wn := (wd_X0_copyFrom E a_o a_o_streets a_o_names a_o_extras a_o_happenings a_o_watchers a_o_weeks a_o_streets_roads a_o_streets_takes a_o_streets_hours a_o_streets_roads_cells a_o_names_codes a_o_names_sorts a_o_names_numbers a_o_extras_cells a_o_happenings_cells a_o_watchers_cells a_o_weeks_cells a_q1 a_q1_streets a_q1_names a_q1_extras a_q1_happenings a_q1_watchers a_q1_weeks a_q1_streets_roads a_q1_streets_takes a_q1_streets_hours a_q1_streets_roads_cells a_q1_names_codes a_q1_names_sorts a_q1_names_numbers a_q1_extras_cells a_q1_happenings_cells a_q1_watchers_cells a_q1_weeks_cells q1_wage q1_delay q1_odds q1_clock q1_hasWeeks u48.1 u48.2.1 u48.2.2.1 u48.2.2.2.1 u48.2.2.2.2 o_names_many o_names_codes o_names_sorts o_names_numbers o_extras_many o_extras_cells o_happenings_many o_happenings_cells o_watchers_many o_watchers_cells o_weeks_many o_weeks_cells q1_wage q1_delay q1_odds q1_clock q1_hasWeeks q1_streets_corners q1_streets_roads_many q1_streets_roads_cells q1_streets_takes q1_streets_hours q1_names_many q1_names_codes q1_names_sorts q1_names_numbers q1_extras_many q1_extras_cells q1_happenings_many q1_happenings_cells q1_watchers_many q1_watchers_cells q1_weeks_many q1_weeks_cells)) (n1 := 36) (ct_X6_copyFrom l E a_o_streets a_o_streets_roads a_o_streets_takes a_o_streets_hours a_o_streets_roads_cells a_q1_streets a_q1_streets_roads a_q1_streets_takes a_q1_streets_hours a_q1_streets_roads_cells o_streets_corners o_streets_roads_many o_streets_roads_cells o_streets_takes o_streets_hours q1_streets_corners q1_streets_roads_many q1_streets_roads_cells q1_streets_takes q1_streets_hours u48 hu48) [1, 2, 3, 4, 5, 19, 20, 21, 22, 23] cal_X6_copyFrom cav_X6_copyFrom lk_X0_70 cx hP hD hS hl dX0_copyFrom_48 rfl rfl rfl rfl (Nat.le_of_ble_eq_true rfl) ⟨Nat.le_of_ble_eq_true rfl, Nat.le_of_ble_eq_true rfl⟩ rfl (by decide +kernel) rfl [none, some 0, some 1, some 2, some 3, some 4, none, none, none, none, none, none, none, none, none, none, none, none, none, some 5, some 6, some 7, some 8, some 9, none, none, none, none, none, none, none, none, none, none, none, none] rfl (by decide +kernel) rfl (fun H locs hP hD hS => ?_)
  refine lv_aload_n hx hb dX0_copyFrom_51 rfl (lv_at hl 0 rfl) ?_
  refine va_get (D := E.1) (ci := 0) (v := .ref a_o_names) (C := RX0) (T := TX0) (N := 11) hx hb hts inX0 hown hK hP 0 rfl rfl 6 (by decide) (hts _ fl_X0_21) (fun _ h9 => h9) rfl dX0_copyFrom_52 ?_
  refine lv_aload_n hx hb dX0_copyFrom_55 rfl (lv_at hl 1 rfl) ?_
  refine va_get (D := E.1) (ci := 0) (v := .ref a_q1_names) (C := RX0) (T := TX0) (N := 11) hx hb hts inX0 hown hK hP 18 rfl rfl 6 (by decide) (hts _ fl_X0_21) (fun _ h9 => h9) rfl dX0_copyFrom_56 ?_
  obtain ⟨u59, hu59, hf⟩ := bd hf
  refine callVV (wn := (wd_X0_copyFrom E a_o a_o_streets a_o_names a_o_extras a_o_happenings a_o_watchers a_o_weeks a_o_streets_roads a_o_streets_takes a_o_streets_hours a_o_streets_roads_cells a_o_names_codes a_o_names_sorts a_o_names_numbers a_o_extras_cells a_o_happenings_cells a_o_watchers_cells a_o_weeks_cells a_q1 a_q1_streets a_q1_names a_q1_extras a_q1_happenings a_q1_watchers a_q1_weeks a_q1_streets_roads a_q1_streets_takes a_q1_streets_hours a_q1_streets_roads_cells a_q1_names_codes a_q1_names_sorts a_q1_names_numbers a_q1_extras_cells a_q1_happenings_cells a_q1_watchers_cells a_q1_weeks_cells q1_wage q1_delay q1_odds q1_clock q1_hasWeeks u48.1 u48.2.1 u48.2.2.1 u48.2.2.2.1 u48.2.2.2.2 u59.1 u59.2.1 u59.2.2.1 u59.2.2.2 o_extras_many o_extras_cells o_happenings_many o_happenings_cells o_watchers_many o_watchers_cells o_weeks_many o_weeks_cells q1_wage q1_delay q1_odds q1_clock q1_hasWeeks q1_streets_corners q1_streets_roads_many q1_streets_roads_cells q1_streets_takes q1_streets_hours q1_names_many q1_names_codes q1_names_sorts q1_names_numbers q1_extras_many q1_extras_cells q1_happenings_many q1_happenings_cells q1_watchers_many q1_watchers_cells q1_weeks_many q1_weeks_cells)) (n1 := 36) (ct_X3_copyFrom l E a_o_names a_o_names_codes a_o_names_sorts a_o_names_numbers a_q1_names a_q1_names_codes a_q1_names_sorts a_q1_names_numbers o_names_many o_names_codes o_names_sorts o_names_numbers q1_names_many q1_names_codes q1_names_sorts q1_names_numbers u59 hu59) [6, 7, 8, 9, 24, 25, 26, 27] cal_X3_copyFrom cav_X3_copyFrom lk_X0_74 cx hP hD hS hl dX0_copyFrom_59 rfl rfl rfl rfl (Nat.le_of_ble_eq_true rfl) ⟨Nat.le_of_ble_eq_true rfl, Nat.le_of_ble_eq_true rfl⟩ rfl (by decide +kernel) rfl [none, none, none, none, none, none, some 0, some 1, some 2, some 3, none, none, none, none, none, none, none, none, none, none, none, none, none, none, some 4, some 5, some 6, some 7, none, none, none, none, none, none, none, none] rfl (by decide +kernel) rfl (fun H locs hP hD hS => ?_)
  refine lv_aload_n hx hb dX0_copyFrom_62 rfl (lv_at hl 0 rfl) ?_
  refine va_get (D := E.1) (ci := 0) (v := .ref a_o_extras) (C := RX0) (T := TX0) (N := 11) hx hb hts inX0 hown hK hP 0 rfl rfl 7 (by decide) (hts _ fl_X0_30) (fun _ h9 => h9) rfl dX0_copyFrom_63 ?_
  refine lv_aload_n hx hb dX0_copyFrom_66 rfl (lv_at hl 1 rfl) ?_
  refine va_get (D := E.1) (ci := 0) (v := .ref a_q1_extras) (C := RX0) (T := TX0) (N := 11) hx hb hts inX0 hown hK hP 18 rfl rfl 7 (by decide) (hts _ fl_X0_30) (fun _ h9 => h9) rfl dX0_copyFrom_67 ?_
  obtain ⟨u70, hu70, hf⟩ := bd hf
  refine callVV (wn := (wd_X0_copyFrom E a_o a_o_streets a_o_names a_o_extras a_o_happenings a_o_watchers a_o_weeks a_o_streets_roads a_o_streets_takes a_o_streets_hours a_o_streets_roads_cells a_o_names_codes a_o_names_sorts a_o_names_numbers a_o_extras_cells a_o_happenings_cells a_o_watchers_cells a_o_weeks_cells a_q1 a_q1_streets a_q1_names a_q1_extras a_q1_happenings a_q1_watchers a_q1_weeks a_q1_streets_roads a_q1_streets_takes a_q1_streets_hours a_q1_streets_roads_cells a_q1_names_codes a_q1_names_sorts a_q1_names_numbers a_q1_extras_cells a_q1_happenings_cells a_q1_watchers_cells a_q1_weeks_cells q1_wage q1_delay q1_odds q1_clock q1_hasWeeks u48.1 u48.2.1 u48.2.2.1 u48.2.2.2.1 u48.2.2.2.2 u59.1 u59.2.1 u59.2.2.1 u59.2.2.2 u70.1 u70.2 o_happenings_many o_happenings_cells o_watchers_many o_watchers_cells o_weeks_many o_weeks_cells q1_wage q1_delay q1_odds q1_clock q1_hasWeeks q1_streets_corners q1_streets_roads_many q1_streets_roads_cells q1_streets_takes q1_streets_hours q1_names_many q1_names_codes q1_names_sorts q1_names_numbers q1_extras_many q1_extras_cells q1_happenings_many q1_happenings_cells q1_watchers_many q1_watchers_cells q1_weeks_many q1_weeks_cells)) (n1 := 36) (ct_X7_copyFrom l E a_o_extras a_o_extras_cells a_q1_extras a_q1_extras_cells 35 35 5 o_extras_many o_extras_cells 5 q1_extras_many q1_extras_cells u70 hu70) [10, 11, 28, 29] cal_X7_copyFrom cav_X7_copyFrom lk_X0_77 cx hP hD hS hl dX0_copyFrom_70 rfl rfl rfl rfl (Nat.le_of_ble_eq_true rfl) ⟨Nat.le_of_ble_eq_true rfl, Nat.le_of_ble_eq_true rfl⟩ rfl (by decide +kernel) rfl [none, none, none, none, none, none, none, none, none, none, some 0, some 1, none, none, none, none, none, none, none, none, none, none, none, none, none, none, none, none, some 2, some 3, none, none, none, none, none, none] rfl (by decide +kernel) rfl (fun H locs hP hD hS => ?_)
  refine lv_aload_n hx hb dX0_copyFrom_73 rfl (lv_at hl 0 rfl) ?_
  refine va_get (D := E.1) (ci := 0) (v := .ref a_o_happenings) (C := RX0) (T := TX0) (N := 11) hx hb hts inX0 hown hK hP 0 rfl rfl 8 (by decide) (hts _ fl_X0_34) (fun _ h9 => h9) rfl dX0_copyFrom_74 ?_
  refine lv_aload_n hx hb dX0_copyFrom_77 rfl (lv_at hl 1 rfl) ?_
  refine va_get (D := E.1) (ci := 0) (v := .ref a_q1_happenings) (C := RX0) (T := TX0) (N := 11) hx hb hts inX0 hown hK hP 18 rfl rfl 8 (by decide) (hts _ fl_X0_34) (fun _ h9 => h9) rfl dX0_copyFrom_78 ?_
  obtain ⟨u81, hu81, hf⟩ := bd hf
  refine callVV (wn := (wd_X0_copyFrom E a_o a_o_streets a_o_names a_o_extras a_o_happenings a_o_watchers a_o_weeks a_o_streets_roads a_o_streets_takes a_o_streets_hours a_o_streets_roads_cells a_o_names_codes a_o_names_sorts a_o_names_numbers a_o_extras_cells a_o_happenings_cells a_o_watchers_cells a_o_weeks_cells a_q1 a_q1_streets a_q1_names a_q1_extras a_q1_happenings a_q1_watchers a_q1_weeks a_q1_streets_roads a_q1_streets_takes a_q1_streets_hours a_q1_streets_roads_cells a_q1_names_codes a_q1_names_sorts a_q1_names_numbers a_q1_extras_cells a_q1_happenings_cells a_q1_watchers_cells a_q1_weeks_cells q1_wage q1_delay q1_odds q1_clock q1_hasWeeks u48.1 u48.2.1 u48.2.2.1 u48.2.2.2.1 u48.2.2.2.2 u59.1 u59.2.1 u59.2.2.1 u59.2.2.2 u70.1 u70.2 u81.1 u81.2 o_watchers_many o_watchers_cells o_weeks_many o_weeks_cells q1_wage q1_delay q1_odds q1_clock q1_hasWeeks q1_streets_corners q1_streets_roads_many q1_streets_roads_cells q1_streets_takes q1_streets_hours q1_names_many q1_names_codes q1_names_sorts q1_names_numbers q1_extras_many q1_extras_cells q1_happenings_many q1_happenings_cells q1_watchers_many q1_watchers_cells q1_weeks_many q1_weeks_cells)) (n1 := 36) (ct_X7_copyFrom l E a_o_happenings a_o_happenings_cells a_q1_happenings a_q1_happenings_cells 40 40 5 o_happenings_many o_happenings_cells 5 q1_happenings_many q1_happenings_cells u81 hu81) [12, 13, 30, 31] cal_X7_copyFrom cav_X7_copyFrom lk_X0_77 cx hP hD hS hl dX0_copyFrom_81 rfl rfl rfl rfl (Nat.le_of_ble_eq_true rfl) ⟨Nat.le_of_ble_eq_true rfl, Nat.le_of_ble_eq_true rfl⟩ rfl (by decide +kernel) rfl [none, none, none, none, none, none, none, none, none, none, none, none, some 0, some 1, none, none, none, none, none, none, none, none, none, none, none, none, none, none, none, none, some 2, some 3, none, none, none, none] rfl (by decide +kernel) rfl (fun H locs hP hD hS => ?_)
  refine lv_aload_n hx hb dX0_copyFrom_84 rfl (lv_at hl 0 rfl) ?_
  refine va_get (D := E.1) (ci := 0) (v := .ref a_o_watchers) (C := RX0) (T := TX0) (N := 11) hx hb hts inX0 hown hK hP 0 rfl rfl 9 (by decide) (hts _ fl_X0_37) (fun _ h9 => h9) rfl dX0_copyFrom_85 ?_
  refine lv_aload_n hx hb dX0_copyFrom_88 rfl (lv_at hl 1 rfl) ?_
  refine va_get (D := E.1) (ci := 0) (v := .ref a_q1_watchers) (C := RX0) (T := TX0) (N := 11) hx hb hts inX0 hown hK hP 18 rfl rfl 9 (by decide) (hts _ fl_X0_37) (fun _ h9 => h9) rfl dX0_copyFrom_89 ?_
  obtain ⟨u92, hu92, hf⟩ := bd hf
  refine callVV (wn := (wd_X0_copyFrom E a_o a_o_streets a_o_names a_o_extras a_o_happenings a_o_watchers a_o_weeks a_o_streets_roads a_o_streets_takes a_o_streets_hours a_o_streets_roads_cells a_o_names_codes a_o_names_sorts a_o_names_numbers a_o_extras_cells a_o_happenings_cells a_o_watchers_cells a_o_weeks_cells a_q1 a_q1_streets a_q1_names a_q1_extras a_q1_happenings a_q1_watchers a_q1_weeks a_q1_streets_roads a_q1_streets_takes a_q1_streets_hours a_q1_streets_roads_cells a_q1_names_codes a_q1_names_sorts a_q1_names_numbers a_q1_extras_cells a_q1_happenings_cells a_q1_watchers_cells a_q1_weeks_cells q1_wage q1_delay q1_odds q1_clock q1_hasWeeks u48.1 u48.2.1 u48.2.2.1 u48.2.2.2.1 u48.2.2.2.2 u59.1 u59.2.1 u59.2.2.1 u59.2.2.2 u70.1 u70.2 u81.1 u81.2 u92.1 u92.2 o_weeks_many o_weeks_cells q1_wage q1_delay q1_odds q1_clock q1_hasWeeks q1_streets_corners q1_streets_roads_many q1_streets_roads_cells q1_streets_takes q1_streets_hours q1_names_many q1_names_codes q1_names_sorts q1_names_numbers q1_extras_many q1_extras_cells q1_happenings_many q1_happenings_cells q1_watchers_many q1_watchers_cells q1_weeks_many q1_weeks_cells)) (n1 := 36) (ct_X7_copyFrom l E a_o_watchers a_o_watchers_cells a_q1_watchers a_q1_watchers_cells 12 12 3 o_watchers_many o_watchers_cells 3 q1_watchers_many q1_watchers_cells u92 hu92) [14, 15, 32, 33] cal_X7_copyFrom cav_X7_copyFrom lk_X0_77 cx hP hD hS hl dX0_copyFrom_92 rfl rfl rfl rfl (Nat.le_of_ble_eq_true rfl) ⟨Nat.le_of_ble_eq_true rfl, Nat.le_of_ble_eq_true rfl⟩ rfl (by decide +kernel) rfl [none, none, none, none, none, none, none, none, none, none, none, none, none, none, some 0, some 1, none, none, none, none, none, none, none, none, none, none, none, none, none, none, none, none, some 2, some 3, none, none] rfl (by decide +kernel) rfl (fun H locs hP hD hS => ?_)
  refine lv_aload_n hx hb dX0_copyFrom_95 rfl (lv_at hl 0 rfl) ?_
  refine va_get (D := E.1) (ci := 0) (v := .ref a_o_weeks) (C := RX0) (T := TX0) (N := 11) hx hb hts inX0 hown hK hP 0 rfl rfl 10 (by decide) (hts _ fl_X0_42) (fun _ h9 => h9) rfl dX0_copyFrom_96 ?_
  refine lv_aload_n hx hb dX0_copyFrom_99 rfl (lv_at hl 1 rfl) ?_
  refine va_get (D := E.1) (ci := 0) (v := .ref a_q1_weeks) (C := RX0) (T := TX0) (N := 11) hx hb hts inX0 hown hK hP 18 rfl rfl 10 (by decide) (hts _ fl_X0_42) (fun _ h9 => h9) rfl dX0_copyFrom_100 ?_
  obtain ⟨u103, hu103, hf⟩ := bd hf
  refine callVV (wn := (wd_X0_copyFrom E a_o a_o_streets a_o_names a_o_extras a_o_happenings a_o_watchers a_o_weeks a_o_streets_roads a_o_streets_takes a_o_streets_hours a_o_streets_roads_cells a_o_names_codes a_o_names_sorts a_o_names_numbers a_o_extras_cells a_o_happenings_cells a_o_watchers_cells a_o_weeks_cells a_q1 a_q1_streets a_q1_names a_q1_extras a_q1_happenings a_q1_watchers a_q1_weeks a_q1_streets_roads a_q1_streets_takes a_q1_streets_hours a_q1_streets_roads_cells a_q1_names_codes a_q1_names_sorts a_q1_names_numbers a_q1_extras_cells a_q1_happenings_cells a_q1_watchers_cells a_q1_weeks_cells q1_wage q1_delay q1_odds q1_clock q1_hasWeeks u48.1 u48.2.1 u48.2.2.1 u48.2.2.2.1 u48.2.2.2.2 u59.1 u59.2.1 u59.2.2.1 u59.2.2.2 u70.1 u70.2 u81.1 u81.2 u92.1 u92.2 u103.1 u103.2 q1_wage q1_delay q1_odds q1_clock q1_hasWeeks q1_streets_corners q1_streets_roads_many q1_streets_roads_cells q1_streets_takes q1_streets_hours q1_names_many q1_names_codes q1_names_sorts q1_names_numbers q1_extras_many q1_extras_cells q1_happenings_many q1_happenings_cells q1_watchers_many q1_watchers_cells q1_weeks_many q1_weeks_cells)) (n1 := 36) (ct_X7_copyFrom l E a_o_weeks a_o_weeks_cells a_q1_weeks a_q1_weeks_cells 180 180 6 o_weeks_many o_weeks_cells 6 q1_weeks_many q1_weeks_cells u103 hu103) [16, 17, 34, 35] cal_X7_copyFrom cav_X7_copyFrom lk_X0_77 cx hP hD hS hl dX0_copyFrom_103 rfl rfl rfl rfl (Nat.le_of_ble_eq_true rfl) ⟨Nat.le_of_ble_eq_true rfl, Nat.le_of_ble_eq_true rfl⟩ rfl (by decide +kernel) rfl [none, none, none, none, none, none, none, none, none, none, none, none, none, none, none, none, some 0, some 1, none, none, none, none, none, none, none, none, none, none, none, none, none, none, none, none, some 2, some 3] rfl (by decide +kernel) rfl (fun H locs hP hD hS => ?_)
  obtain rfl := Option.some.inj hf
  subst hq
  exact retV cx hP hD hS dX0_copyFrom_106
def X7_isFull (n_o_cells : Nat) (o_width : Int32) (o_many : Int32) : Option (Int32) :=
  if ((o_many + 1) * o_width) ≤ (Int32.ofNat n_o_cells) then
  some 0
  else
  some 1
abbrev wd_X7_isFull (E : vE) (a_o a_o_cells : Nat) (n_o_cells : Nat) (o_width : Int32) (o_many : Int32) (o_cells : Nat → Int32) : va_W := [(a_o, .inr (7, [.int o_width, .ref a_o_cells, .int o_many])), (a_o_cells, .inl (E.2.1, n_o_cells, .inl o_cells))]
set_option maxHeartbeats 4000000 in
set_option maxRecDepth 100000 in
theorem ct_X7_isFull (l : Launch) (E : vE) (a_o a_o_cells : Nat) (n_o_cells : Nat) (o_width : Int32) (o_many : Int32) (o_cells : Nat → Int32) (u : Int32) (hf : X7_isFull n_o_cells o_width o_many = some u) :
    CtI l yX7_isFull cX7_isFull 1 (some .boolean) 0 E [.ref a_o] (wd_X7_isFull E a_o a_o_cells n_o_cells o_width o_many o_cells) (wd_X7_isFull E a_o a_o_cells n_o_cells o_width o_many o_cells) u := by
  refine ctI (by decide) (Nat.le_of_ble_eq_true rfl) ?_
  intro p e s m below meth cd A ls aa QQ hq cx hP hD hS hl
  obtain ⟨⟨hx, hb, hml, hown, hts⟩, hr, hlocks, hK, hA, hX⟩ := id cx
  have hl : lv_has ls 1 [(0, .ref a_o)] := hl
  unfold X7_isFull at hf
  refine lv_aload_n hx hb dX7_isFull_0 rfl (lv_at hl 0 rfl) ?_
  refine va_get (D := E.1) (ci := 7) (v := .int o_many) (C := RX7) (T := TX7) (N := 3) hx hb hts inX7 hown hK hP 0 rfl rfl 2 (by decide) (hts _ fl_X7_19) (fun _ h9 => h9) rfl dX7_isFull_1 ?_
  refine lv_iconst (v := 1) hx hb dX7_isFull_4 (by decide) ?_
  refine lv_iadd hx hb dX7_isFull_5 ?_
  refine lv_aload_n hx hb dX7_isFull_6 rfl (lv_at hl 0 rfl) ?_
  refine va_get (D := E.1) (ci := 7) (v := .int o_width) (C := RX7) (T := TX7) (N := 3) hx hb hts inX7 hown hK hP 0 rfl rfl 0 (by decide) (hts _ fl_X7_9) (fun _ h9 => h9) rfl dX7_isFull_7 ?_
  refine lv_imul hx hb dX7_isFull_10 ?_
  refine lv_aload_n hx hb dX7_isFull_11 rfl (lv_at hl 0 rfl) ?_
  refine va_get (D := E.1) (ci := 7) (v := .ref a_o_cells) (C := RX7) (T := TX7) (N := 3) hx hb hts inX7 hown hK hP 0 rfl rfl 1 (by decide) (hts _ fl_X7_15) (fun _ h9 => h9) rfl dX7_isFull_12 ?_
  refine va_alen (v := (Int32.ofNat n_o_cells)) hx hb hK hP 1 0 rfl rfl rfl dX7_isFull_15 ?_
  refine lv_icmp_le (tgt := 23) hx hb dX7_isFull_16 (by decide) (fun hc => ?_) (fun hc => ?_)
  · have hf := it_t hc hf
    refine lv_iconst (v := 0) hx hb dX7_isFull_23 (by decide) ?_
    obtain rfl := Option.some.inj hf
    subst hq
    exact retZ cx rfl hP hD hS dX7_isFull_24
  · have hf := it_f hc hf
    refine lv_iconst (v := 1) hx hb dX7_isFull_19 (by decide) ?_
    refine lv_goto (tgt := 24) hx hb dX7_isFull_20 (by decide) ?_
    obtain rfl := Option.some.inj hf
    subst hq
    exact retZ cx rfl hP hD hS dX7_isFull_24
def X7_set (n_o_cells : Nat) (o_width : Int32) (o_many : Int32) (o_cells : Nat → Int32) (v1 : Int32) (v2 : Int32) (v3 : Int32) : Option ((Nat → Int32)) :=
  if v1 < 0 then
  some o_cells
  else
  if o_many ≤ v1 then
  some o_cells
  else
  if v2 < 0 then
  some o_cells
  else
  if o_width ≤ v2 then
  some o_cells
  else
  if ix ((v1 * o_width) + v2) n_o_cells then
  some (jput o_cells ((v1 * o_width) + v2) v3)
  else none
abbrev wd_X7_set (E : vE) (a_o a_o_cells : Nat) (n_o_cells : Nat) (o_width : Int32) (o_many : Int32) (o_cells : Nat → Int32) : va_W := [(a_o, .inr (7, [.int o_width, .ref a_o_cells, .int o_many])), (a_o_cells, .inl (E.2.1, n_o_cells, .inl o_cells))]
set_option maxHeartbeats 4000000 in
set_option maxRecDepth 100000 in
theorem ct_X7_set (l : Launch) (E : vE) (a_o a_o_cells : Nat) (n_o_cells : Nat) (o_width : Int32) (o_many : Int32) (o_cells : Nat → Int32) (v1 : Int32) (v2 : Int32) (v3 : Int32) (u : (Nat → Int32)) (hf : X7_set n_o_cells o_width o_many o_cells v1 v2 v3 = some u) :
    CtV l yX7_set cX7_set 4 none 0 E [.ref a_o, .int v1, .int v2, .int v3] (wd_X7_set E a_o a_o_cells n_o_cells o_width o_many o_cells) (wd_X7_set E a_o a_o_cells n_o_cells o_width o_many u) := by
  refine ctV (by decide) (Nat.le_of_ble_eq_true rfl) ?_
  intro p e s m below meth cd A ls aa QQ hq cx hP hD hS hl
  obtain ⟨⟨hx, hb, hml, hown, hts⟩, hr, hlocks, hK, hA, hX⟩ := id cx
  have hl : lv_has ls 4 [(0, .ref a_o), (1, .int v1), (2, .int v2), (3, .int v3)] := hl
  unfold X7_set at hf
  refine lv_iload_n hx hb dX7_set_0 rfl (lv_at hl 1 rfl) ?_
  refine lv_if_lt (tgt := 38) hx hb dX7_set_1 (by decide) (fun hc => ?_) (fun hc => ?_)
  · have hf := it_t hc hf
    obtain rfl := Option.some.inj hf
    subst hq
    exact retV cx hP hD hS dX7_set_38
  · have hf := it_f hc hf
    refine lv_iload_n hx hb dX7_set_4 rfl (lv_at hl 1 rfl) ?_
    refine lv_aload_n hx hb dX7_set_5 rfl (lv_at hl 0 rfl) ?_
    refine va_get (D := E.1) (ci := 7) (v := .int o_many) (C := RX7) (T := TX7) (N := 3) hx hb hts inX7 hown hK hP 0 rfl rfl 2 (by decide) (hts _ fl_X7_19) (fun _ h9 => h9) rfl dX7_set_6 ?_
    refine lv_icmp_ge (tgt := 38) hx hb dX7_set_9 (by decide) (fun hc => ?_) (fun hc => ?_)
    · have hf := it_t hc hf
      obtain rfl := Option.some.inj hf
      subst hq
      exact retV cx hP hD hS dX7_set_38
    · have hf := it_f hc hf
      refine lv_iload_n hx hb dX7_set_12 rfl (lv_at hl 2 rfl) ?_
      refine lv_if_lt (tgt := 38) hx hb dX7_set_13 (by decide) (fun hc => ?_) (fun hc => ?_)
      · have hf := it_t hc hf
        obtain rfl := Option.some.inj hf
        subst hq
        exact retV cx hP hD hS dX7_set_38
      · have hf := it_f hc hf
        refine lv_iload_n hx hb dX7_set_16 rfl (lv_at hl 2 rfl) ?_
        refine lv_aload_n hx hb dX7_set_17 rfl (lv_at hl 0 rfl) ?_
        refine va_get (D := E.1) (ci := 7) (v := .int o_width) (C := RX7) (T := TX7) (N := 3) hx hb hts inX7 hown hK hP 0 rfl rfl 0 (by decide) (hts _ fl_X7_9) (fun _ h9 => h9) rfl dX7_set_18 ?_
        refine lv_icmp_ge (tgt := 38) hx hb dX7_set_21 (by decide) (fun hc => ?_) (fun hc => ?_)
        · have hf := it_t hc hf
          obtain rfl := Option.some.inj hf
          subst hq
          exact retV cx hP hD hS dX7_set_38
        · have hf := it_f hc hf
          refine lv_aload_n hx hb dX7_set_24 rfl (lv_at hl 0 rfl) ?_
          refine va_get (D := E.1) (ci := 7) (v := .ref a_o_cells) (C := RX7) (T := TX7) (N := 3) hx hb hts inX7 hown hK hP 0 rfl rfl 1 (by decide) (hts _ fl_X7_15) (fun _ h9 => h9) rfl dX7_set_25 ?_
          refine lv_iload_n hx hb dX7_set_28 rfl (lv_at hl 1 rfl) ?_
          refine lv_aload_n hx hb dX7_set_29 rfl (lv_at hl 0 rfl) ?_
          refine va_get (D := E.1) (ci := 7) (v := .int o_width) (C := RX7) (T := TX7) (N := 3) hx hb hts inX7 hown hK hP 0 rfl rfl 0 (by decide) (hts _ fl_X7_9) (fun _ h9 => h9) rfl dX7_set_30 ?_
          refine lv_imul hx hb dX7_set_33 ?_
          refine lv_iload_n hx hb dX7_set_34 rfl (lv_at hl 2 rfl) ?_
          refine lv_iadd hx hb dX7_set_35 ?_
          refine lv_iload_n hx hb dX7_set_36 rfl (lv_at hl 3 rfl) ?_
          obtain ⟨hi, hf⟩ := ck hf
          refine r_iast 1 cx hP hD hS rfl hi dX7_set_37 (fun H locs hP hD hS => ?_)
          have hP : va_P E.1 vwCl (wd_X7_set E a_o a_o_cells n_o_cells o_width o_many (jput o_cells ((v1 * o_width) + v2) v3)) H := hP
          have hD : va_D A (wd_X7_set E a_o a_o_cells n_o_cells o_width o_many (jput o_cells ((v1 * o_width) + v2) v3)) := hD
          obtain rfl := Option.some.inj hf
          subst hq
          exact retV cx hP hD hS dX7_set_38
def X7_add_b21 (F : Nat) (n_o_cells : Nat) (o_width : Int32) (o_many : Int32) (st21 : Int32 × (Nat → Int32)) : Option ((Int32 × (Nat → Int32)) ⊕ (((Nat → Int32)))) :=
  if o_width ≤ st21.1 then
  some (.inr st21.2)
  else
  (X7_set n_o_cells o_width o_many st21.2 (o_many - 1) st21.1 (0 : Int32)).bind fun u38 =>
  some (.inl ((st21.1 + 1), u38))
def X7_add (F : Nat) (n_o_cells : Nat) (o_width : Int32) (o_many : Int32) (o_cells : Nat → Int32) : Option (Int32 × Int32 × (Nat → Int32)) :=
  (X7_isFull n_o_cells o_width o_many).bind fun u1 =>
  if u1 = 0 then
  (iter (X7_add_b21 F n_o_cells o_width (o_many + 1)) F (0, o_cells)).bind (fun (e21 : (Nat → Int32)) =>
    some (((o_many + 1) - 1), (o_many + 1), e21))
  else
  some ((-1), o_many, o_cells)
abbrev wd_X7_add (E : vE) (a_o a_o_cells : Nat) (n_o_cells : Nat) (o_width : Int32) (o_many : Int32) (o_cells : Nat → Int32) : va_W := [(a_o, .inr (7, [.int o_width, .ref a_o_cells, .int o_many])), (a_o_cells, .inl (E.2.1, n_o_cells, .inl o_cells))]
set_option maxHeartbeats 4000000 in
set_option maxRecDepth 100000 in
theorem ct_X7_add (l : Launch) (E : vE) (F : Nat) (a_o a_o_cells : Nat) (n_o_cells : Nat) (o_width : Int32) (o_many : Int32) (o_cells : Nat → Int32) (u : Int32 × Int32 × (Nat → Int32)) (hf : X7_add F n_o_cells o_width o_many o_cells = some u) :
    CtI l yX7_add cX7_add 2 (some .int) 1 E [.ref a_o] (wd_X7_add E a_o a_o_cells n_o_cells o_width o_many o_cells) (wd_X7_add E a_o a_o_cells n_o_cells o_width u.2.1 u.2.2) u.1 := by
  refine ctI (by decide) (Nat.le_of_ble_eq_true rfl) ?_
  intro p e s m below meth cd A ls aa QQ hq cx hP hD hS hl
  obtain ⟨⟨hx, hb, hml, hown, hts⟩, hr, hlocks, hK, hA, hX⟩ := id cx
  have hl : lv_has ls 2 [(0, .ref a_o)] := hl
  unfold X7_add at hf
  refine lv_aload_n hx hb dX7_add_0 rfl (lv_at hl 0 rfl) ?_
  obtain ⟨u1, hu1, hf⟩ := bd hf
  refine keepVI (ct_X7_isFull l E a_o a_o_cells n_o_cells o_width o_many o_cells u1 hu1) [0, 1] cal_X7_isFull cav_X7_isFull lk_X7_22 cx hP hD hS hl dX7_add_1 rfl rfl rfl rfl (Nat.le_of_ble_eq_true rfl) ⟨Nat.le_of_ble_eq_true rfl, Nat.le_of_ble_eq_true rfl⟩ rfl (by decide) (fun H locs hP hS => ?_)
  refine lv_if_eq (tgt := 9) hx hb dX7_add_4 (by decide) (fun hc => ?_) (fun hc => ?_)
  · have hf := it_t hc hf
    refine lv_aload_n hx hb dX7_add_9 rfl (lv_at hl 0 rfl) ?_
    refine lv_dup hx hb dX7_add_10 rfl ?_
    refine va_get (D := E.1) (ci := 7) (v := .int o_many) (C := RX7) (T := TX7) (N := 3) hx hb hts inX7 hown hK hP 0 rfl rfl 2 (by decide) (hts _ fl_X7_19) (fun _ h9 => h9) rfl dX7_add_11 ?_
    refine lv_iconst (v := 1) hx hb dX7_add_14 (by decide) ?_
    refine lv_iadd hx hb dX7_add_15 ?_
    refine va_put (D := E.1) (ci := 7) (v := .int (o_many + 1)) (ty := .int) (C := RX7) (T := TX7) (N := 3) hx hb hts inX7 tyX7 tyX7_ok nmX7 hown hK hP hD hS 0 rfl rfl 2 (by decide) (hts _ fl_X7_19) (fun _ h9 => h9) rfl (by decide +kernel) rfl rfl (Nat.le_of_ble_eq_true rfl) dX7_add_16 (fun H locs hP hD hS => ?_)
    have hP : va_P E.1 vwCl (wd_X7_add E a_o a_o_cells n_o_cells o_width (o_many + 1) o_cells) H := hP
    have hD : va_D A (wd_X7_add E a_o a_o_cells n_o_cells o_width (o_many + 1) o_cells) := hD
    refine lv_iconst (v := 0) hx hb dX7_add_19 (by decide) ?_
    refine lv_istore_n (lv' := [(1, .int 0), (0, .ref a_o)]) hx hb dX7_add_20 rfl hl (by decide) rfl (fun ls hl => ?_)
    obtain ⟨e21, hit21, hf⟩ := bd hf
    refine iter_W (b := X7_add_b21 F n_o_cells o_width (o_many + 1)) (P := fun st21 => ∀ (H : Heap) (locs : List Loc) (ls : Array Slot), va_P E.1 vwCl (wd_X7_add E a_o a_o_cells n_o_cells o_width (o_many + 1) st21.2) H → va_D A (wd_X7_add E a_o a_o_cells n_o_cells o_width (o_many + 1) st21.2) → va_S A s.heap H locs → lv_has ls 2 [(0, .ref a_o), (1, .int st21.1)] → W p l e (rmd 1) s m aa below meth cd H locs 0 0 QQ (F0 m 21 ls [])) (G := (fun (e21 : (Nat → Int32)) => ∀ (H : Heap) (locs : List Loc) (ls : Array Slot), va_P E.1 vwCl (wd_X7_add E a_o a_o_cells n_o_cells o_width (o_many + 1) e21) H → va_D A (wd_X7_add E a_o a_o_cells n_o_cells o_width (o_many + 1) e21) → va_S A s.heap H locs → lv_has ls 2 [(0, .ref a_o)] → W p l e (rmd 1) s m aa below meth cd H locs 0 0 QQ (F0 m 47 ls []))) ?_ F (0, o_cells) e21 hit21 ?_ _ _ _ hP hD hS (lv_sub hl [1, 0] rfl)
    · intro st21 r21 hf hk21 he21 H locs ls hP hD hS hl
      unfold X7_add_b21 at hf
      refine lv_iload_n hx hb dX7_add_21 rfl (lv_at hl 1 rfl) ?_
      refine lv_aload_n hx hb dX7_add_22 rfl (lv_at hl 0 rfl) ?_
      refine va_get (D := E.1) (ci := 7) (v := .int o_width) (C := RX7) (T := TX7) (N := 3) hx hb hts inX7 hown hK hP 0 rfl rfl 0 (by decide) (hts _ fl_X7_9) (fun _ h9 => h9) rfl dX7_add_23 ?_
      refine lv_icmp_ge (tgt := 47) hx hb dX7_add_26 (by decide) (fun hc => ?_) (fun hc => ?_)
      · have hf := it_t hc hf
        exact he21 _ (Option.some.inj hf).symm _ _ _ hP hD hS (lv_sub hl [0] rfl)
      · have hf := it_f hc hf
        refine lv_aload_n hx hb dX7_add_29 rfl (lv_at hl 0 rfl) ?_
        refine lv_aload_n hx hb dX7_add_30 rfl (lv_at hl 0 rfl) ?_
        refine va_get (D := E.1) (ci := 7) (v := .int (o_many + 1)) (C := RX7) (T := TX7) (N := 3) hx hb hts inX7 hown hK hP 0 rfl rfl 2 (by decide) (hts _ fl_X7_19) (fun _ h9 => h9) rfl dX7_add_31 ?_
        refine lv_iconst (v := 1) hx hb dX7_add_34 (by decide) ?_
        refine lv_isub hx hb dX7_add_35 ?_
        refine lv_iload_n hx hb dX7_add_36 rfl (lv_at hl 1 rfl) ?_
        refine lv_iconst (v := 0) hx hb dX7_add_37 (by decide) ?_
        obtain ⟨u38, hu38, hf⟩ := bd hf
        refine callVV (wn := (wd_X7_add E a_o a_o_cells n_o_cells o_width (o_many + 1) u38)) (n1 := 2) (ct_X7_set l E a_o a_o_cells n_o_cells o_width (o_many + 1) st21.2 ((o_many + 1) - 1) st21.1 (0 : Int32) u38 hu38) [0, 1] cal_X7_set cav_X7_set lk_X7_26 cx hP hD hS hl dX7_add_38 rfl rfl rfl rfl (Nat.le_of_ble_eq_true rfl) ⟨Nat.le_of_ble_eq_true rfl, Nat.le_of_ble_eq_true rfl⟩ rfl (by decide +kernel) rfl [some 0, some 1] rfl (by decide +kernel) rfl (fun H locs hP hD hS => ?_)
        refine lv_iinc (v := (st21.1 + 1)) (lv' := [(1, .int (st21.1 + 1)), (0, .ref a_o)]) hx hb dX7_add_41 hl (k := 1) rfl rfl (by decide) rfl (fun ls hl => ?_)
        refine lv_goto (tgt := 21) hx hb dX7_add_44 (by decide) ?_
        exact hk21 _ (Option.some.inj hf).symm _ _ _ hP hD hS (lv_sub hl [1, 0] rfl)
    · refine fun H locs ls hP hD hS hl => ?_
      refine lv_aload_n hx hb dX7_add_47 rfl (lv_at hl 0 rfl) ?_
      refine va_get (D := E.1) (ci := 7) (v := .int (o_many + 1)) (C := RX7) (T := TX7) (N := 3) hx hb hts inX7 hown hK hP 0 rfl rfl 2 (by decide) (hts _ fl_X7_19) (fun _ h9 => h9) rfl dX7_add_48 ?_
      refine lv_iconst (v := 1) hx hb dX7_add_51 (by decide) ?_
      refine lv_isub hx hb dX7_add_52 ?_
      obtain rfl := Option.some.inj hf
      subst hq
      exact retI cx hP hD hS dX7_add_53
  · have hf := it_f hc hf
    refine lv_iconst (v := (-1)) hx hb dX7_add_7 (by decide) ?_
    obtain rfl := Option.some.inj hf
    subst hq
    exact retI cx hP hD hS dX7_add_8
def X0_addExtra (F : Nat) (o_extras_many : Int32) (o_extras_cells : Nat → Int32) (v1 : Int32) : Option (Int32 × Int32 × (Nat → Int32)) :=
  (X7_add F 35 5 o_extras_many o_extras_cells).bind fun u4 =>
  (X7_set 35 5 u4.2.1 u4.2.2 u4.1 (0 : Int32) v1).bind fun u15 =>
  some (u4.1, u4.2.1, u15)
abbrev wd_X0_addExtra (E : vE) (a_o a_o_streets a_o_names a_o_extras a_o_happenings a_o_watchers a_o_weeks a_o_extras_cells : Nat) (o_wage : Int32) (o_delay : Int32) (o_odds : Int32) (o_clock : Int32) (o_hasWeeks : Int32) (o_extras_many : Int32) (o_extras_cells : Nat → Int32) : va_W := [(a_o, .inr (0, [.int o_wage, .int o_delay, .int o_odds, .int o_clock, .int o_hasWeeks, .ref a_o_streets, .ref a_o_names, .ref a_o_extras, .ref a_o_happenings, .ref a_o_watchers, .ref a_o_weeks])), (a_o_extras, .inr (7, [.int 5, .ref a_o_extras_cells, .int o_extras_many])), (a_o_extras_cells, .inl (E.2.1, 35, .inl o_extras_cells))]
set_option maxHeartbeats 4000000 in
set_option maxRecDepth 100000 in
theorem ct_X0_addExtra (l : Launch) (E : vE) (F : Nat) (a_o a_o_streets a_o_names a_o_extras a_o_happenings a_o_watchers a_o_weeks a_o_extras_cells : Nat) (o_wage : Int32) (o_delay : Int32) (o_odds : Int32) (o_clock : Int32) (o_hasWeeks : Int32) (o_extras_many : Int32) (o_extras_cells : Nat → Int32) (v1 : Int32) (u : Int32 × Int32 × (Nat → Int32)) (hf : X0_addExtra F o_extras_many o_extras_cells v1 = some u) :
    CtI l yX0_addExtra cX0_addExtra 3 (some .int) 2 E [.ref a_o, .int v1] (wd_X0_addExtra E a_o a_o_streets a_o_names a_o_extras a_o_happenings a_o_watchers a_o_weeks a_o_extras_cells o_wage o_delay o_odds o_clock o_hasWeeks o_extras_many o_extras_cells) (wd_X0_addExtra E a_o a_o_streets a_o_names a_o_extras a_o_happenings a_o_watchers a_o_weeks a_o_extras_cells o_wage o_delay o_odds o_clock o_hasWeeks u.2.1 u.2.2) u.1 := by
  refine ctI (by decide) (Nat.le_of_ble_eq_true rfl) ?_
  intro p e s m below meth cd A ls aa QQ hq cx hP hD hS hl
  obtain ⟨⟨hx, hb, hml, hown, hts⟩, hr, hlocks, hK, hA, hX⟩ := id cx
  have hl : lv_has ls 3 [(0, .ref a_o), (1, .int v1)] := hl
  unfold X0_addExtra at hf
  refine lv_aload_n hx hb dX0_addExtra_0 rfl (lv_at hl 0 rfl) ?_
  refine va_get (D := E.1) (ci := 0) (v := .ref a_o_extras) (C := RX0) (T := TX0) (N := 11) hx hb hts inX0 hown hK hP 0 rfl rfl 7 (by decide) (hts _ fl_X0_30) (fun _ h9 => h9) rfl dX0_addExtra_1 ?_
  obtain ⟨u4, hu4, hf⟩ := bd hf
  refine callVI (wn := (wd_X0_addExtra E a_o a_o_streets a_o_names a_o_extras a_o_happenings a_o_watchers a_o_weeks a_o_extras_cells o_wage o_delay o_odds o_clock o_hasWeeks u4.2.1 u4.2.2)) (n1 := 3) (ct_X7_add l E F a_o_extras a_o_extras_cells 35 5 o_extras_many o_extras_cells u4 hu4) [1, 2] cal_X7_add cav_X7_add lk_X0_80 cx hP hD hS hl dX0_addExtra_4 rfl rfl rfl rfl (Nat.le_of_ble_eq_true rfl) ⟨Nat.le_of_ble_eq_true rfl, Nat.le_of_ble_eq_true rfl⟩ rfl (by decide +kernel) rfl [none, some 0, some 1] rfl (by decide +kernel) rfl (fun H locs hP hD hS => ?_)
  refine lv_istore_n (lv' := [(2, .int u4.1), (0, .ref a_o), (1, .int v1)]) hx hb dX0_addExtra_7 rfl hl (by decide) rfl (fun ls hl => ?_)
  refine lv_aload_n hx hb dX0_addExtra_8 rfl (lv_at hl 1 rfl) ?_
  refine va_get (D := E.1) (ci := 0) (v := .ref a_o_extras) (C := RX0) (T := TX0) (N := 11) hx hb hts inX0 hown hK hP 0 rfl rfl 7 (by decide) (hts _ fl_X0_30) (fun _ h9 => h9) rfl dX0_addExtra_9 ?_
  refine lv_iload_n hx hb dX0_addExtra_12 rfl (lv_at hl 0 rfl) ?_
  refine lv_iconst (v := 0) hx hb dX0_addExtra_13 (by decide) ?_
  refine lv_iload_n hx hb dX0_addExtra_14 rfl (lv_at hl 2 rfl) ?_
  obtain ⟨u15, hu15, hf⟩ := bd hf
  refine callVV (wn := (wd_X0_addExtra E a_o a_o_streets a_o_names a_o_extras a_o_happenings a_o_watchers a_o_weeks a_o_extras_cells o_wage o_delay o_odds o_clock o_hasWeeks u4.2.1 u15)) (n1 := 3) (ct_X7_set l E a_o_extras a_o_extras_cells 35 5 u4.2.1 u4.2.2 u4.1 (0 : Int32) v1 u15 hu15) [1, 2] cal_X7_set cav_X7_set lk_X0_84 cx hP hD hS hl dX0_addExtra_15 rfl rfl rfl rfl (Nat.le_of_ble_eq_true rfl) ⟨Nat.le_of_ble_eq_true rfl, Nat.le_of_ble_eq_true rfl⟩ rfl (by decide +kernel) rfl [none, some 0, some 1] rfl (by decide +kernel) rfl (fun H locs hP hD hS => ?_)
  refine lv_iload_n hx hb dX0_addExtra_18 rfl (lv_at hl 0 rfl) ?_
  obtain rfl := Option.some.inj hf
  subst hq
  exact retI cx hP hD hS dX0_addExtra_19
def X0_addHappening (F : Nat) (o_happenings_many : Int32) (o_happenings_cells : Nat → Int32) (v1 : Int32) (v2 : Int32) (v3 : Int32) : Option (Int32 × Int32 × (Nat → Int32)) :=
  (X7_add F 40 5 o_happenings_many o_happenings_cells).bind fun u4 =>
  (X7_set 40 5 u4.2.1 u4.2.2 u4.1 (0 : Int32) v1).bind fun u17 =>
  (X7_set 40 5 u4.2.1 u17 u4.1 (1 : Int32) v2).bind fun u28 =>
  (X7_set 40 5 u4.2.1 u28 u4.1 (2 : Int32) v3).bind fun u39 =>
  some (u4.1, u4.2.1, u39)
abbrev wd_X0_addHappening (E : vE) (a_o a_o_streets a_o_names a_o_extras a_o_happenings a_o_watchers a_o_weeks a_o_happenings_cells : Nat) (o_wage : Int32) (o_delay : Int32) (o_odds : Int32) (o_clock : Int32) (o_hasWeeks : Int32) (o_happenings_many : Int32) (o_happenings_cells : Nat → Int32) : va_W := [(a_o, .inr (0, [.int o_wage, .int o_delay, .int o_odds, .int o_clock, .int o_hasWeeks, .ref a_o_streets, .ref a_o_names, .ref a_o_extras, .ref a_o_happenings, .ref a_o_watchers, .ref a_o_weeks])), (a_o_happenings, .inr (7, [.int 5, .ref a_o_happenings_cells, .int o_happenings_many])), (a_o_happenings_cells, .inl (E.2.1, 40, .inl o_happenings_cells))]
set_option maxHeartbeats 4000000 in
set_option maxRecDepth 100000 in
theorem ct_X0_addHappening (l : Launch) (E : vE) (F : Nat) (a_o a_o_streets a_o_names a_o_extras a_o_happenings a_o_watchers a_o_weeks a_o_happenings_cells : Nat) (o_wage : Int32) (o_delay : Int32) (o_odds : Int32) (o_clock : Int32) (o_hasWeeks : Int32) (o_happenings_many : Int32) (o_happenings_cells : Nat → Int32) (v1 : Int32) (v2 : Int32) (v3 : Int32) (u : Int32 × Int32 × (Nat → Int32)) (hf : X0_addHappening F o_happenings_many o_happenings_cells v1 v2 v3 = some u) :
    CtI l yX0_addHappening cX0_addHappening 5 (some .int) 2 E [.ref a_o, .int v1, .int v2, .int v3] (wd_X0_addHappening E a_o a_o_streets a_o_names a_o_extras a_o_happenings a_o_watchers a_o_weeks a_o_happenings_cells o_wage o_delay o_odds o_clock o_hasWeeks o_happenings_many o_happenings_cells) (wd_X0_addHappening E a_o a_o_streets a_o_names a_o_extras a_o_happenings a_o_watchers a_o_weeks a_o_happenings_cells o_wage o_delay o_odds o_clock o_hasWeeks u.2.1 u.2.2) u.1 := by
  refine ctI (by decide) (Nat.le_of_ble_eq_true rfl) ?_
  intro p e s m below meth cd A ls aa QQ hq cx hP hD hS hl
  obtain ⟨⟨hx, hb, hml, hown, hts⟩, hr, hlocks, hK, hA, hX⟩ := id cx
  have hl : lv_has ls 5 [(0, .ref a_o), (1, .int v1), (2, .int v2), (3, .int v3)] := hl
  unfold X0_addHappening at hf
  refine lv_aload_n hx hb dX0_addHappening_0 rfl (lv_at hl 0 rfl) ?_
  refine va_get (D := E.1) (ci := 0) (v := .ref a_o_happenings) (C := RX0) (T := TX0) (N := 11) hx hb hts inX0 hown hK hP 0 rfl rfl 8 (by decide) (hts _ fl_X0_34) (fun _ h9 => h9) rfl dX0_addHappening_1 ?_
  obtain ⟨u4, hu4, hf⟩ := bd hf
  refine callVI (wn := (wd_X0_addHappening E a_o a_o_streets a_o_names a_o_extras a_o_happenings a_o_watchers a_o_weeks a_o_happenings_cells o_wage o_delay o_odds o_clock o_hasWeeks u4.2.1 u4.2.2)) (n1 := 3) (ct_X7_add l E F a_o_happenings a_o_happenings_cells 40 5 o_happenings_many o_happenings_cells u4 hu4) [1, 2] cal_X7_add cav_X7_add lk_X0_80 cx hP hD hS hl dX0_addHappening_4 rfl rfl rfl rfl (Nat.le_of_ble_eq_true rfl) ⟨Nat.le_of_ble_eq_true rfl, Nat.le_of_ble_eq_true rfl⟩ rfl (by decide +kernel) rfl [none, some 0, some 1] rfl (by decide +kernel) rfl (fun H locs hP hD hS => ?_)
  refine lv_istore (lv' := [(4, .int u4.1), (0, .ref a_o), (1, .int v1), (2, .int v2), (3, .int v3)]) hx hb dX0_addHappening_7 hl (by decide) rfl (fun ls hl => ?_)
  refine lv_aload_n hx hb dX0_addHappening_9 rfl (lv_at hl 1 rfl) ?_
  refine va_get (D := E.1) (ci := 0) (v := .ref a_o_happenings) (C := RX0) (T := TX0) (N := 11) hx hb hts inX0 hown hK hP 0 rfl rfl 8 (by decide) (hts _ fl_X0_34) (fun _ h9 => h9) rfl dX0_addHappening_10 ?_
  refine lv_iload hx hb dX0_addHappening_13 (lv_at hl 0 rfl) ?_
  refine lv_iconst (v := 0) hx hb dX0_addHappening_15 (by decide) ?_
  refine lv_iload_n hx hb dX0_addHappening_16 rfl (lv_at hl 2 rfl) ?_
  obtain ⟨u17, hu17, hf⟩ := bd hf
  refine callVV (wn := (wd_X0_addHappening E a_o a_o_streets a_o_names a_o_extras a_o_happenings a_o_watchers a_o_weeks a_o_happenings_cells o_wage o_delay o_odds o_clock o_hasWeeks u4.2.1 u17)) (n1 := 3) (ct_X7_set l E a_o_happenings a_o_happenings_cells 40 5 u4.2.1 u4.2.2 u4.1 (0 : Int32) v1 u17 hu17) [1, 2] cal_X7_set cav_X7_set lk_X0_84 cx hP hD hS hl dX0_addHappening_17 rfl rfl rfl rfl (Nat.le_of_ble_eq_true rfl) ⟨Nat.le_of_ble_eq_true rfl, Nat.le_of_ble_eq_true rfl⟩ rfl (by decide +kernel) rfl [none, some 0, some 1] rfl (by decide +kernel) rfl (fun H locs hP hD hS => ?_)
  refine lv_aload_n hx hb dX0_addHappening_20 rfl (lv_at hl 1 rfl) ?_
  refine va_get (D := E.1) (ci := 0) (v := .ref a_o_happenings) (C := RX0) (T := TX0) (N := 11) hx hb hts inX0 hown hK hP 0 rfl rfl 8 (by decide) (hts _ fl_X0_34) (fun _ h9 => h9) rfl dX0_addHappening_21 ?_
  refine lv_iload hx hb dX0_addHappening_24 (lv_at hl 0 rfl) ?_
  refine lv_iconst (v := 1) hx hb dX0_addHappening_26 (by decide) ?_
  refine lv_iload_n hx hb dX0_addHappening_27 rfl (lv_at hl 3 rfl) ?_
  obtain ⟨u28, hu28, hf⟩ := bd hf
  refine callVV (wn := (wd_X0_addHappening E a_o a_o_streets a_o_names a_o_extras a_o_happenings a_o_watchers a_o_weeks a_o_happenings_cells o_wage o_delay o_odds o_clock o_hasWeeks u4.2.1 u28)) (n1 := 3) (ct_X7_set l E a_o_happenings a_o_happenings_cells 40 5 u4.2.1 u17 u4.1 (1 : Int32) v2 u28 hu28) [1, 2] cal_X7_set cav_X7_set lk_X0_84 cx hP hD hS hl dX0_addHappening_28 rfl rfl rfl rfl (Nat.le_of_ble_eq_true rfl) ⟨Nat.le_of_ble_eq_true rfl, Nat.le_of_ble_eq_true rfl⟩ rfl (by decide +kernel) rfl [none, some 0, some 1] rfl (by decide +kernel) rfl (fun H locs hP hD hS => ?_)
  refine lv_aload_n hx hb dX0_addHappening_31 rfl (lv_at hl 1 rfl) ?_
  refine va_get (D := E.1) (ci := 0) (v := .ref a_o_happenings) (C := RX0) (T := TX0) (N := 11) hx hb hts inX0 hown hK hP 0 rfl rfl 8 (by decide) (hts _ fl_X0_34) (fun _ h9 => h9) rfl dX0_addHappening_32 ?_
  refine lv_iload hx hb dX0_addHappening_35 (lv_at hl 0 rfl) ?_
  refine lv_iconst (v := 2) hx hb dX0_addHappening_37 (by decide) ?_
  refine lv_iload_n hx hb dX0_addHappening_38 rfl (lv_at hl 4 rfl) ?_
  obtain ⟨u39, hu39, hf⟩ := bd hf
  refine callVV (wn := (wd_X0_addHappening E a_o a_o_streets a_o_names a_o_extras a_o_happenings a_o_watchers a_o_weeks a_o_happenings_cells o_wage o_delay o_odds o_clock o_hasWeeks u4.2.1 u39)) (n1 := 3) (ct_X7_set l E a_o_happenings a_o_happenings_cells 40 5 u4.2.1 u28 u4.1 (2 : Int32) v3 u39 hu39) [1, 2] cal_X7_set cav_X7_set lk_X0_84 cx hP hD hS hl dX0_addHappening_39 rfl rfl rfl rfl (Nat.le_of_ble_eq_true rfl) ⟨Nat.le_of_ble_eq_true rfl, Nat.le_of_ble_eq_true rfl⟩ rfl (by decide +kernel) rfl [none, some 0, some 1] rfl (by decide +kernel) rfl (fun H locs hP hD hS => ?_)
  refine lv_iload hx hb dX0_addHappening_42 (lv_at hl 0 rfl) ?_
  obtain rfl := Option.some.inj hf
  subst hq
  exact retI cx hP hD hS dX0_addHappening_44
def X0_addWatcher (F : Nat) (o_watchers_many : Int32) (o_watchers_cells : Nat → Int32) (v1 : Int32) (v2 : Int32) : Option (Int32 × Int32 × (Nat → Int32)) :=
  (X7_add F 12 3 o_watchers_many o_watchers_cells).bind fun u4 =>
  (X7_set 12 3 u4.2.1 u4.2.2 u4.1 (0 : Int32) v1).bind fun u15 =>
  (X7_set 12 3 u4.2.1 u15 u4.1 (1 : Int32) v2).bind fun u25 =>
  some (u4.1, u4.2.1, u25)
abbrev wd_X0_addWatcher (E : vE) (a_o a_o_streets a_o_names a_o_extras a_o_happenings a_o_watchers a_o_weeks a_o_watchers_cells : Nat) (o_wage : Int32) (o_delay : Int32) (o_odds : Int32) (o_clock : Int32) (o_hasWeeks : Int32) (o_watchers_many : Int32) (o_watchers_cells : Nat → Int32) : va_W := [(a_o, .inr (0, [.int o_wage, .int o_delay, .int o_odds, .int o_clock, .int o_hasWeeks, .ref a_o_streets, .ref a_o_names, .ref a_o_extras, .ref a_o_happenings, .ref a_o_watchers, .ref a_o_weeks])), (a_o_watchers, .inr (7, [.int 3, .ref a_o_watchers_cells, .int o_watchers_many])), (a_o_watchers_cells, .inl (E.2.1, 12, .inl o_watchers_cells))]
set_option maxHeartbeats 4000000 in
set_option maxRecDepth 100000 in
theorem ct_X0_addWatcher (l : Launch) (E : vE) (F : Nat) (a_o a_o_streets a_o_names a_o_extras a_o_happenings a_o_watchers a_o_weeks a_o_watchers_cells : Nat) (o_wage : Int32) (o_delay : Int32) (o_odds : Int32) (o_clock : Int32) (o_hasWeeks : Int32) (o_watchers_many : Int32) (o_watchers_cells : Nat → Int32) (v1 : Int32) (v2 : Int32) (u : Int32 × Int32 × (Nat → Int32)) (hf : X0_addWatcher F o_watchers_many o_watchers_cells v1 v2 = some u) :
    CtI l yX0_addWatcher cX0_addWatcher 4 (some .int) 2 E [.ref a_o, .int v1, .int v2] (wd_X0_addWatcher E a_o a_o_streets a_o_names a_o_extras a_o_happenings a_o_watchers a_o_weeks a_o_watchers_cells o_wage o_delay o_odds o_clock o_hasWeeks o_watchers_many o_watchers_cells) (wd_X0_addWatcher E a_o a_o_streets a_o_names a_o_extras a_o_happenings a_o_watchers a_o_weeks a_o_watchers_cells o_wage o_delay o_odds o_clock o_hasWeeks u.2.1 u.2.2) u.1 := by
  refine ctI (by decide) (Nat.le_of_ble_eq_true rfl) ?_
  intro p e s m below meth cd A ls aa QQ hq cx hP hD hS hl
  obtain ⟨⟨hx, hb, hml, hown, hts⟩, hr, hlocks, hK, hA, hX⟩ := id cx
  have hl : lv_has ls 4 [(0, .ref a_o), (1, .int v1), (2, .int v2)] := hl
  unfold X0_addWatcher at hf
  refine lv_aload_n hx hb dX0_addWatcher_0 rfl (lv_at hl 0 rfl) ?_
  refine va_get (D := E.1) (ci := 0) (v := .ref a_o_watchers) (C := RX0) (T := TX0) (N := 11) hx hb hts inX0 hown hK hP 0 rfl rfl 9 (by decide) (hts _ fl_X0_37) (fun _ h9 => h9) rfl dX0_addWatcher_1 ?_
  obtain ⟨u4, hu4, hf⟩ := bd hf
  refine callVI (wn := (wd_X0_addWatcher E a_o a_o_streets a_o_names a_o_extras a_o_happenings a_o_watchers a_o_weeks a_o_watchers_cells o_wage o_delay o_odds o_clock o_hasWeeks u4.2.1 u4.2.2)) (n1 := 3) (ct_X7_add l E F a_o_watchers a_o_watchers_cells 12 3 o_watchers_many o_watchers_cells u4 hu4) [1, 2] cal_X7_add cav_X7_add lk_X0_80 cx hP hD hS hl dX0_addWatcher_4 rfl rfl rfl rfl (Nat.le_of_ble_eq_true rfl) ⟨Nat.le_of_ble_eq_true rfl, Nat.le_of_ble_eq_true rfl⟩ rfl (by decide +kernel) rfl [none, some 0, some 1] rfl (by decide +kernel) rfl (fun H locs hP hD hS => ?_)
  refine lv_istore_n (lv' := [(3, .int u4.1), (0, .ref a_o), (1, .int v1), (2, .int v2)]) hx hb dX0_addWatcher_7 rfl hl (by decide) rfl (fun ls hl => ?_)
  refine lv_aload_n hx hb dX0_addWatcher_8 rfl (lv_at hl 1 rfl) ?_
  refine va_get (D := E.1) (ci := 0) (v := .ref a_o_watchers) (C := RX0) (T := TX0) (N := 11) hx hb hts inX0 hown hK hP 0 rfl rfl 9 (by decide) (hts _ fl_X0_37) (fun _ h9 => h9) rfl dX0_addWatcher_9 ?_
  refine lv_iload_n hx hb dX0_addWatcher_12 rfl (lv_at hl 0 rfl) ?_
  refine lv_iconst (v := 0) hx hb dX0_addWatcher_13 (by decide) ?_
  refine lv_iload_n hx hb dX0_addWatcher_14 rfl (lv_at hl 2 rfl) ?_
  obtain ⟨u15, hu15, hf⟩ := bd hf
  refine callVV (wn := (wd_X0_addWatcher E a_o a_o_streets a_o_names a_o_extras a_o_happenings a_o_watchers a_o_weeks a_o_watchers_cells o_wage o_delay o_odds o_clock o_hasWeeks u4.2.1 u15)) (n1 := 3) (ct_X7_set l E a_o_watchers a_o_watchers_cells 12 3 u4.2.1 u4.2.2 u4.1 (0 : Int32) v1 u15 hu15) [1, 2] cal_X7_set cav_X7_set lk_X0_84 cx hP hD hS hl dX0_addWatcher_15 rfl rfl rfl rfl (Nat.le_of_ble_eq_true rfl) ⟨Nat.le_of_ble_eq_true rfl, Nat.le_of_ble_eq_true rfl⟩ rfl (by decide +kernel) rfl [none, some 0, some 1] rfl (by decide +kernel) rfl (fun H locs hP hD hS => ?_)
  refine lv_aload_n hx hb dX0_addWatcher_18 rfl (lv_at hl 1 rfl) ?_
  refine va_get (D := E.1) (ci := 0) (v := .ref a_o_watchers) (C := RX0) (T := TX0) (N := 11) hx hb hts inX0 hown hK hP 0 rfl rfl 9 (by decide) (hts _ fl_X0_37) (fun _ h9 => h9) rfl dX0_addWatcher_19 ?_
  refine lv_iload_n hx hb dX0_addWatcher_22 rfl (lv_at hl 0 rfl) ?_
  refine lv_iconst (v := 1) hx hb dX0_addWatcher_23 (by decide) ?_
  refine lv_iload_n hx hb dX0_addWatcher_24 rfl (lv_at hl 3 rfl) ?_
  obtain ⟨u25, hu25, hf⟩ := bd hf
  refine callVV (wn := (wd_X0_addWatcher E a_o a_o_streets a_o_names a_o_extras a_o_happenings a_o_watchers a_o_weeks a_o_watchers_cells o_wage o_delay o_odds o_clock o_hasWeeks u4.2.1 u25)) (n1 := 3) (ct_X7_set l E a_o_watchers a_o_watchers_cells 12 3 u4.2.1 u15 u4.1 (1 : Int32) v2 u25 hu25) [1, 2] cal_X7_set cav_X7_set lk_X0_84 cx hP hD hS hl dX0_addWatcher_25 rfl rfl rfl rfl (Nat.le_of_ble_eq_true rfl) ⟨Nat.le_of_ble_eq_true rfl, Nat.le_of_ble_eq_true rfl⟩ rfl (by decide +kernel) rfl [none, some 0, some 1] rfl (by decide +kernel) rfl (fun H locs hP hD hS => ?_)
  refine lv_iload_n hx hb dX0_addWatcher_28 rfl (lv_at hl 0 rfl) ?_
  obtain rfl := Option.some.inj hf
  subst hq
  exact retI cx hP hD hS dX0_addWatcher_29
def X7_get_j29 (n_o_cells : Nat) (o_width : Int32) (o_many : Int32) (o_cells : Nat → Int32) (v1 : Int32) (v2 : Int32) (k0 : Int32) : Option (Int32) :=
  if k0 = 0 then
  some 0
  else
  if ix ((v1 * o_width) + v2) n_o_cells then
  some (jat o_cells ((v1 * o_width) + v2))
  else none
def X7_get_j28 (n_o_cells : Nat) (o_width : Int32) (o_many : Int32) (o_cells : Nat → Int32) (v1 : Int32) (v2 : Int32) : Option (Int32) :=
  X7_get_j29 n_o_cells o_width o_many o_cells v1 v2 0
def X7_get (n_o_cells : Nat) (o_width : Int32) (o_many : Int32) (o_cells : Nat → Int32) (v1 : Int32) (v2 : Int32) : Option (Int32) :=
  if v1 < 0 then
  X7_get_j28 n_o_cells o_width o_many o_cells v1 v2
  else
  if o_many ≤ v1 then
  X7_get_j28 n_o_cells o_width o_many o_cells v1 v2
  else
  if v2 < 0 then
  X7_get_j28 n_o_cells o_width o_many o_cells v1 v2
  else
  if o_width ≤ v2 then
  X7_get_j28 n_o_cells o_width o_many o_cells v1 v2
  else
  X7_get_j29 n_o_cells o_width o_many o_cells v1 v2 1
abbrev wd_X7_get (E : vE) (a_o a_o_cells : Nat) (n_o_cells : Nat) (o_width : Int32) (o_many : Int32) (o_cells : Nat → Int32) : va_W := [(a_o, .inr (7, [.int o_width, .ref a_o_cells, .int o_many])), (a_o_cells, .inl (E.2.1, n_o_cells, .inl o_cells))]
set_option maxHeartbeats 4000000 in
set_option maxRecDepth 100000 in
theorem ct_X7_get (l : Launch) (E : vE) (a_o a_o_cells : Nat) (n_o_cells : Nat) (o_width : Int32) (o_many : Int32) (o_cells : Nat → Int32) (v1 : Int32) (v2 : Int32) (u : Int32) (hf : X7_get n_o_cells o_width o_many o_cells v1 v2 = some u) :
    CtI l yX7_get cX7_get 4 (some .int) 0 E [.ref a_o, .int v1, .int v2] (wd_X7_get E a_o a_o_cells n_o_cells o_width o_many o_cells) (wd_X7_get E a_o a_o_cells n_o_cells o_width o_many o_cells) u := by
  refine ctI (by decide) (Nat.le_of_ble_eq_true rfl) ?_
  intro p e s m below meth cd A ls aa QQ hq cx hP hD hS hl
  obtain ⟨⟨hx, hb, hml, hown, hts⟩, hr, hlocks, hK, hA, hX⟩ := id cx
  have hl : lv_has ls 4 [(0, .ref a_o), (1, .int v1), (2, .int v2)] := hl
  have hj29 : ∀ (k0_j29 : Int32) (H : Heap) (locs : List Loc) (ls : Array Slot), X7_get_j29 n_o_cells o_width o_many o_cells v1 v2 k0_j29 = some u → va_P E.1 vwCl (wd_X7_get E a_o a_o_cells n_o_cells o_width o_many o_cells) H → va_D A (wd_X7_get E a_o a_o_cells n_o_cells o_width o_many o_cells) → va_S A s.heap H locs → lv_has ls 4 [(0, .ref a_o), (1, .int v1), (2, .int v2)] → W p l e (rmd 0) s m aa below meth cd H locs 0 0 QQ (F0 m 29 ls [.int k0_j29]) := by
    intro k0_j29 H locs ls hf hP hD hS hl
    unfold X7_get_j29 at hf
    refine lv_istore_n (lv' := [(3, .int k0_j29), (0, .ref a_o), (1, .int v1), (2, .int v2)]) hx hb dX7_get_29 rfl hl (by decide) rfl (fun ls hl => ?_)
    refine lv_iload_n hx hb dX7_get_30 rfl (lv_at hl 0 rfl) ?_
    refine lv_if_eq (tgt := 50) hx hb dX7_get_31 (by decide) (fun hc => ?_) (fun hc => ?_)
    · have hf := it_t hc hf
      refine lv_iconst (v := 0) hx hb dX7_get_50 (by decide) ?_
      obtain rfl := Option.some.inj hf
      subst hq
      exact retI cx hP hD hS dX7_get_51
    · have hf := it_f hc hf
      refine lv_aload_n hx hb dX7_get_34 rfl (lv_at hl 1 rfl) ?_
      refine va_get (D := E.1) (ci := 7) (v := .ref a_o_cells) (C := RX7) (T := TX7) (N := 3) hx hb hts inX7 hown hK hP 0 rfl rfl 1 (by decide) (hts _ fl_X7_15) (fun _ h9 => h9) rfl dX7_get_35 ?_
      refine lv_iload_n hx hb dX7_get_38 rfl (lv_at hl 2 rfl) ?_
      refine lv_aload_n hx hb dX7_get_39 rfl (lv_at hl 1 rfl) ?_
      refine va_get (D := E.1) (ci := 7) (v := .int o_width) (C := RX7) (T := TX7) (N := 3) hx hb hts inX7 hown hK hP 0 rfl rfl 0 (by decide) (hts _ fl_X7_9) (fun _ h9 => h9) rfl dX7_get_40 ?_
      refine lv_imul hx hb dX7_get_43 ?_
      refine lv_iload_n hx hb dX7_get_44 rfl (lv_at hl 3 rfl) ?_
      refine lv_iadd hx hb dX7_get_45 ?_
      obtain ⟨hi, hf⟩ := ck hf
      refine r_iald 1 cx hP rfl hi dX7_get_46 ?_
      refine lv_goto (tgt := 51) hx hb dX7_get_47 (by decide) ?_
      obtain rfl := Option.some.inj hf
      subst hq
      exact retI cx hP hD hS dX7_get_51
  have hj28 : ∀ (H : Heap) (locs : List Loc) (ls : Array Slot), X7_get_j28 n_o_cells o_width o_many o_cells v1 v2 = some u → va_P E.1 vwCl (wd_X7_get E a_o a_o_cells n_o_cells o_width o_many o_cells) H → va_D A (wd_X7_get E a_o a_o_cells n_o_cells o_width o_many o_cells) → va_S A s.heap H locs → lv_has ls 4 [(0, .ref a_o), (1, .int v1), (2, .int v2)] → W p l e (rmd 0) s m aa below meth cd H locs 0 0 QQ (F0 m 28 ls []) := by
    intro H locs ls hf hP hD hS hl
    unfold X7_get_j28 at hf
    refine lv_iconst (v := 0) hx hb dX7_get_28 (by decide) ?_
    exact hj29 _ _ _ _ hf hP hD hS (lv_sub hl [0, 1, 2] rfl)
  unfold X7_get at hf
  refine lv_iload_n hx hb dX7_get_0 rfl (lv_at hl 1 rfl) ?_
  refine lv_if_lt (tgt := 28) hx hb dX7_get_1 (by decide) (fun hc => ?_) (fun hc => ?_)
  · have hf := it_t hc hf
    exact hj28  _ _ _ hf hP hD hS (lv_sub hl [0, 1, 2] rfl)
  · have hf := it_f hc hf
    refine lv_iload_n hx hb dX7_get_4 rfl (lv_at hl 1 rfl) ?_
    refine lv_aload_n hx hb dX7_get_5 rfl (lv_at hl 0 rfl) ?_
    refine va_get (D := E.1) (ci := 7) (v := .int o_many) (C := RX7) (T := TX7) (N := 3) hx hb hts inX7 hown hK hP 0 rfl rfl 2 (by decide) (hts _ fl_X7_19) (fun _ h9 => h9) rfl dX7_get_6 ?_
    refine lv_icmp_ge (tgt := 28) hx hb dX7_get_9 (by decide) (fun hc => ?_) (fun hc => ?_)
    · have hf := it_t hc hf
      exact hj28  _ _ _ hf hP hD hS (lv_sub hl [0, 1, 2] rfl)
    · have hf := it_f hc hf
      refine lv_iload_n hx hb dX7_get_12 rfl (lv_at hl 2 rfl) ?_
      refine lv_if_lt (tgt := 28) hx hb dX7_get_13 (by decide) (fun hc => ?_) (fun hc => ?_)
      · have hf := it_t hc hf
        exact hj28  _ _ _ hf hP hD hS (lv_sub hl [0, 1, 2] rfl)
      · have hf := it_f hc hf
        refine lv_iload_n hx hb dX7_get_16 rfl (lv_at hl 2 rfl) ?_
        refine lv_aload_n hx hb dX7_get_17 rfl (lv_at hl 0 rfl) ?_
        refine va_get (D := E.1) (ci := 7) (v := .int o_width) (C := RX7) (T := TX7) (N := 3) hx hb hts inX7 hown hK hP 0 rfl rfl 0 (by decide) (hts _ fl_X7_9) (fun _ h9 => h9) rfl dX7_get_18 ?_
        refine lv_icmp_ge (tgt := 28) hx hb dX7_get_21 (by decide) (fun hc => ?_) (fun hc => ?_)
        · have hf := it_t hc hf
          exact hj28  _ _ _ hf hP hD hS (lv_sub hl [0, 1, 2] rfl)
        · have hf := it_f hc hf
          refine lv_iconst (v := 1) hx hb dX7_get_24 (by decide) ?_
          refine lv_goto (tgt := 29) hx hb dX7_get_25 (by decide) ?_
          exact hj29 _ _ _ _ hf hP hD hS (lv_sub hl [0, 1, 2] rfl)
def X7_withValue_j32 (F : Nat) (n_o_cells : Nat) (o_width : Int32) (o_many : Int32) (o_cells : Nat → Int32) (v1 : Int32) (v2 : Int32) (v3 : Int32) (v4 : Int32) : Option ((Int32 × Int32) ⊕ ((Int32))) :=
  some (.inl (v3, (v4 + 1)))
def X7_withValue_b5 (F : Nat) (n_o_cells : Nat) (o_width : Int32) (o_many : Int32) (o_cells : Nat → Int32) (v1 : Int32) (v2 : Int32) (st5 : Int32 × Int32) : Option ((Int32 × Int32) ⊕ ((Int32))) :=
  if o_many ≤ st5.2 then
  some (.inr st5.1)
  else
  (X7_get n_o_cells o_width o_many o_cells st5.2 v1).bind fun u18 =>
  if u18 = v2 then
  X7_withValue_j32 F n_o_cells o_width o_many o_cells v1 v2 (st5.1 ||| (jshl 1 st5.2)) st5.2
  else
  X7_withValue_j32 F n_o_cells o_width o_many o_cells v1 v2 st5.1 st5.2
def X7_withValue (F : Nat) (n_o_cells : Nat) (o_width : Int32) (o_many : Int32) (o_cells : Nat → Int32) (v1 : Int32) (v2 : Int32) : Option (Int32) :=
  (iter (X7_withValue_b5 F n_o_cells o_width o_many o_cells v1 v2) F (0, 0)).bind (fun (e5 : Int32) =>
    some e5)
abbrev wd_X7_withValue (E : vE) (a_o a_o_cells : Nat) (n_o_cells : Nat) (o_width : Int32) (o_many : Int32) (o_cells : Nat → Int32) : va_W := [(a_o, .inr (7, [.int o_width, .ref a_o_cells, .int o_many])), (a_o_cells, .inl (E.2.1, n_o_cells, .inl o_cells))]
set_option maxHeartbeats 4000000 in
set_option maxRecDepth 100000 in
theorem ct_X7_withValue (l : Launch) (E : vE) (F : Nat) (a_o a_o_cells : Nat) (n_o_cells : Nat) (o_width : Int32) (o_many : Int32) (o_cells : Nat → Int32) (v1 : Int32) (v2 : Int32) (u : Int32) (hf : X7_withValue F n_o_cells o_width o_many o_cells v1 v2 = some u) :
    CtI l yX7_withValue cX7_withValue 5 (some .int) 1 E [.ref a_o, .int v1, .int v2] (wd_X7_withValue E a_o a_o_cells n_o_cells o_width o_many o_cells) (wd_X7_withValue E a_o a_o_cells n_o_cells o_width o_many o_cells) u := by
  refine ctI (by decide) (Nat.le_of_ble_eq_true rfl) ?_
  intro p e s m below meth cd A ls aa QQ hq cx hP hD hS hl
  obtain ⟨⟨hx, hb, hml, hown, hts⟩, hr, hlocks, hK, hA, hX⟩ := id cx
  have hl : lv_has ls 5 [(0, .ref a_o), (1, .int v1), (2, .int v2)] := hl
  unfold X7_withValue at hf
  refine lv_iconst (v := 0) hx hb dX7_withValue_0 (by decide) ?_
  refine lv_istore_n (lv' := [(3, .int 0), (0, .ref a_o), (1, .int v1), (2, .int v2)]) hx hb dX7_withValue_1 rfl hl (by decide) rfl (fun ls hl => ?_)
  refine lv_iconst (v := 0) hx hb dX7_withValue_2 (by decide) ?_
  refine lv_istore (lv' := [(4, .int 0), (3, .int 0), (0, .ref a_o), (1, .int v1), (2, .int v2)]) hx hb dX7_withValue_3 hl (by decide) rfl (fun ls hl => ?_)
  obtain ⟨e5, hit5, hf⟩ := bd hf
  refine iter_W (b := X7_withValue_b5 F n_o_cells o_width o_many o_cells v1 v2) (P := fun st5 => ∀ (H : Heap) (locs : List Loc) (ls : Array Slot), va_P E.1 vwCl (wd_X7_withValue E a_o a_o_cells n_o_cells o_width o_many o_cells) H → va_D A (wd_X7_withValue E a_o a_o_cells n_o_cells o_width o_many o_cells) → va_S A s.heap H locs → lv_has ls 5 [(0, .ref a_o), (1, .int v1), (2, .int v2), (3, .int st5.1), (4, .int st5.2)] → W p l e (rmd 1) s m aa below meth cd H locs 0 0 QQ (F0 m 5 ls [])) (G := (fun (e5 : Int32) => ∀ (H : Heap) (locs : List Loc) (ls : Array Slot), va_P E.1 vwCl (wd_X7_withValue E a_o a_o_cells n_o_cells o_width o_many o_cells) H → va_D A (wd_X7_withValue E a_o a_o_cells n_o_cells o_width o_many o_cells) → va_S A s.heap H locs → lv_has ls 5 [(3, .int e5)] → W p l e (rmd 1) s m aa below meth cd H locs 0 0 QQ (F0 m 38 ls []))) ?_ F (0, 0) e5 hit5 ?_ _ _ _ hP hD hS (lv_sub hl [2, 3, 4, 1, 0] rfl)
  · intro st5 r5 hf hk5 he5 H locs ls hP hD hS hl
    have hj32 : ∀ (v3_j32 : Int32) (v4_j32 : Int32) (H : Heap) (locs : List Loc) (ls : Array Slot), X7_withValue_j32 F n_o_cells o_width o_many o_cells v1 v2 v3_j32 v4_j32 = some r5 → va_P E.1 vwCl (wd_X7_withValue E a_o a_o_cells n_o_cells o_width o_many o_cells) H → va_D A (wd_X7_withValue E a_o a_o_cells n_o_cells o_width o_many o_cells) → va_S A s.heap H locs → lv_has ls 5 [(0, .ref a_o), (1, .int v1), (2, .int v2), (3, .int v3_j32), (4, .int v4_j32)] → W p l e (rmd 1) s m aa below meth cd H locs 0 0 QQ (F0 m 32 ls []) := by
      intro v3_j32 v4_j32 H locs ls hf hP hD hS hl
      unfold X7_withValue_j32 at hf
      refine lv_iinc (v := (v4_j32 + 1)) (lv' := [(4, .int (v4_j32 + 1)), (0, .ref a_o), (1, .int v1), (2, .int v2), (3, .int v3_j32)]) hx hb dX7_withValue_32 hl (k := 4) rfl rfl (by decide) rfl (fun ls hl => ?_)
      refine lv_goto (tgt := 5) hx hb dX7_withValue_35 (by decide) ?_
      exact hk5 _ (Option.some.inj hf).symm _ _ _ hP hD hS (lv_sub hl [1, 2, 3, 4, 0] rfl)
    unfold X7_withValue_b5 at hf
    refine lv_iload hx hb dX7_withValue_5 (lv_at hl 4 rfl) ?_
    refine lv_aload_n hx hb dX7_withValue_7 rfl (lv_at hl 0 rfl) ?_
    refine va_get (D := E.1) (ci := 7) (v := .int o_many) (C := RX7) (T := TX7) (N := 3) hx hb hts inX7 hown hK hP 0 rfl rfl 2 (by decide) (hts _ fl_X7_19) (fun _ h9 => h9) rfl dX7_withValue_8 ?_
    refine lv_icmp_ge (tgt := 38) hx hb dX7_withValue_11 (by decide) (fun hc => ?_) (fun hc => ?_)
    · have hf := it_t hc hf
      exact he5 _ (Option.some.inj hf).symm _ _ _ hP hD hS (lv_sub hl [3] rfl)
    · have hf := it_f hc hf
      refine lv_aload_n hx hb dX7_withValue_14 rfl (lv_at hl 0 rfl) ?_
      refine lv_iload hx hb dX7_withValue_15 (lv_at hl 4 rfl) ?_
      refine lv_iload_n hx hb dX7_withValue_17 rfl (lv_at hl 1 rfl) ?_
      obtain ⟨u18, hu18, hf⟩ := bd hf
      refine keepVI (ct_X7_get l E a_o a_o_cells n_o_cells o_width o_many o_cells st5.2 v1 u18 hu18) [0, 1] cal_X7_get cav_X7_get lk_X7_30 cx hP hD hS hl dX7_withValue_18 rfl rfl rfl rfl (Nat.le_of_ble_eq_true rfl) ⟨Nat.le_of_ble_eq_true rfl, Nat.le_of_ble_eq_true rfl⟩ rfl (by decide) (fun H locs hP hS => ?_)
      refine lv_iload_n hx hb dX7_withValue_21 rfl (lv_at hl 2 rfl) ?_
      refine lv_icmp_ne (tgt := 32) hx hb dX7_withValue_22 (by decide) (fun hc => ?_) (fun hc => ?_)
      · have hf := it_f hc hf
        exact hj32 _ _ _ _ _ hf hP hD hS (lv_sub hl [0, 1, 2, 3, 4] rfl)
      · have hf := it_t hc hf
        refine lv_iload_n hx hb dX7_withValue_25 rfl (lv_at hl 3 rfl) ?_
        refine lv_iconst (v := 1) hx hb dX7_withValue_26 (by decide) ?_
        refine lv_iload hx hb dX7_withValue_27 (lv_at hl 4 rfl) ?_
        refine r_ishl hx hb dX7_withValue_29 ?_
        refine lv_ior hx hb dX7_withValue_30 ?_
        refine lv_istore_n (lv' := [(3, .int (st5.1 ||| (jshl 1 st5.2))), (0, .ref a_o), (1, .int v1), (2, .int v2), (4, .int st5.2)]) hx hb dX7_withValue_31 rfl hl (by decide) rfl (fun ls hl => ?_)
        exact hj32 _ _ _ _ _ hf hP hD hS (lv_sub hl [1, 2, 3, 0, 4] rfl)
  · refine fun H locs ls hP hD hS hl => ?_
    refine lv_iload_n hx hb dX7_withValue_38 rfl (lv_at hl 0 rfl) ?_
    obtain rfl := Option.some.inj hf
    subst hq
    exact retI cx hP hD hS dX7_withValue_39
def X0_withFate (F : Nat) (o_happenings_many : Int32) (o_happenings_cells : Nat → Int32) (v1 : Int32) : Option (Int32) :=
  (X7_withValue F 40 5 o_happenings_many o_happenings_cells (3 : Int32) v1).bind fun u6 =>
  some u6
abbrev wd_X0_withFate (E : vE) (a_o a_o_streets a_o_names a_o_extras a_o_happenings a_o_watchers a_o_weeks a_o_happenings_cells : Nat) (o_wage : Int32) (o_delay : Int32) (o_odds : Int32) (o_clock : Int32) (o_hasWeeks : Int32) (o_happenings_many : Int32) (o_happenings_cells : Nat → Int32) : va_W := [(a_o, .inr (0, [.int o_wage, .int o_delay, .int o_odds, .int o_clock, .int o_hasWeeks, .ref a_o_streets, .ref a_o_names, .ref a_o_extras, .ref a_o_happenings, .ref a_o_watchers, .ref a_o_weeks])), (a_o_happenings, .inr (7, [.int 5, .ref a_o_happenings_cells, .int o_happenings_many])), (a_o_happenings_cells, .inl (E.2.1, 40, .inl o_happenings_cells))]
set_option maxHeartbeats 4000000 in
set_option maxRecDepth 100000 in
theorem ct_X0_withFate (l : Launch) (E : vE) (F : Nat) (a_o a_o_streets a_o_names a_o_extras a_o_happenings a_o_watchers a_o_weeks a_o_happenings_cells : Nat) (o_wage : Int32) (o_delay : Int32) (o_odds : Int32) (o_clock : Int32) (o_hasWeeks : Int32) (o_happenings_many : Int32) (o_happenings_cells : Nat → Int32) (v1 : Int32) (u : Int32) (hf : X0_withFate F o_happenings_many o_happenings_cells v1 = some u) :
    CtI l yX0_withFate cX0_withFate 2 (some .int) 2 E [.ref a_o, .int v1] (wd_X0_withFate E a_o a_o_streets a_o_names a_o_extras a_o_happenings a_o_watchers a_o_weeks a_o_happenings_cells o_wage o_delay o_odds o_clock o_hasWeeks o_happenings_many o_happenings_cells) (wd_X0_withFate E a_o a_o_streets a_o_names a_o_extras a_o_happenings a_o_watchers a_o_weeks a_o_happenings_cells o_wage o_delay o_odds o_clock o_hasWeeks o_happenings_many o_happenings_cells) u := by
  refine ctI (by decide) (Nat.le_of_ble_eq_true rfl) ?_
  intro p e s m below meth cd A ls aa QQ hq cx hP hD hS hl
  obtain ⟨⟨hx, hb, hml, hown, hts⟩, hr, hlocks, hK, hA, hX⟩ := id cx
  have hl : lv_has ls 2 [(0, .ref a_o), (1, .int v1)] := hl
  unfold X0_withFate at hf
  refine lv_aload_n hx hb dX0_withFate_0 rfl (lv_at hl 0 rfl) ?_
  refine va_get (D := E.1) (ci := 0) (v := .ref a_o_happenings) (C := RX0) (T := TX0) (N := 11) hx hb hts inX0 hown hK hP 0 rfl rfl 8 (by decide) (hts _ fl_X0_34) (fun _ h9 => h9) rfl dX0_withFate_1 ?_
  refine lv_iconst (v := 3) hx hb dX0_withFate_4 (by decide) ?_
  refine lv_iload_n hx hb dX0_withFate_5 rfl (lv_at hl 1 rfl) ?_
  obtain ⟨u6, hu6, hf⟩ := bd hf
  refine keepVI (ct_X7_withValue l E F a_o_happenings a_o_happenings_cells 40 5 o_happenings_many o_happenings_cells (3 : Int32) v1 u6 hu6) [1, 2] cal_X7_withValue cav_X7_withValue lk_X0_88 cx hP hD hS hl dX0_withFate_6 rfl rfl rfl rfl (Nat.le_of_ble_eq_true rfl) ⟨Nat.le_of_ble_eq_true rfl, Nat.le_of_ble_eq_true rfl⟩ rfl (by decide) (fun H locs hP hS => ?_)
  obtain rfl := Option.some.inj hf
  subst hq
  exact retI cx hP hD hS dX0_withFate_9
def X0_isToCome (o_happenings_many : Int32) (o_happenings_cells : Nat → Int32) (v1 : Int32) : Option (Int32) :=
  (X7_get 40 5 o_happenings_many o_happenings_cells v1 (3 : Int32)).bind fun u6 =>
  if u6 = 0 then
  some 1
  else
  some 0
abbrev wd_X0_isToCome (E : vE) (a_o a_o_streets a_o_names a_o_extras a_o_happenings a_o_watchers a_o_weeks a_o_happenings_cells : Nat) (o_wage : Int32) (o_delay : Int32) (o_odds : Int32) (o_clock : Int32) (o_hasWeeks : Int32) (o_happenings_many : Int32) (o_happenings_cells : Nat → Int32) : va_W := [(a_o, .inr (0, [.int o_wage, .int o_delay, .int o_odds, .int o_clock, .int o_hasWeeks, .ref a_o_streets, .ref a_o_names, .ref a_o_extras, .ref a_o_happenings, .ref a_o_watchers, .ref a_o_weeks])), (a_o_happenings, .inr (7, [.int 5, .ref a_o_happenings_cells, .int o_happenings_many])), (a_o_happenings_cells, .inl (E.2.1, 40, .inl o_happenings_cells))]
set_option maxHeartbeats 4000000 in
set_option maxRecDepth 100000 in
theorem ct_X0_isToCome (l : Launch) (E : vE) (a_o a_o_streets a_o_names a_o_extras a_o_happenings a_o_watchers a_o_weeks a_o_happenings_cells : Nat) (o_wage : Int32) (o_delay : Int32) (o_odds : Int32) (o_clock : Int32) (o_hasWeeks : Int32) (o_happenings_many : Int32) (o_happenings_cells : Nat → Int32) (v1 : Int32) (u : Int32) (hf : X0_isToCome o_happenings_many o_happenings_cells v1 = some u) :
    CtI l yX0_isToCome cX0_isToCome 2 (some .boolean) 1 E [.ref a_o, .int v1] (wd_X0_isToCome E a_o a_o_streets a_o_names a_o_extras a_o_happenings a_o_watchers a_o_weeks a_o_happenings_cells o_wage o_delay o_odds o_clock o_hasWeeks o_happenings_many o_happenings_cells) (wd_X0_isToCome E a_o a_o_streets a_o_names a_o_extras a_o_happenings a_o_watchers a_o_weeks a_o_happenings_cells o_wage o_delay o_odds o_clock o_hasWeeks o_happenings_many o_happenings_cells) u := by
  refine ctI (by decide) (Nat.le_of_ble_eq_true rfl) ?_
  intro p e s m below meth cd A ls aa QQ hq cx hP hD hS hl
  obtain ⟨⟨hx, hb, hml, hown, hts⟩, hr, hlocks, hK, hA, hX⟩ := id cx
  have hl : lv_has ls 2 [(0, .ref a_o), (1, .int v1)] := hl
  unfold X0_isToCome at hf
  refine lv_aload_n hx hb dX0_isToCome_0 rfl (lv_at hl 0 rfl) ?_
  refine va_get (D := E.1) (ci := 0) (v := .ref a_o_happenings) (C := RX0) (T := TX0) (N := 11) hx hb hts inX0 hown hK hP 0 rfl rfl 8 (by decide) (hts _ fl_X0_34) (fun _ h9 => h9) rfl dX0_isToCome_1 ?_
  refine lv_iload_n hx hb dX0_isToCome_4 rfl (lv_at hl 1 rfl) ?_
  refine lv_iconst (v := 3) hx hb dX0_isToCome_5 (by decide) ?_
  obtain ⟨u6, hu6, hf⟩ := bd hf
  refine keepVI (ct_X7_get l E a_o_happenings a_o_happenings_cells 40 5 o_happenings_many o_happenings_cells v1 (3 : Int32) u6 hu6) [1, 2] cal_X7_get cav_X7_get lk_X0_92 cx hP hD hS hl dX0_isToCome_6 rfl rfl rfl rfl (Nat.le_of_ble_eq_true rfl) ⟨Nat.le_of_ble_eq_true rfl, Nat.le_of_ble_eq_true rfl⟩ rfl (by decide) (fun H locs hP hS => ?_)
  refine lv_if_ne (tgt := 16) hx hb dX0_isToCome_9 (by decide) (fun hc => ?_) (fun hc => ?_)
  · have hf := it_f hc hf
    refine lv_iconst (v := 0) hx hb dX0_isToCome_16 (by decide) ?_
    obtain rfl := Option.some.inj hf
    subst hq
    exact retZ cx rfl hP hD hS dX0_isToCome_17
  · have hf := it_t hc hf
    refine lv_iconst (v := 1) hx hb dX0_isToCome_12 (by decide) ?_
    refine lv_goto (tgt := 17) hx hb dX0_isToCome_13 (by decide) ?_
    obtain rfl := Option.some.inj hf
    subst hq
    exact retZ cx rfl hP hD hS dX0_isToCome_17
