def X2_tells (o_missed : Int32) (o_hours : Int32) (o_happened : Int32) (o_warned : Int32) (o_unfinished : Int32) (v1 : Int32) : Option (Int32) :=
  if v1 = 0 then
  some o_missed
  else if v1 = 1 then
  some o_hours
  else if v1 = 2 then
  some o_happened
  else if v1 = 3 then
  some o_warned
  else some o_unfinished
abbrev wd_X2_tells (E : vE) (a_o a_o_begins a_o_ends a_o_timesLeft : Nat) (o_seed : Int32) (o_steps : Int32) (o_isOver : Int32) (o_missed : Int32) (o_hours : Int32) (o_happened : Int32) (o_warned : Int32) (o_unfinished : Int32) : va_W := [(a_o, .inr (2, [.ref a_o_begins, .ref a_o_ends, .ref a_o_timesLeft, .int o_seed, .int o_steps, .int o_isOver, .int o_missed, .int o_hours, .int o_happened, .int o_warned, .int o_unfinished]))]
set_option maxHeartbeats 4000000 in
set_option maxRecDepth 100000 in
theorem ct_X2_tells (l : Launch) (E : vE) (a_o a_o_begins a_o_ends a_o_timesLeft : Nat) (o_seed : Int32) (o_steps : Int32) (o_isOver : Int32) (o_missed : Int32) (o_hours : Int32) (o_happened : Int32) (o_warned : Int32) (o_unfinished : Int32) (v1 : Int32) (u : Int32) (hf : X2_tells o_missed o_hours o_happened o_warned o_unfinished v1 = some u) :
    CtI l yX2_tells cX2_tells 2 (some .int) 0 E [.ref a_o, .int v1] (wd_X2_tells E a_o a_o_begins a_o_ends a_o_timesLeft o_seed o_steps o_isOver o_missed o_hours o_happened o_warned o_unfinished) (wd_X2_tells E a_o a_o_begins a_o_ends a_o_timesLeft o_seed o_steps o_isOver o_missed o_hours o_happened o_warned o_unfinished) u := by
  refine ctI (by decide) (Nat.le_of_ble_eq_true rfl) ?_
  intro p e s m below meth cd A ls aa QQ hq cx hP hD hS hl
  obtain ⟨⟨hx, hb, hml, hown, hts⟩, hr, hlocks, hK, hA, hX⟩ := id cx
  have hl : lv_has ls 2 [(0, .ref a_o), (1, .int v1)] := hl
  unfold X2_tells at hf
  refine lv_iload_n hx hb dX2_tells_0 rfl (lv_at hl 1 rfl) ?_
  by_cases hc1 : v1 = 0
  · have hf := it_t hc1 hf
    refine swT (tgt := 32) 0 cx dX2_tells_1 (by rw [hc1]; decide) (by decide) rfl (by decide) ?_
    refine lv_aload_n hx hb dX2_tells_32 rfl (lv_at hl 0 rfl) ?_
    refine va_get (D := E.1) (ci := 2) (v := .int o_missed) (C := RX2) (T := TX2) (N := 11) hx hb hts inX2 hown hK hP 0 rfl rfl 6 (by decide) (hts _ fl_X2_67) (fun _ h9 => h9) rfl dX2_tells_33 ?_
    obtain rfl := Option.some.inj hf
    subst hq
    exact retI cx hP hD hS dX2_tells_36
  · have hf := it_f hc1 hf
    by_cases hc2 : v1 = 1
    · have hf := it_t hc2 hf
      refine swT (tgt := 37) 1 cx dX2_tells_1 (by rw [hc2]; decide) (by decide) rfl (by decide) ?_
      refine lv_aload_n hx hb dX2_tells_37 rfl (lv_at hl 0 rfl) ?_
      refine va_get (D := E.1) (ci := 2) (v := .int o_hours) (C := RX2) (T := TX2) (N := 11) hx hb hts inX2 hown hK hP 0 rfl rfl 7 (by decide) (hts _ fl_X2_70) (fun _ h9 => h9) rfl dX2_tells_38 ?_
      obtain rfl := Option.some.inj hf
      subst hq
      exact retI cx hP hD hS dX2_tells_41
    · have hf := it_f hc2 hf
      by_cases hc3 : v1 = 2
      · have hf := it_t hc3 hf
        refine swT (tgt := 42) 2 cx dX2_tells_1 (by rw [hc3]; decide) (by decide) rfl (by decide) ?_
        refine lv_aload_n hx hb dX2_tells_42 rfl (lv_at hl 0 rfl) ?_
        refine va_get (D := E.1) (ci := 2) (v := .int o_happened) (C := RX2) (T := TX2) (N := 11) hx hb hts inX2 hown hK hP 0 rfl rfl 8 (by decide) (hts _ fl_X2_73) (fun _ h9 => h9) rfl dX2_tells_43 ?_
        obtain rfl := Option.some.inj hf
        subst hq
        exact retI cx hP hD hS dX2_tells_46
      · have hf := it_f hc3 hf
        by_cases hc4 : v1 = 3
        · have hf := it_t hc4 hf
          refine swT (tgt := 47) 3 cx dX2_tells_1 (by rw [hc4]; decide) (by decide) rfl (by decide) ?_
          refine lv_aload_n hx hb dX2_tells_47 rfl (lv_at hl 0 rfl) ?_
          refine va_get (D := E.1) (ci := 2) (v := .int o_warned) (C := RX2) (T := TX2) (N := 11) hx hb hts inX2 hown hK hP 0 rfl rfl 9 (by decide) (hts _ fl_X2_76) (fun _ h9 => h9) rfl dX2_tells_48 ?_
          obtain rfl := Option.some.inj hf
          subst hq
          exact retI cx hP hD hS dX2_tells_51
        · have hf := it_f hc4 hf
          refine swD (tgt := 52) [0, 1, 2, 3] cx dX2_tells_1 ?_ (by decide) (by decide) ?_
          · intro z hz
            simp only [List.mem_cons, List.not_mem_nil, or_false] at hz
            rcases hz with rfl | rfl | rfl | rfl
            · exact ne_int hc1 (by decide)
            · exact ne_int hc2 (by decide)
            · exact ne_int hc3 (by decide)
            · exact ne_int hc4 (by decide)
          · refine lv_aload_n hx hb dX2_tells_52 rfl (lv_at hl 0 rfl) ?_
            refine va_get (D := E.1) (ci := 2) (v := .int o_unfinished) (C := RX2) (T := TX2) (N := 11) hx hb hts inX2 hown hK hP 0 rfl rfl 10 (by decide) (hts _ fl_X2_45) (fun _ h9 => h9) rfl dX2_tells_53 ?_
            obtain rfl := Option.some.inj hf
            subst hq
            exact retI cx hP hD hS dX2_tells_56
def X4_lineUp_j145 (F : Nat) (o_lined : Int32) (o_open : Int32) (o_line : Nat → Int32) (q1_clock : Int32) (q1_happenings_many : Int32) (q1_happenings_cells : Nat → Int32) (v2 : Int32) : Option ((Int32 × Int32 × Int32 × (Nat → Int32)) ⊕ ((Int32 × Int32 × (Nat → Int32)))) :=
  some (.inl ((v2 + 1), o_lined, o_open, o_line))
def X4_lineUp_j115 (F : Nat) (o_lined : Int32) (o_open : Int32) (o_line : Nat → Int32) (q1_clock : Int32) (q1_happenings_many : Int32) (q1_happenings_cells : Nat → Int32) (v2 : Int32) (v4 : Int32) : Option ((Int32 × Int32 × Int32 × (Nat → Int32)) ⊕ ((Int32 × Int32 × (Nat → Int32)))) :=
  if ix v4 8 then
  X4_lineUp_j145 F (o_lined + 1) (o_open ||| (jshl 1 v2)) (jput o_line v4 v2) q1_clock q1_happenings_many q1_happenings_cells v2
  else none
def X4_lineUp_b67 (F : Nat) (o_lined : Int32) (o_open : Int32) (q1_clock : Int32) (q1_happenings_many : Int32) (q1_happenings_cells : Nat → Int32) (v2 : Int32) (v3 : Int32) (st67 : Int32 × (Nat → Int32)) : Option ((Int32 × (Nat → Int32)) ⊕ ((Int32 × (Nat → Int32)))) :=
  if st67.1 ≤ 0 then
  some (.inr (st67.1, st67.2))
  else
  if ix (st67.1 - 1) 8 then
  (X7_get 40 5 q1_happenings_many q1_happenings_cells (jat st67.2 (st67.1 - 1)) (1 : Int32)).bind fun u86 =>
  if u86 ≤ v3 then
  some (.inr (st67.1, st67.2))
  else
  if ix (st67.1 - 1) 8 then
  if ix st67.1 8 then
  some (.inl ((st67.1 + (-1)), (jput st67.2 st67.1 (jat st67.2 (st67.1 - 1)))))
  else none
  else none
  else none
def X4_lineUp_b12 (F : Nat) (q1_clock : Int32) (q1_happenings_many : Int32) (q1_happenings_cells : Nat → Int32) (st12 : Int32 × Int32 × Int32 × (Nat → Int32)) : Option ((Int32 × Int32 × Int32 × (Nat → Int32)) ⊕ ((Int32 × Int32 × (Nat → Int32)))) :=
  if q1_happenings_many ≤ st12.1 then
  some (.inr (st12.2.1, st12.2.2.1, st12.2.2.2))
  else
  if (8 : Int32) ≤ st12.2.1 then
  some (.inr (st12.2.1, st12.2.2.1, st12.2.2.2))
  else
  (X7_get 40 5 q1_happenings_many q1_happenings_cells st12.1 (1 : Int32)).bind fun u38 =>
  (X0_isToCome q1_happenings_many q1_happenings_cells st12.1).bind fun u44 =>
  if u44 = 0 then
  X4_lineUp_j145 F st12.2.1 st12.2.2.1 st12.2.2.2 q1_clock q1_happenings_many q1_happenings_cells st12.1
  else
  if q1_clock ≤ u38 then
  (iter (X4_lineUp_b67 F st12.2.1 st12.2.2.1 q1_clock q1_happenings_many q1_happenings_cells st12.1 u38) F (st12.2.1, st12.2.2.2)).bind (fun (e67 : Int32 × (Nat → Int32)) =>
    X4_lineUp_j115 F st12.2.1 st12.2.2.1 e67.2 q1_clock q1_happenings_many q1_happenings_cells st12.1 e67.1)
  else
  X4_lineUp_j145 F st12.2.1 st12.2.2.1 st12.2.2.2 q1_clock q1_happenings_many q1_happenings_cells st12.1
def X4_lineUp (F : Nat) (o_lined : Int32) (o_open : Int32) (o_line : Nat → Int32) (q1_clock : Int32) (q1_happenings_many : Int32) (q1_happenings_cells : Nat → Int32) : Option (Int32 × Int32 × (Nat → Int32)) :=
  (iter (X4_lineUp_b12 F q1_clock q1_happenings_many q1_happenings_cells) F (0, 0, 0, o_line)).bind (fun (e12 : Int32 × Int32 × (Nat → Int32)) =>
    some (e12.1, e12.2.1, e12.2.2))
abbrev wd_X4_lineUp (E : vE) (a_o a_o_line a_o_reached a_q1 a_q1_streets a_q1_names a_q1_extras a_q1_happenings a_q1_watchers a_q1_weeks a_q1_happenings_cells : Nat) (o_lined : Int32) (o_open : Int32) (o_line : Nat → Int32) (q1_wage : Int32) (q1_delay : Int32) (q1_odds : Int32) (q1_clock : Int32) (q1_hasWeeks : Int32) (q1_happenings_many : Int32) (q1_happenings_cells : Nat → Int32) : va_W := [(a_o, .inr (4, [.ref a_o_line, .int o_lined, .ref a_o_reached, .int o_open])), (a_o_line, .inl (E.2.1, 8, .inl o_line)), (a_q1, .inr (0, [.int q1_wage, .int q1_delay, .int q1_odds, .int q1_clock, .int q1_hasWeeks, .ref a_q1_streets, .ref a_q1_names, .ref a_q1_extras, .ref a_q1_happenings, .ref a_q1_watchers, .ref a_q1_weeks])), (a_q1_happenings, .inr (7, [.int 5, .ref a_q1_happenings_cells, .int q1_happenings_many])), (a_q1_happenings_cells, .inl (E.2.1, 40, .inl q1_happenings_cells))]
set_option maxHeartbeats 4000000 in
set_option maxRecDepth 100000 in
theorem ct_X4_lineUp (l : Launch) (E : vE) (F : Nat) (a_o a_o_line a_o_reached a_q1 a_q1_streets a_q1_names a_q1_extras a_q1_happenings a_q1_watchers a_q1_weeks a_q1_happenings_cells : Nat) (o_lined : Int32) (o_open : Int32) (o_line : Nat → Int32) (q1_wage : Int32) (q1_delay : Int32) (q1_odds : Int32) (q1_clock : Int32) (q1_hasWeeks : Int32) (q1_happenings_many : Int32) (q1_happenings_cells : Nat → Int32) (u : Int32 × Int32 × (Nat → Int32)) (hf : X4_lineUp F o_lined o_open o_line q1_clock q1_happenings_many q1_happenings_cells = some u) :
    CtV l yX4_lineUp cX4_lineUp 5 none 2 E [.ref a_o, .ref a_q1] (wd_X4_lineUp E a_o a_o_line a_o_reached a_q1 a_q1_streets a_q1_names a_q1_extras a_q1_happenings a_q1_watchers a_q1_weeks a_q1_happenings_cells o_lined o_open o_line q1_wage q1_delay q1_odds q1_clock q1_hasWeeks q1_happenings_many q1_happenings_cells) (wd_X4_lineUp E a_o a_o_line a_o_reached a_q1 a_q1_streets a_q1_names a_q1_extras a_q1_happenings a_q1_watchers a_q1_weeks a_q1_happenings_cells u.1 u.2.1 u.2.2 q1_wage q1_delay q1_odds q1_clock q1_hasWeeks q1_happenings_many q1_happenings_cells) := by
  refine ctV (by decide) (Nat.le_of_ble_eq_true rfl) ?_
  intro p e s m below meth cd A ls aa QQ hq cx hP hD hS hl
  obtain ⟨⟨hx, hb, hml, hown, hts⟩, hr, hlocks, hK, hA, hX⟩ := id cx
  have hl : lv_has ls 5 [(0, .ref a_o), (1, .ref a_q1)] := hl
  unfold X4_lineUp at hf
  refine lv_aload_n hx hb dX4_lineUp_0 rfl (lv_at hl 0 rfl) ?_
  refine lv_iconst (v := 0) hx hb dX4_lineUp_1 (by decide) ?_
  refine va_put (D := E.1) (ci := 4) (v := .int 0) (ty := .int) (C := RX4) (T := TX4) (N := 4) hx hb hts inX4 tyX4 tyX4_ok nmX4 hown hK hP hD hS 0 rfl rfl 3 (by decide) (hts _ fl_X4_18) (fun _ h9 => h9) rfl (by decide +kernel) rfl rfl (Nat.le_of_ble_eq_true rfl) dX4_lineUp_2 (fun H locs hP hD hS => ?_)
  have hP : va_P E.1 vwCl (wd_X4_lineUp E a_o a_o_line a_o_reached a_q1 a_q1_streets a_q1_names a_q1_extras a_q1_happenings a_q1_watchers a_q1_weeks a_q1_happenings_cells o_lined 0 o_line q1_wage q1_delay q1_odds q1_clock q1_hasWeeks q1_happenings_many q1_happenings_cells) H := hP
  have hD : va_D A (wd_X4_lineUp E a_o a_o_line a_o_reached a_q1 a_q1_streets a_q1_names a_q1_extras a_q1_happenings a_q1_watchers a_q1_weeks a_q1_happenings_cells o_lined 0 o_line q1_wage q1_delay q1_odds q1_clock q1_hasWeeks q1_happenings_many q1_happenings_cells) := hD
  refine lv_aload_n hx hb dX4_lineUp_5 rfl (lv_at hl 0 rfl) ?_
  refine lv_iconst (v := 0) hx hb dX4_lineUp_6 (by decide) ?_
  refine va_put (D := E.1) (ci := 4) (v := .int 0) (ty := .int) (C := RX4) (T := TX4) (N := 4) hx hb hts inX4 tyX4 tyX4_ok nmX4 hown hK hP hD hS 0 rfl rfl 1 (by decide) (hts _ fl_X4_22) (fun _ h9 => h9) rfl (by decide +kernel) rfl rfl (Nat.le_of_ble_eq_true rfl) dX4_lineUp_7 (fun H locs hP hD hS => ?_)
  have hP : va_P E.1 vwCl (wd_X4_lineUp E a_o a_o_line a_o_reached a_q1 a_q1_streets a_q1_names a_q1_extras a_q1_happenings a_q1_watchers a_q1_weeks a_q1_happenings_cells 0 0 o_line q1_wage q1_delay q1_odds q1_clock q1_hasWeeks q1_happenings_many q1_happenings_cells) H := hP
  have hD : va_D A (wd_X4_lineUp E a_o a_o_line a_o_reached a_q1 a_q1_streets a_q1_names a_q1_extras a_q1_happenings a_q1_watchers a_q1_weeks a_q1_happenings_cells 0 0 o_line q1_wage q1_delay q1_odds q1_clock q1_hasWeeks q1_happenings_many q1_happenings_cells) := hD
  refine lv_iconst (v := 0) hx hb dX4_lineUp_10 (by decide) ?_
  refine lv_istore_n (lv' := [(2, .int 0), (0, .ref a_o), (1, .ref a_q1)]) hx hb dX4_lineUp_11 rfl hl (by decide) rfl (fun ls hl => ?_)
  obtain ⟨e12, hit12, hf⟩ := bd hf
  refine iter_W (b := X4_lineUp_b12 F q1_clock q1_happenings_many q1_happenings_cells) (P := fun st12 => ∀ (H : Heap) (locs : List Loc) (ls : Array Slot), va_P E.1 vwCl (wd_X4_lineUp E a_o a_o_line a_o_reached a_q1 a_q1_streets a_q1_names a_q1_extras a_q1_happenings a_q1_watchers a_q1_weeks a_q1_happenings_cells st12.2.1 st12.2.2.1 st12.2.2.2 q1_wage q1_delay q1_odds q1_clock q1_hasWeeks q1_happenings_many q1_happenings_cells) H → va_D A (wd_X4_lineUp E a_o a_o_line a_o_reached a_q1 a_q1_streets a_q1_names a_q1_extras a_q1_happenings a_q1_watchers a_q1_weeks a_q1_happenings_cells st12.2.1 st12.2.2.1 st12.2.2.2 q1_wage q1_delay q1_odds q1_clock q1_hasWeeks q1_happenings_many q1_happenings_cells) → va_S A s.heap H locs → lv_has ls 5 [(0, .ref a_o), (1, .ref a_q1), (2, .int st12.1)] → W p l e (rmd 2) s m aa below meth cd H locs 0 0 QQ (F0 m 12 ls [])) (G := (fun (e12 : Int32 × Int32 × (Nat → Int32)) => ∀ (H : Heap) (locs : List Loc) (ls : Array Slot), va_P E.1 vwCl (wd_X4_lineUp E a_o a_o_line a_o_reached a_q1 a_q1_streets a_q1_names a_q1_extras a_q1_happenings a_q1_watchers a_q1_weeks a_q1_happenings_cells e12.1 e12.2.1 e12.2.2 q1_wage q1_delay q1_odds q1_clock q1_hasWeeks q1_happenings_many q1_happenings_cells) H → va_D A (wd_X4_lineUp E a_o a_o_line a_o_reached a_q1 a_q1_streets a_q1_names a_q1_extras a_q1_happenings a_q1_watchers a_q1_weeks a_q1_happenings_cells e12.1 e12.2.1 e12.2.2 q1_wage q1_delay q1_odds q1_clock q1_hasWeeks q1_happenings_many q1_happenings_cells) → va_S A s.heap H locs → lv_has ls 5 [] → W p l e (rmd 2) s m aa below meth cd H locs 0 0 QQ (F0 m 151 ls []))) ?_ F (0, 0, 0, o_line) e12 hit12 ?_ _ _ _ hP hD hS (lv_sub hl [1, 2, 0] rfl)
  · intro st12 r12 hf hk12 he12 H locs ls hP hD hS hl
    have hj145 : ∀ (v2_j145 : Int32) (o_lined_j145 : Int32) (o_open_j145 : Int32) (o_line_j145 : Nat → Int32) (H : Heap) (locs : List Loc) (ls : Array Slot), X4_lineUp_j145 F o_lined_j145 o_open_j145 o_line_j145 q1_clock q1_happenings_many q1_happenings_cells v2_j145 = some r12 → va_P E.1 vwCl (wd_X4_lineUp E a_o a_o_line a_o_reached a_q1 a_q1_streets a_q1_names a_q1_extras a_q1_happenings a_q1_watchers a_q1_weeks a_q1_happenings_cells o_lined_j145 o_open_j145 o_line_j145 q1_wage q1_delay q1_odds q1_clock q1_hasWeeks q1_happenings_many q1_happenings_cells) H → va_D A (wd_X4_lineUp E a_o a_o_line a_o_reached a_q1 a_q1_streets a_q1_names a_q1_extras a_q1_happenings a_q1_watchers a_q1_weeks a_q1_happenings_cells o_lined_j145 o_open_j145 o_line_j145 q1_wage q1_delay q1_odds q1_clock q1_hasWeeks q1_happenings_many q1_happenings_cells) → va_S A s.heap H locs → lv_has ls 5 [(0, .ref a_o), (1, .ref a_q1), (2, .int v2_j145)] → W p l e (rmd 2) s m aa below meth cd H locs 0 0 QQ (F0 m 145 ls []) := by
      intro v2_j145 o_lined_j145 o_open_j145 o_line_j145 H locs ls hf hP hD hS hl
      unfold X4_lineUp_j145 at hf
      refine lv_iinc (v := (v2_j145 + 1)) (lv' := [(2, .int (v2_j145 + 1)), (0, .ref a_o), (1, .ref a_q1)]) hx hb dX4_lineUp_145 hl (k := 2) rfl rfl (by decide) rfl (fun ls hl => ?_)
      refine lv_goto (tgt := 12) hx hb dX4_lineUp_148 (by decide) ?_
      exact hk12 _ (Option.some.inj hf).symm _ _ _ hP hD hS (lv_sub hl [1, 2, 0] rfl)
    have hj115 : ∀ (v2_j115 : Int32) (v4_j115 : Int32) (o_lined_j115 : Int32) (o_open_j115 : Int32) (o_line_j115 : Nat → Int32) (H : Heap) (locs : List Loc) (ls : Array Slot), X4_lineUp_j115 F o_lined_j115 o_open_j115 o_line_j115 q1_clock q1_happenings_many q1_happenings_cells v2_j115 v4_j115 = some r12 → va_P E.1 vwCl (wd_X4_lineUp E a_o a_o_line a_o_reached a_q1 a_q1_streets a_q1_names a_q1_extras a_q1_happenings a_q1_watchers a_q1_weeks a_q1_happenings_cells o_lined_j115 o_open_j115 o_line_j115 q1_wage q1_delay q1_odds q1_clock q1_hasWeeks q1_happenings_many q1_happenings_cells) H → va_D A (wd_X4_lineUp E a_o a_o_line a_o_reached a_q1 a_q1_streets a_q1_names a_q1_extras a_q1_happenings a_q1_watchers a_q1_weeks a_q1_happenings_cells o_lined_j115 o_open_j115 o_line_j115 q1_wage q1_delay q1_odds q1_clock q1_hasWeeks q1_happenings_many q1_happenings_cells) → va_S A s.heap H locs → lv_has ls 5 [(0, .ref a_o), (1, .ref a_q1), (2, .int v2_j115), (4, .int v4_j115)] → W p l e (rmd 2) s m aa below meth cd H locs 0 0 QQ (F0 m 115 ls []) := by
      intro v2_j115 v4_j115 o_lined_j115 o_open_j115 o_line_j115 H locs ls hf hP hD hS hl
      unfold X4_lineUp_j115 at hf
      refine lv_aload_n hx hb dX4_lineUp_115 rfl (lv_at hl 0 rfl) ?_
      refine va_get (D := E.1) (ci := 4) (v := .ref a_o_line) (C := RX4) (T := TX4) (N := 4) hx hb hts inX4 hown hK hP 0 rfl rfl 0 (by decide) (hts _ fl_X4_11) (fun _ h9 => h9) rfl dX4_lineUp_116 ?_
      refine lv_iload hx hb dX4_lineUp_119 (lv_at hl 3 rfl) ?_
      refine lv_iload_n hx hb dX4_lineUp_121 rfl (lv_at hl 2 rfl) ?_
      obtain ⟨hi, hf⟩ := ck hf
      refine r_iast 1 cx hP hD hS rfl hi dX4_lineUp_122 (fun H locs hP hD hS => ?_)
      have hP : va_P E.1 vwCl (wd_X4_lineUp E a_o a_o_line a_o_reached a_q1 a_q1_streets a_q1_names a_q1_extras a_q1_happenings a_q1_watchers a_q1_weeks a_q1_happenings_cells o_lined_j115 o_open_j115 (jput o_line_j115 v4_j115 v2_j115) q1_wage q1_delay q1_odds q1_clock q1_hasWeeks q1_happenings_many q1_happenings_cells) H := hP
      have hD : va_D A (wd_X4_lineUp E a_o a_o_line a_o_reached a_q1 a_q1_streets a_q1_names a_q1_extras a_q1_happenings a_q1_watchers a_q1_weeks a_q1_happenings_cells o_lined_j115 o_open_j115 (jput o_line_j115 v4_j115 v2_j115) q1_wage q1_delay q1_odds q1_clock q1_hasWeeks q1_happenings_many q1_happenings_cells) := hD
      refine lv_aload_n hx hb dX4_lineUp_123 rfl (lv_at hl 0 rfl) ?_
      refine lv_dup hx hb dX4_lineUp_124 rfl ?_
      refine va_get (D := E.1) (ci := 4) (v := .int o_lined_j115) (C := RX4) (T := TX4) (N := 4) hx hb hts inX4 hown hK hP 0 rfl rfl 1 (by decide) (hts _ fl_X4_22) (fun _ h9 => h9) rfl dX4_lineUp_125 ?_
      refine lv_iconst (v := 1) hx hb dX4_lineUp_128 (by decide) ?_
      refine lv_iadd hx hb dX4_lineUp_129 ?_
      refine va_put (D := E.1) (ci := 4) (v := .int (o_lined_j115 + 1)) (ty := .int) (C := RX4) (T := TX4) (N := 4) hx hb hts inX4 tyX4 tyX4_ok nmX4 hown hK hP hD hS 0 rfl rfl 1 (by decide) (hts _ fl_X4_22) (fun _ h9 => h9) rfl (by decide +kernel) rfl rfl (Nat.le_of_ble_eq_true rfl) dX4_lineUp_130 (fun H locs hP hD hS => ?_)
      have hP : va_P E.1 vwCl (wd_X4_lineUp E a_o a_o_line a_o_reached a_q1 a_q1_streets a_q1_names a_q1_extras a_q1_happenings a_q1_watchers a_q1_weeks a_q1_happenings_cells (o_lined_j115 + 1) o_open_j115 (jput o_line_j115 v4_j115 v2_j115) q1_wage q1_delay q1_odds q1_clock q1_hasWeeks q1_happenings_many q1_happenings_cells) H := hP
      have hD : va_D A (wd_X4_lineUp E a_o a_o_line a_o_reached a_q1 a_q1_streets a_q1_names a_q1_extras a_q1_happenings a_q1_watchers a_q1_weeks a_q1_happenings_cells (o_lined_j115 + 1) o_open_j115 (jput o_line_j115 v4_j115 v2_j115) q1_wage q1_delay q1_odds q1_clock q1_hasWeeks q1_happenings_many q1_happenings_cells) := hD
      refine lv_aload_n hx hb dX4_lineUp_133 rfl (lv_at hl 0 rfl) ?_
      refine lv_dup hx hb dX4_lineUp_134 rfl ?_
      refine va_get (D := E.1) (ci := 4) (v := .int o_open_j115) (C := RX4) (T := TX4) (N := 4) hx hb hts inX4 hown hK hP 0 rfl rfl 3 (by decide) (hts _ fl_X4_18) (fun _ h9 => h9) rfl dX4_lineUp_135 ?_
      refine lv_iconst (v := 1) hx hb dX4_lineUp_138 (by decide) ?_
      refine lv_iload_n hx hb dX4_lineUp_139 rfl (lv_at hl 2 rfl) ?_
      refine r_ishl hx hb dX4_lineUp_140 ?_
      refine lv_ior hx hb dX4_lineUp_141 ?_
      refine va_put (D := E.1) (ci := 4) (v := .int (o_open_j115 ||| (jshl 1 v2_j115))) (ty := .int) (C := RX4) (T := TX4) (N := 4) hx hb hts inX4 tyX4 tyX4_ok nmX4 hown hK hP hD hS 0 rfl rfl 3 (by decide) (hts _ fl_X4_18) (fun _ h9 => h9) rfl (by decide +kernel) rfl rfl (Nat.le_of_ble_eq_true rfl) dX4_lineUp_142 (fun H locs hP hD hS => ?_)
      have hP : va_P E.1 vwCl (wd_X4_lineUp E a_o a_o_line a_o_reached a_q1 a_q1_streets a_q1_names a_q1_extras a_q1_happenings a_q1_watchers a_q1_weeks a_q1_happenings_cells (o_lined_j115 + 1) (o_open_j115 ||| (jshl 1 v2_j115)) (jput o_line_j115 v4_j115 v2_j115) q1_wage q1_delay q1_odds q1_clock q1_hasWeeks q1_happenings_many q1_happenings_cells) H := hP
      have hD : va_D A (wd_X4_lineUp E a_o a_o_line a_o_reached a_q1 a_q1_streets a_q1_names a_q1_extras a_q1_happenings a_q1_watchers a_q1_weeks a_q1_happenings_cells (o_lined_j115 + 1) (o_open_j115 ||| (jshl 1 v2_j115)) (jput o_line_j115 v4_j115 v2_j115) q1_wage q1_delay q1_odds q1_clock q1_hasWeeks q1_happenings_many q1_happenings_cells) := hD
      exact hj145 _ _ _ _ _ _ _ hf hP hD hS (lv_sub hl [0, 1, 2] rfl)
    unfold X4_lineUp_b12 at hf
    refine lv_iload_n hx hb dX4_lineUp_12 rfl (lv_at hl 2 rfl) ?_
    refine lv_aload_n hx hb dX4_lineUp_13 rfl (lv_at hl 1 rfl) ?_
    refine va_get (D := E.1) (ci := 0) (v := .ref a_q1_happenings) (C := RX0) (T := TX0) (N := 11) hx hb hts inX0 hown hK hP 2 rfl rfl 8 (by decide) (hts _ fl_X4_25) (fun _ h9 => h9) rfl dX4_lineUp_14 ?_
    refine va_get (D := E.1) (ci := 7) (v := .int q1_happenings_many) (C := RX7) (T := TX7) (N := 3) hx hb hts inX7 hown hK hP 3 rfl rfl 2 (by decide) (hts _ fl_X4_31) (fun _ h9 => h9) rfl dX4_lineUp_17 ?_
    refine lv_icmp_ge (tgt := 151) hx hb dX4_lineUp_20 (by decide) (fun hc => ?_) (fun hc => ?_)
    · have hf := it_t hc hf
      exact he12 _ (Option.some.inj hf).symm _ _ _ hP hD hS (lv_sub hl [] rfl)
    · have hf := it_f hc hf
      refine lv_aload_n hx hb dX4_lineUp_23 rfl (lv_at hl 0 rfl) ?_
      refine va_get (D := E.1) (ci := 4) (v := .int st12.2.1) (C := RX4) (T := TX4) (N := 4) hx hb hts inX4 hown hK hP 0 rfl rfl 1 (by decide) (hts _ fl_X4_22) (fun _ h9 => h9) rfl dX4_lineUp_24 ?_
      refine lv_bipush (v := 8) hx hb dX4_lineUp_27 (by decide) ?_
      refine lv_icmp_ge (tgt := 151) hx hb dX4_lineUp_29 (by decide) (fun hc => ?_) (fun hc => ?_)
      · have hf := it_t hc hf
        exact he12 _ (Option.some.inj hf).symm _ _ _ hP hD hS (lv_sub hl [] rfl)
      · have hf := it_f hc hf
        refine lv_aload_n hx hb dX4_lineUp_32 rfl (lv_at hl 1 rfl) ?_
        refine va_get (D := E.1) (ci := 0) (v := .ref a_q1_happenings) (C := RX0) (T := TX0) (N := 11) hx hb hts inX0 hown hK hP 2 rfl rfl 8 (by decide) (hts _ fl_X4_25) (fun _ h9 => h9) rfl dX4_lineUp_33 ?_
        refine lv_iload_n hx hb dX4_lineUp_36 rfl (lv_at hl 2 rfl) ?_
        refine lv_iconst (v := 1) hx hb dX4_lineUp_37 (by decide) ?_
        obtain ⟨u38, hu38, hf⟩ := bd hf
        refine keepVI (ct_X7_get l E a_q1_happenings a_q1_happenings_cells 40 5 q1_happenings_many q1_happenings_cells st12.1 (1 : Int32) u38 hu38) [3, 4] cal_X7_get cav_X7_get lk_X4_36 cx hP hD hS hl dX4_lineUp_38 rfl rfl rfl rfl (Nat.le_of_ble_eq_true rfl) ⟨Nat.le_of_ble_eq_true rfl, Nat.le_of_ble_eq_true rfl⟩ rfl (by decide) (fun H locs hP hS => ?_)
        refine lv_istore_n (lv' := [(3, .int u38), (0, .ref a_o), (1, .ref a_q1), (2, .int st12.1)]) hx hb dX4_lineUp_41 rfl hl (by decide) rfl (fun ls hl => ?_)
        refine lv_aload_n hx hb dX4_lineUp_42 rfl (lv_at hl 2 rfl) ?_
        refine lv_iload_n hx hb dX4_lineUp_43 rfl (lv_at hl 3 rfl) ?_
        obtain ⟨u44, hu44, hf⟩ := bd hf
        refine keepVI (ct_X0_isToCome l E a_q1 a_q1_streets a_q1_names a_q1_extras a_q1_happenings a_q1_watchers a_q1_weeks a_q1_happenings_cells q1_wage q1_delay q1_odds q1_clock q1_hasWeeks q1_happenings_many q1_happenings_cells st12.1 u44 hu44) [2, 3, 4] cal_X0_isToCome cav_X0_isToCome lk_X4_40 cx hP hD hS hl dX4_lineUp_44 rfl rfl rfl rfl (Nat.le_of_ble_eq_true rfl) ⟨Nat.le_of_ble_eq_true rfl, Nat.le_of_ble_eq_true rfl⟩ rfl (by decide) (fun H locs hP hS => ?_)
        refine lv_if_eq (tgt := 145) hx hb dX4_lineUp_47 (by decide) (fun hc => ?_) (fun hc => ?_)
        · have hf := it_t hc hf
          exact hj145 _ _ _ _ _ _ _ hf hP hD hS (lv_sub hl [1, 2, 3] rfl)
        · have hf := it_f hc hf
          refine lv_iload_n hx hb dX4_lineUp_50 rfl (lv_at hl 0 rfl) ?_
          refine lv_aload_n hx hb dX4_lineUp_51 rfl (lv_at hl 2 rfl) ?_
          refine va_get (D := E.1) (ci := 0) (v := .int q1_clock) (C := RX0) (T := TX0) (N := 11) hx hb hts inX0 hown hK hP 2 rfl rfl 3 (by decide) (hts _ fl_X4_44) (fun _ h9 => h9) rfl dX4_lineUp_52 ?_
          refine lv_icmp_ge (tgt := 61) hx hb dX4_lineUp_55 (by decide) (fun hc => ?_) (fun hc => ?_)
          · have hf := it_t hc hf
            refine lv_aload_n hx hb dX4_lineUp_61 rfl (lv_at hl 1 rfl) ?_
            refine va_get (D := E.1) (ci := 4) (v := .int st12.2.1) (C := RX4) (T := TX4) (N := 4) hx hb hts inX4 hown hK hP 0 rfl rfl 1 (by decide) (hts _ fl_X4_22) (fun _ h9 => h9) rfl dX4_lineUp_62 ?_
            refine lv_istore (lv' := [(4, .int st12.2.1), (3, .int u38), (0, .ref a_o), (1, .ref a_q1), (2, .int st12.1)]) hx hb dX4_lineUp_65 hl (by decide) rfl (fun ls hl => ?_)
            obtain ⟨e67, hit67, hf⟩ := bd hf
            refine iter_W (b := X4_lineUp_b67 F st12.2.1 st12.2.2.1 q1_clock q1_happenings_many q1_happenings_cells st12.1 u38) (P := fun st67 => ∀ (H : Heap) (locs : List Loc) (ls : Array Slot), va_P E.1 vwCl (wd_X4_lineUp E a_o a_o_line a_o_reached a_q1 a_q1_streets a_q1_names a_q1_extras a_q1_happenings a_q1_watchers a_q1_weeks a_q1_happenings_cells st12.2.1 st12.2.2.1 st67.2 q1_wage q1_delay q1_odds q1_clock q1_hasWeeks q1_happenings_many q1_happenings_cells) H → va_D A (wd_X4_lineUp E a_o a_o_line a_o_reached a_q1 a_q1_streets a_q1_names a_q1_extras a_q1_happenings a_q1_watchers a_q1_weeks a_q1_happenings_cells st12.2.1 st12.2.2.1 st67.2 q1_wage q1_delay q1_odds q1_clock q1_hasWeeks q1_happenings_many q1_happenings_cells) → va_S A s.heap H locs → lv_has ls 5 [(0, .ref a_o), (1, .ref a_q1), (2, .int st12.1), (3, .int u38), (4, .int st67.1)] → W p l e (rmd 2) s m aa below meth cd H locs 0 0 QQ (F0 m 67 ls [])) (G := (fun (e67 : Int32 × (Nat → Int32)) => ∀ (H : Heap) (locs : List Loc) (ls : Array Slot), va_P E.1 vwCl (wd_X4_lineUp E a_o a_o_line a_o_reached a_q1 a_q1_streets a_q1_names a_q1_extras a_q1_happenings a_q1_watchers a_q1_weeks a_q1_happenings_cells st12.2.1 st12.2.2.1 e67.2 q1_wage q1_delay q1_odds q1_clock q1_hasWeeks q1_happenings_many q1_happenings_cells) H → va_D A (wd_X4_lineUp E a_o a_o_line a_o_reached a_q1 a_q1_streets a_q1_names a_q1_extras a_q1_happenings a_q1_watchers a_q1_weeks a_q1_happenings_cells st12.2.1 st12.2.2.1 e67.2 q1_wage q1_delay q1_odds q1_clock q1_hasWeeks q1_happenings_many q1_happenings_cells) → va_S A s.heap H locs → lv_has ls 5 [(0, .ref a_o), (1, .ref a_q1), (2, .int st12.1), (4, .int e67.1)] → W p l e (rmd 2) s m aa below meth cd H locs 0 0 QQ (F0 m 115 ls []))) ?_ F (st12.2.1, st12.2.2.2) e67 hit67 ?_ _ _ _ hP hD hS (lv_sub hl [2, 3, 4, 1, 0] rfl)
            · intro st67 r67 hf hk67 he67 H locs ls hP hD hS hl
              unfold X4_lineUp_b67 at hf
              refine lv_iload hx hb dX4_lineUp_67 (lv_at hl 4 rfl) ?_
              refine lv_if_le (tgt := 115) hx hb dX4_lineUp_69 (by decide) (fun hc => ?_) (fun hc => ?_)
              · have hf := it_t hc hf
                exact he67 _ (Option.some.inj hf).symm _ _ _ hP hD hS (lv_sub hl [0, 1, 2, 4] rfl)
              · have hf := it_f hc hf
                refine lv_aload_n hx hb dX4_lineUp_72 rfl (lv_at hl 1 rfl) ?_
                refine va_get (D := E.1) (ci := 0) (v := .ref a_q1_happenings) (C := RX0) (T := TX0) (N := 11) hx hb hts inX0 hown hK hP 2 rfl rfl 8 (by decide) (hts _ fl_X4_25) (fun _ h9 => h9) rfl dX4_lineUp_73 ?_
                refine lv_aload_n hx hb dX4_lineUp_76 rfl (lv_at hl 0 rfl) ?_
                refine va_get (D := E.1) (ci := 4) (v := .ref a_o_line) (C := RX4) (T := TX4) (N := 4) hx hb hts inX4 hown hK hP 0 rfl rfl 0 (by decide) (hts _ fl_X4_11) (fun _ h9 => h9) rfl dX4_lineUp_77 ?_
                refine lv_iload hx hb dX4_lineUp_80 (lv_at hl 4 rfl) ?_
                refine lv_iconst (v := 1) hx hb dX4_lineUp_82 (by decide) ?_
                refine lv_isub hx hb dX4_lineUp_83 ?_
                obtain ⟨hi, hf⟩ := ck hf
                refine r_iald 1 cx hP rfl hi dX4_lineUp_84 ?_
                refine lv_iconst (v := 1) hx hb dX4_lineUp_85 (by decide) ?_
                obtain ⟨u86, hu86, hf⟩ := bd hf
                refine keepVI (ct_X7_get l E a_q1_happenings a_q1_happenings_cells 40 5 q1_happenings_many q1_happenings_cells (jat st67.2 (st67.1 - 1)) (1 : Int32) u86 hu86) [3, 4] cal_X7_get cav_X7_get lk_X4_36 cx hP hD hS hl dX4_lineUp_86 rfl rfl rfl rfl (Nat.le_of_ble_eq_true rfl) ⟨Nat.le_of_ble_eq_true rfl, Nat.le_of_ble_eq_true rfl⟩ rfl (by decide) (fun H locs hP hS => ?_)
                refine lv_iload_n hx hb dX4_lineUp_89 rfl (lv_at hl 3 rfl) ?_
                refine lv_icmp_le (tgt := 115) hx hb dX4_lineUp_90 (by decide) (fun hc => ?_) (fun hc => ?_)
                · have hf := it_t hc hf
                  exact he67 _ (Option.some.inj hf).symm _ _ _ hP hD hS (lv_sub hl [0, 1, 2, 4] rfl)
                · have hf := it_f hc hf
                  refine lv_aload_n hx hb dX4_lineUp_93 rfl (lv_at hl 0 rfl) ?_
                  refine va_get (D := E.1) (ci := 4) (v := .ref a_o_line) (C := RX4) (T := TX4) (N := 4) hx hb hts inX4 hown hK hP 0 rfl rfl 0 (by decide) (hts _ fl_X4_11) (fun _ h9 => h9) rfl dX4_lineUp_94 ?_
                  refine lv_iload hx hb dX4_lineUp_97 (lv_at hl 4 rfl) ?_
                  refine lv_aload_n hx hb dX4_lineUp_99 rfl (lv_at hl 0 rfl) ?_
                  refine va_get (D := E.1) (ci := 4) (v := .ref a_o_line) (C := RX4) (T := TX4) (N := 4) hx hb hts inX4 hown hK hP 0 rfl rfl 0 (by decide) (hts _ fl_X4_11) (fun _ h9 => h9) rfl dX4_lineUp_100 ?_
                  refine lv_iload hx hb dX4_lineUp_103 (lv_at hl 4 rfl) ?_
                  refine lv_iconst (v := 1) hx hb dX4_lineUp_105 (by decide) ?_
                  refine lv_isub hx hb dX4_lineUp_106 ?_
                  obtain ⟨hi, hf⟩ := ck hf
                  refine r_iald 1 cx hP rfl hi dX4_lineUp_107 ?_
                  obtain ⟨hi, hf⟩ := ck hf
                  refine r_iast 1 cx hP hD hS rfl hi dX4_lineUp_108 (fun H locs hP hD hS => ?_)
                  have hP : va_P E.1 vwCl (wd_X4_lineUp E a_o a_o_line a_o_reached a_q1 a_q1_streets a_q1_names a_q1_extras a_q1_happenings a_q1_watchers a_q1_weeks a_q1_happenings_cells st12.2.1 st12.2.2.1 (jput st67.2 st67.1 (jat st67.2 (st67.1 - 1))) q1_wage q1_delay q1_odds q1_clock q1_hasWeeks q1_happenings_many q1_happenings_cells) H := hP
                  have hD : va_D A (wd_X4_lineUp E a_o a_o_line a_o_reached a_q1 a_q1_streets a_q1_names a_q1_extras a_q1_happenings a_q1_watchers a_q1_weeks a_q1_happenings_cells st12.2.1 st12.2.2.1 (jput st67.2 st67.1 (jat st67.2 (st67.1 - 1))) q1_wage q1_delay q1_odds q1_clock q1_hasWeeks q1_happenings_many q1_happenings_cells) := hD
                  refine lv_iinc (v := (st67.1 + (-1))) (lv' := [(4, .int (st67.1 + (-1))), (0, .ref a_o), (1, .ref a_q1), (2, .int st12.1), (3, .int u38)]) hx hb dX4_lineUp_109 hl (k := 4) rfl rfl (by decide) rfl (fun ls hl => ?_)
                  refine lv_goto (tgt := 67) hx hb dX4_lineUp_112 (by decide) ?_
                  exact hk67 _ (Option.some.inj hf).symm _ _ _ hP hD hS (lv_sub hl [1, 2, 3, 4, 0] rfl)
            · refine fun H locs ls hP hD hS hl => ?_
              exact hj115 _ _ _ _ _ _ _ _ hf hP hD hS (lv_sub hl [0, 1, 2, 3] rfl)
          · have hf := it_f hc hf
            refine lv_goto (tgt := 145) hx hb dX4_lineUp_58 (by decide) ?_
            exact hj145 _ _ _ _ _ _ _ hf hP hD hS (lv_sub hl [1, 2, 3] rfl)
  · refine fun H locs ls hP hD hS hl => ?_
    obtain rfl := Option.some.inj hf
    subst hq
    exact retV cx hP hD hS dX4_lineUp_151
def X4_stoodAt (q0_clock : Int32) (q0_extras_many : Int32) (q0_extras_cells : Nat → Int32) (v1 : Int32) : Option (Int32) :=
  (X7_get 35 5 q0_extras_many q0_extras_cells v1 (1 : Int32)).bind fun u10 =>
  some ((q0_clock + u10) - 1)
abbrev wd_X4_stoodAt (E : vE) (a_q0 a_q0_streets a_q0_names a_q0_extras a_q0_happenings a_q0_watchers a_q0_weeks a_q0_extras_cells : Nat) (q0_wage : Int32) (q0_delay : Int32) (q0_odds : Int32) (q0_clock : Int32) (q0_hasWeeks : Int32) (q0_extras_many : Int32) (q0_extras_cells : Nat → Int32) : va_W := [(a_q0, .inr (0, [.int q0_wage, .int q0_delay, .int q0_odds, .int q0_clock, .int q0_hasWeeks, .ref a_q0_streets, .ref a_q0_names, .ref a_q0_extras, .ref a_q0_happenings, .ref a_q0_watchers, .ref a_q0_weeks])), (a_q0_extras, .inr (7, [.int 5, .ref a_q0_extras_cells, .int q0_extras_many])), (a_q0_extras_cells, .inl (E.2.1, 35, .inl q0_extras_cells))]
set_option maxHeartbeats 4000000 in
set_option maxRecDepth 100000 in
theorem ct_X4_stoodAt (l : Launch) (E : vE) (a_q0 a_q0_streets a_q0_names a_q0_extras a_q0_happenings a_q0_watchers a_q0_weeks a_q0_extras_cells : Nat) (q0_wage : Int32) (q0_delay : Int32) (q0_odds : Int32) (q0_clock : Int32) (q0_hasWeeks : Int32) (q0_extras_many : Int32) (q0_extras_cells : Nat → Int32) (v1 : Int32) (u : Int32) (hf : X4_stoodAt q0_clock q0_extras_many q0_extras_cells v1 = some u) :
    CtI l yX4_stoodAt cX4_stoodAt 2 (some .int) 1 E [.ref a_q0, .int v1] (wd_X4_stoodAt E a_q0 a_q0_streets a_q0_names a_q0_extras a_q0_happenings a_q0_watchers a_q0_weeks a_q0_extras_cells q0_wage q0_delay q0_odds q0_clock q0_hasWeeks q0_extras_many q0_extras_cells) (wd_X4_stoodAt E a_q0 a_q0_streets a_q0_names a_q0_extras a_q0_happenings a_q0_watchers a_q0_weeks a_q0_extras_cells q0_wage q0_delay q0_odds q0_clock q0_hasWeeks q0_extras_many q0_extras_cells) u := by
  refine ctI (by decide) (Nat.le_of_ble_eq_true rfl) ?_
  intro p e s m below meth cd A ls aa QQ hq cx hP hD hS hl
  obtain ⟨⟨hx, hb, hml, hown, hts⟩, hr, hlocks, hK, hA, hX⟩ := id cx
  have hl : lv_has ls 2 [(0, .ref a_q0), (1, .int v1)] := hl
  unfold X4_stoodAt at hf
  refine lv_aload_n hx hb dX4_stoodAt_0 rfl (lv_at hl 0 rfl) ?_
  refine va_get (D := E.1) (ci := 0) (v := .int q0_clock) (C := RX0) (T := TX0) (N := 11) hx hb hts inX0 hown hK hP 0 rfl rfl 3 (by decide) (hts _ fl_X4_44) (fun _ h9 => h9) rfl dX4_stoodAt_1 ?_
  refine lv_aload_n hx hb dX4_stoodAt_4 rfl (lv_at hl 0 rfl) ?_
  refine va_get (D := E.1) (ci := 0) (v := .ref a_q0_extras) (C := RX0) (T := TX0) (N := 11) hx hb hts inX0 hown hK hP 0 rfl rfl 7 (by decide) (hts _ fl_X4_47) (fun _ h9 => h9) rfl dX4_stoodAt_5 ?_
  refine lv_iload_n hx hb dX4_stoodAt_8 rfl (lv_at hl 1 rfl) ?_
  refine lv_iconst (v := 1) hx hb dX4_stoodAt_9 (by decide) ?_
  obtain ⟨u10, hu10, hf⟩ := bd hf
  refine keepVI (ct_X7_get l E a_q0_extras a_q0_extras_cells 35 5 q0_extras_many q0_extras_cells v1 (1 : Int32) u10 hu10) [1, 2] cal_X7_get cav_X7_get lk_X4_36 cx hP hD hS hl dX4_stoodAt_10 rfl rfl rfl rfl (Nat.le_of_ble_eq_true rfl) ⟨Nat.le_of_ble_eq_true rfl, Nat.le_of_ble_eq_true rfl⟩ rfl (by decide) (fun H locs hP hS => ?_)
  refine lv_iadd hx hb dX4_stoodAt_13 ?_
  refine lv_iconst (v := 1) hx hb dX4_stoodAt_14 (by decide) ?_
  refine lv_isub hx hb dX4_stoodAt_15 ?_
  obtain rfl := Option.some.inj hf
  subst hq
  exact retI cx hP hD hS dX4_stoodAt_16
def X4_comesTo_j45 (q0_streets_hours : Nat → Int32) (q0_happenings_many : Int32) (q0_happenings_cells : Nat → Int32) : Option (Int32) :=
  some 0
def X4_comesTo (q0_streets_hours : Nat → Int32) (q0_happenings_many : Int32) (q0_happenings_cells : Nat → Int32) (v1 : Int32) (v2 : Int32) (v3 : Int32) : Option (Int32) :=
  (X7_get 40 5 q0_happenings_many q0_happenings_cells v3 (0 : Int32)).bind fun u11 =>
  (X6_hoursBetween q0_streets_hours v1 u11).bind fun u14 =>
  if u14 = (-1) then
  X4_comesTo_j45 q0_streets_hours q0_happenings_many q0_happenings_cells
  else
  (X7_get 40 5 q0_happenings_many q0_happenings_cells v3 (1 : Int32)).bind fun u33 =>
  if (u33 - v2) < u14 then
  X4_comesTo_j45 q0_streets_hours q0_happenings_many q0_happenings_cells
  else
  some 1
abbrev wd_X4_comesTo (E : vE) (a_q0 a_q0_streets a_q0_names a_q0_extras a_q0_happenings a_q0_watchers a_q0_weeks a_q0_streets_roads a_q0_streets_takes a_q0_streets_hours a_q0_happenings_cells : Nat) (q0_wage : Int32) (q0_delay : Int32) (q0_odds : Int32) (q0_clock : Int32) (q0_hasWeeks : Int32) (q0_streets_corners : Int32) (q0_streets_hours : Nat → Int32) (q0_happenings_many : Int32) (q0_happenings_cells : Nat → Int32) : va_W := [(a_q0, .inr (0, [.int q0_wage, .int q0_delay, .int q0_odds, .int q0_clock, .int q0_hasWeeks, .ref a_q0_streets, .ref a_q0_names, .ref a_q0_extras, .ref a_q0_happenings, .ref a_q0_watchers, .ref a_q0_weeks])), (a_q0_streets, .inr (6, [.int q0_streets_corners, .ref a_q0_streets_roads, .ref a_q0_streets_takes, .ref a_q0_streets_hours])), (a_q0_streets_hours, .inl (E.2.1, 64, .inl q0_streets_hours)), (a_q0_happenings, .inr (7, [.int 5, .ref a_q0_happenings_cells, .int q0_happenings_many])), (a_q0_happenings_cells, .inl (E.2.1, 40, .inl q0_happenings_cells))]
set_option maxHeartbeats 4000000 in
set_option maxRecDepth 100000 in
theorem ct_X4_comesTo (l : Launch) (E : vE) (a_q0 a_q0_streets a_q0_names a_q0_extras a_q0_happenings a_q0_watchers a_q0_weeks a_q0_streets_roads a_q0_streets_takes a_q0_streets_hours a_q0_happenings_cells : Nat) (q0_wage : Int32) (q0_delay : Int32) (q0_odds : Int32) (q0_clock : Int32) (q0_hasWeeks : Int32) (q0_streets_corners : Int32) (q0_streets_hours : Nat → Int32) (q0_happenings_many : Int32) (q0_happenings_cells : Nat → Int32) (v1 : Int32) (v2 : Int32) (v3 : Int32) (u : Int32) (hf : X4_comesTo q0_streets_hours q0_happenings_many q0_happenings_cells v1 v2 v3 = some u) :
    CtI l yX4_comesTo cX4_comesTo 5 (some .boolean) 2 E [.ref a_q0, .int v1, .int v2, .int v3] (wd_X4_comesTo E a_q0 a_q0_streets a_q0_names a_q0_extras a_q0_happenings a_q0_watchers a_q0_weeks a_q0_streets_roads a_q0_streets_takes a_q0_streets_hours a_q0_happenings_cells q0_wage q0_delay q0_odds q0_clock q0_hasWeeks q0_streets_corners q0_streets_hours q0_happenings_many q0_happenings_cells) (wd_X4_comesTo E a_q0 a_q0_streets a_q0_names a_q0_extras a_q0_happenings a_q0_watchers a_q0_weeks a_q0_streets_roads a_q0_streets_takes a_q0_streets_hours a_q0_happenings_cells q0_wage q0_delay q0_odds q0_clock q0_hasWeeks q0_streets_corners q0_streets_hours q0_happenings_many q0_happenings_cells) u := by
  refine ctI (by decide) (Nat.le_of_ble_eq_true rfl) ?_
  intro p e s m below meth cd A ls aa QQ hq cx hP hD hS hl
  obtain ⟨⟨hx, hb, hml, hown, hts⟩, hr, hlocks, hK, hA, hX⟩ := id cx
  have hl : lv_has ls 5 [(0, .ref a_q0), (1, .int v1), (2, .int v2), (3, .int v3)] := hl
  have hj45 : ∀ (H : Heap) (locs : List Loc) (ls : Array Slot), X4_comesTo_j45 q0_streets_hours q0_happenings_many q0_happenings_cells = some u → va_P E.1 vwCl (wd_X4_comesTo E a_q0 a_q0_streets a_q0_names a_q0_extras a_q0_happenings a_q0_watchers a_q0_weeks a_q0_streets_roads a_q0_streets_takes a_q0_streets_hours a_q0_happenings_cells q0_wage q0_delay q0_odds q0_clock q0_hasWeeks q0_streets_corners q0_streets_hours q0_happenings_many q0_happenings_cells) H → va_D A (wd_X4_comesTo E a_q0 a_q0_streets a_q0_names a_q0_extras a_q0_happenings a_q0_watchers a_q0_weeks a_q0_streets_roads a_q0_streets_takes a_q0_streets_hours a_q0_happenings_cells q0_wage q0_delay q0_odds q0_clock q0_hasWeeks q0_streets_corners q0_streets_hours q0_happenings_many q0_happenings_cells) → va_S A s.heap H locs → lv_has ls 5 [] → W p l e (rmd 2) s m aa below meth cd H locs 0 0 QQ (F0 m 45 ls []) := by
    intro H locs ls hf hP hD hS hl
    unfold X4_comesTo_j45 at hf
    refine lv_iconst (v := 0) hx hb dX4_comesTo_45 (by decide) ?_
    obtain rfl := Option.some.inj hf
    subst hq
    exact retZ cx rfl hP hD hS dX4_comesTo_46
  unfold X4_comesTo at hf
  refine lv_aload_n hx hb dX4_comesTo_0 rfl (lv_at hl 0 rfl) ?_
  refine va_get (D := E.1) (ci := 0) (v := .ref a_q0_streets) (C := RX0) (T := TX0) (N := 11) hx hb hts inX0 hown hK hP 0 rfl rfl 5 (by decide) (hts _ fl_X4_50) (fun _ h9 => h9) rfl dX4_comesTo_1 ?_
  refine lv_iload_n hx hb dX4_comesTo_4 rfl (lv_at hl 1 rfl) ?_
  refine lv_aload_n hx hb dX4_comesTo_5 rfl (lv_at hl 0 rfl) ?_
  refine va_get (D := E.1) (ci := 0) (v := .ref a_q0_happenings) (C := RX0) (T := TX0) (N := 11) hx hb hts inX0 hown hK hP 0 rfl rfl 8 (by decide) (hts _ fl_X4_25) (fun _ h9 => h9) rfl dX4_comesTo_6 ?_
  refine lv_iload_n hx hb dX4_comesTo_9 rfl (lv_at hl 3 rfl) ?_
  refine lv_iconst (v := 0) hx hb dX4_comesTo_10 (by decide) ?_
  obtain ⟨u11, hu11, hf⟩ := bd hf
  refine keepVI (ct_X7_get l E a_q0_happenings a_q0_happenings_cells 40 5 q0_happenings_many q0_happenings_cells v3 (0 : Int32) u11 hu11) [3, 4] cal_X7_get cav_X7_get lk_X4_36 cx hP hD hS hl dX4_comesTo_11 rfl rfl rfl rfl (Nat.le_of_ble_eq_true rfl) ⟨Nat.le_of_ble_eq_true rfl, Nat.le_of_ble_eq_true rfl⟩ rfl (by decide) (fun H locs hP hS => ?_)
  obtain ⟨u14, hu14, hf⟩ := bd hf
  refine keepVI (ct_X6_hoursBetween l E a_q0_streets a_q0_streets_roads a_q0_streets_takes a_q0_streets_hours q0_streets_corners q0_streets_hours v1 u11 u14 hu14) [1, 2] cal_X6_hoursBetween cav_X6_hoursBetween lk_X4_54 cx hP hD hS hl dX4_comesTo_14 rfl rfl rfl rfl (Nat.le_of_ble_eq_true rfl) ⟨Nat.le_of_ble_eq_true rfl, Nat.le_of_ble_eq_true rfl⟩ rfl (by decide) (fun H locs hP hS => ?_)
  refine lv_istore (lv' := [(4, .int u14), (0, .ref a_q0), (1, .int v1), (2, .int v2), (3, .int v3)]) hx hb dX4_comesTo_17 hl (by decide) rfl (fun ls hl => ?_)
  refine lv_iload hx hb dX4_comesTo_19 (lv_at hl 0 rfl) ?_
  refine lv_iconst (v := (-1)) hx hb dX4_comesTo_21 (by decide) ?_
  refine lv_icmp_eq (tgt := 45) hx hb dX4_comesTo_22 (by decide) (fun hc => ?_) (fun hc => ?_)
  · have hf := it_t hc hf
    exact hj45  _ _ _ hf hP hD hS (lv_sub hl [] rfl)
  · have hf := it_f hc hf
    refine lv_iload hx hb dX4_comesTo_25 (lv_at hl 0 rfl) ?_
    refine lv_aload_n hx hb dX4_comesTo_27 rfl (lv_at hl 1 rfl) ?_
    refine va_get (D := E.1) (ci := 0) (v := .ref a_q0_happenings) (C := RX0) (T := TX0) (N := 11) hx hb hts inX0 hown hK hP 0 rfl rfl 8 (by decide) (hts _ fl_X4_25) (fun _ h9 => h9) rfl dX4_comesTo_28 ?_
    refine lv_iload_n hx hb dX4_comesTo_31 rfl (lv_at hl 4 rfl) ?_
    refine lv_iconst (v := 1) hx hb dX4_comesTo_32 (by decide) ?_
    obtain ⟨u33, hu33, hf⟩ := bd hf
    refine keepVI (ct_X7_get l E a_q0_happenings a_q0_happenings_cells 40 5 q0_happenings_many q0_happenings_cells v3 (1 : Int32) u33 hu33) [3, 4] cal_X7_get cav_X7_get lk_X4_36 cx hP hD hS hl dX4_comesTo_33 rfl rfl rfl rfl (Nat.le_of_ble_eq_true rfl) ⟨Nat.le_of_ble_eq_true rfl, Nat.le_of_ble_eq_true rfl⟩ rfl (by decide) (fun H locs hP hS => ?_)
    refine lv_iload_n hx hb dX4_comesTo_36 rfl (lv_at hl 3 rfl) ?_
    refine lv_isub hx hb dX4_comesTo_37 ?_
    refine lv_icmp_gt (tgt := 45) hx hb dX4_comesTo_38 (by decide) (fun hc => ?_) (fun hc => ?_)
    · have hf := it_t hc hf
      exact hj45  _ _ _ hf hP hD hS (lv_sub hl [] rfl)
    · have hf := it_f hc hf
      refine lv_iconst (v := 1) hx hb dX4_comesTo_41 (by decide) ?_
      refine lv_goto (tgt := 46) hx hb dX4_comesTo_42 (by decide) ?_
      obtain rfl := Option.some.inj hf
      subst hq
      exact retZ cx rfl hP hD hS dX4_comesTo_46
def X4_canAttend_j90 (F : Nat) (o_lined : Int32) (o_line : Nat → Int32) (q1_clock : Int32) (q1_streets_hours : Nat → Int32) (q1_extras_many : Int32) (q1_extras_cells : Nat → Int32) (q1_happenings_many : Int32) (q1_happenings_cells : Nat → Int32) (v3 : Int32) (v4 : Int32) (v5 : Int32) (v6 : Int32) : Option ((Int32 × Int32 × Int32) ⊕ ((Unit) ⊕ (Unit))) :=
  some (.inl (v4, v5, (v6 + 1)))
def X4_canAttend_b21 (F : Nat) (o_lined : Int32) (o_line : Nat → Int32) (q1_clock : Int32) (q1_streets_hours : Nat → Int32) (q1_extras_many : Int32) (q1_extras_cells : Nat → Int32) (q1_happenings_many : Int32) (q1_happenings_cells : Nat → Int32) (v3 : Int32) (st21 : Int32 × Int32 × Int32) : Option ((Int32 × Int32 × Int32) ⊕ ((Unit) ⊕ (Unit))) :=
  if o_lined ≤ st21.2.2 then
  some (.inr (.inr (())))
  else
  if ix st21.2.2 8 then
  if ((jshr v3 (jat o_line st21.2.2)) &&& 1) = 0 then
  X4_canAttend_j90 F o_lined o_line q1_clock q1_streets_hours q1_extras_many q1_extras_cells q1_happenings_many q1_happenings_cells v3 st21.1 st21.2.1 st21.2.2
  else
  (X4_comesTo q1_streets_hours q1_happenings_many q1_happenings_cells st21.1 st21.2.1 (jat o_line st21.2.2)).bind fun u58 =>
  if u58 = 0 then
  some (.inr (.inl (())))
  else
  (X7_get 40 5 q1_happenings_many q1_happenings_cells (jat o_line st21.2.2) (0 : Int32)).bind fun u73 =>
  (X7_get 40 5 q1_happenings_many q1_happenings_cells (jat o_line st21.2.2) (1 : Int32)).bind fun u85 =>
  X4_canAttend_j90 F o_lined o_line q1_clock q1_streets_hours q1_extras_many q1_extras_cells q1_happenings_many q1_happenings_cells v3 u73 u85 st21.2.2
  else none
def X4_canAttend (F : Nat) (o_lined : Int32) (o_line : Nat → Int32) (q1_clock : Int32) (q1_streets_hours : Nat → Int32) (q1_extras_many : Int32) (q1_extras_cells : Nat → Int32) (q1_happenings_many : Int32) (q1_happenings_cells : Nat → Int32) (v2 : Int32) (v3 : Int32) : Option (Int32) :=
  (X7_get 35 5 q1_extras_many q1_extras_cells v2 (0 : Int32)).bind fun u6 =>
  (X4_stoodAt q1_clock q1_extras_many q1_extras_cells v2).bind fun u13 =>
  (iter (X4_canAttend_b21 F o_lined o_line q1_clock q1_streets_hours q1_extras_many q1_extras_cells q1_happenings_many q1_happenings_cells v3) F (u6, u13, 0)).bind (Sum.elim (fun (e21 : Unit) =>
    some 0) (fun (e21 : Unit) =>
    some 1))
abbrev wd_X4_canAttend (E : vE) (a_o a_o_line a_o_reached a_q1 a_q1_streets a_q1_names a_q1_extras a_q1_happenings a_q1_watchers a_q1_weeks a_q1_streets_roads a_q1_streets_takes a_q1_streets_hours a_q1_extras_cells a_q1_happenings_cells : Nat) (o_lined : Int32) (o_open : Int32) (o_line : Nat → Int32) (q1_wage : Int32) (q1_delay : Int32) (q1_odds : Int32) (q1_clock : Int32) (q1_hasWeeks : Int32) (q1_streets_corners : Int32) (q1_streets_hours : Nat → Int32) (q1_extras_many : Int32) (q1_extras_cells : Nat → Int32) (q1_happenings_many : Int32) (q1_happenings_cells : Nat → Int32) : va_W := [(a_o, .inr (4, [.ref a_o_line, .int o_lined, .ref a_o_reached, .int o_open])), (a_o_line, .inl (E.2.1, 8, .inl o_line)), (a_q1, .inr (0, [.int q1_wage, .int q1_delay, .int q1_odds, .int q1_clock, .int q1_hasWeeks, .ref a_q1_streets, .ref a_q1_names, .ref a_q1_extras, .ref a_q1_happenings, .ref a_q1_watchers, .ref a_q1_weeks])), (a_q1_streets, .inr (6, [.int q1_streets_corners, .ref a_q1_streets_roads, .ref a_q1_streets_takes, .ref a_q1_streets_hours])), (a_q1_streets_hours, .inl (E.2.1, 64, .inl q1_streets_hours)), (a_q1_extras, .inr (7, [.int 5, .ref a_q1_extras_cells, .int q1_extras_many])), (a_q1_extras_cells, .inl (E.2.1, 35, .inl q1_extras_cells)), (a_q1_happenings, .inr (7, [.int 5, .ref a_q1_happenings_cells, .int q1_happenings_many])), (a_q1_happenings_cells, .inl (E.2.1, 40, .inl q1_happenings_cells))]
set_option maxHeartbeats 4000000 in
set_option maxRecDepth 100000 in
theorem ct_X4_canAttend (l : Launch) (E : vE) (F : Nat) (a_o a_o_line a_o_reached a_q1 a_q1_streets a_q1_names a_q1_extras a_q1_happenings a_q1_watchers a_q1_weeks a_q1_streets_roads a_q1_streets_takes a_q1_streets_hours a_q1_extras_cells a_q1_happenings_cells : Nat) (o_lined : Int32) (o_open : Int32) (o_line : Nat → Int32) (q1_wage : Int32) (q1_delay : Int32) (q1_odds : Int32) (q1_clock : Int32) (q1_hasWeeks : Int32) (q1_streets_corners : Int32) (q1_streets_hours : Nat → Int32) (q1_extras_many : Int32) (q1_extras_cells : Nat → Int32) (q1_happenings_many : Int32) (q1_happenings_cells : Nat → Int32) (v2 : Int32) (v3 : Int32) (u : Int32) (hf : X4_canAttend F o_lined o_line q1_clock q1_streets_hours q1_extras_many q1_extras_cells q1_happenings_many q1_happenings_cells v2 v3 = some u) :
    CtI l yX4_canAttend cX4_canAttend 8 (some .boolean) 3 E [.ref a_o, .ref a_q1, .int v2, .int v3] (wd_X4_canAttend E a_o a_o_line a_o_reached a_q1 a_q1_streets a_q1_names a_q1_extras a_q1_happenings a_q1_watchers a_q1_weeks a_q1_streets_roads a_q1_streets_takes a_q1_streets_hours a_q1_extras_cells a_q1_happenings_cells o_lined o_open o_line q1_wage q1_delay q1_odds q1_clock q1_hasWeeks q1_streets_corners q1_streets_hours q1_extras_many q1_extras_cells q1_happenings_many q1_happenings_cells) (wd_X4_canAttend E a_o a_o_line a_o_reached a_q1 a_q1_streets a_q1_names a_q1_extras a_q1_happenings a_q1_watchers a_q1_weeks a_q1_streets_roads a_q1_streets_takes a_q1_streets_hours a_q1_extras_cells a_q1_happenings_cells o_lined o_open o_line q1_wage q1_delay q1_odds q1_clock q1_hasWeeks q1_streets_corners q1_streets_hours q1_extras_many q1_extras_cells q1_happenings_many q1_happenings_cells) u := by
  refine ctI (by decide) (Nat.le_of_ble_eq_true rfl) ?_
  intro p e s m below meth cd A ls aa QQ hq cx hP hD hS hl
  obtain ⟨⟨hx, hb, hml, hown, hts⟩, hr, hlocks, hK, hA, hX⟩ := id cx
  have hl : lv_has ls 8 [(0, .ref a_o), (1, .ref a_q1), (2, .int v2), (3, .int v3)] := hl
  unfold X4_canAttend at hf
  refine lv_aload_n hx hb dX4_canAttend_0 rfl (lv_at hl 1 rfl) ?_
  refine va_get (D := E.1) (ci := 0) (v := .ref a_q1_extras) (C := RX0) (T := TX0) (N := 11) hx hb hts inX0 hown hK hP 2 rfl rfl 7 (by decide) (hts _ fl_X4_47) (fun _ h9 => h9) rfl dX4_canAttend_1 ?_
  refine lv_iload_n hx hb dX4_canAttend_4 rfl (lv_at hl 2 rfl) ?_
  refine lv_iconst (v := 0) hx hb dX4_canAttend_5 (by decide) ?_
  obtain ⟨u6, hu6, hf⟩ := bd hf
  refine keepVI (ct_X7_get l E a_q1_extras a_q1_extras_cells 35 5 q1_extras_many q1_extras_cells v2 (0 : Int32) u6 hu6) [5, 6] cal_X7_get cav_X7_get lk_X4_36 cx hP hD hS hl dX4_canAttend_6 rfl rfl rfl rfl (Nat.le_of_ble_eq_true rfl) ⟨Nat.le_of_ble_eq_true rfl, Nat.le_of_ble_eq_true rfl⟩ rfl (by decide) (fun H locs hP hS => ?_)
  refine lv_istore (lv' := [(4, .int u6), (0, .ref a_o), (1, .ref a_q1), (2, .int v2), (3, .int v3)]) hx hb dX4_canAttend_9 hl (by decide) rfl (fun ls hl => ?_)
  refine lv_aload_n hx hb dX4_canAttend_11 rfl (lv_at hl 2 rfl) ?_
  refine lv_iload_n hx hb dX4_canAttend_12 rfl (lv_at hl 3 rfl) ?_
  obtain ⟨u13, hu13, hf⟩ := bd hf
  refine keepSI (ct_X4_stoodAt l E a_q1 a_q1_streets a_q1_names a_q1_extras a_q1_happenings a_q1_watchers a_q1_weeks a_q1_extras_cells q1_wage q1_delay q1_odds q1_clock q1_hasWeeks q1_extras_many q1_extras_cells v2 u13 hu13) [2, 5, 6] cal_X4_stoodAt sta_X4_stoodAt lk_X4_59 cx hP hD hS hl dX4_canAttend_13 rfl rfl (Nat.le_of_ble_eq_true rfl) ⟨Nat.le_of_ble_eq_true rfl, Nat.le_of_ble_eq_true rfl⟩ rfl (by decide) (fun H locs hP hS => ?_)
  refine lv_istore (lv' := [(5, .int u13), (4, .int u6), (0, .ref a_o), (1, .ref a_q1), (2, .int v2), (3, .int v3)]) hx hb dX4_canAttend_16 hl (by decide) rfl (fun ls hl => ?_)
  refine lv_iconst (v := 0) hx hb dX4_canAttend_18 (by decide) ?_
  refine lv_istore (lv' := [(6, .int 0), (5, .int u13), (4, .int u6), (0, .ref a_o), (1, .ref a_q1), (2, .int v2), (3, .int v3)]) hx hb dX4_canAttend_19 hl (by decide) rfl (fun ls hl => ?_)
  obtain ⟨e21, hit21, hf⟩ := bd hf
  refine iter_W (b := X4_canAttend_b21 F o_lined o_line q1_clock q1_streets_hours q1_extras_many q1_extras_cells q1_happenings_many q1_happenings_cells v3) (P := fun st21 => ∀ (H : Heap) (locs : List Loc) (ls : Array Slot), va_P E.1 vwCl (wd_X4_canAttend E a_o a_o_line a_o_reached a_q1 a_q1_streets a_q1_names a_q1_extras a_q1_happenings a_q1_watchers a_q1_weeks a_q1_streets_roads a_q1_streets_takes a_q1_streets_hours a_q1_extras_cells a_q1_happenings_cells o_lined o_open o_line q1_wage q1_delay q1_odds q1_clock q1_hasWeeks q1_streets_corners q1_streets_hours q1_extras_many q1_extras_cells q1_happenings_many q1_happenings_cells) H → va_D A (wd_X4_canAttend E a_o a_o_line a_o_reached a_q1 a_q1_streets a_q1_names a_q1_extras a_q1_happenings a_q1_watchers a_q1_weeks a_q1_streets_roads a_q1_streets_takes a_q1_streets_hours a_q1_extras_cells a_q1_happenings_cells o_lined o_open o_line q1_wage q1_delay q1_odds q1_clock q1_hasWeeks q1_streets_corners q1_streets_hours q1_extras_many q1_extras_cells q1_happenings_many q1_happenings_cells) → va_S A s.heap H locs → lv_has ls 8 [(0, .ref a_o), (1, .ref a_q1), (3, .int v3), (4, .int st21.1), (5, .int st21.2.1), (6, .int st21.2.2)] → W p l e (rmd 3) s m aa below meth cd H locs 0 0 QQ (F0 m 21 ls [])) (G := (Sum.elim (fun (e21 : Unit) => ∀ (H : Heap) (locs : List Loc) (ls : Array Slot), va_P E.1 vwCl (wd_X4_canAttend E a_o a_o_line a_o_reached a_q1 a_q1_streets a_q1_names a_q1_extras a_q1_happenings a_q1_watchers a_q1_weeks a_q1_streets_roads a_q1_streets_takes a_q1_streets_hours a_q1_extras_cells a_q1_happenings_cells o_lined o_open o_line q1_wage q1_delay q1_odds q1_clock q1_hasWeeks q1_streets_corners q1_streets_hours q1_extras_many q1_extras_cells q1_happenings_many q1_happenings_cells) H → va_D A (wd_X4_canAttend E a_o a_o_line a_o_reached a_q1 a_q1_streets a_q1_names a_q1_extras a_q1_happenings a_q1_watchers a_q1_weeks a_q1_streets_roads a_q1_streets_takes a_q1_streets_hours a_q1_extras_cells a_q1_happenings_cells o_lined o_open o_line q1_wage q1_delay q1_odds q1_clock q1_hasWeeks q1_streets_corners q1_streets_hours q1_extras_many q1_extras_cells q1_happenings_many q1_happenings_cells) → va_S A s.heap H locs → lv_has ls 8 [] → W p l e (rmd 3) s m aa below meth cd H locs 0 0 QQ (F0 m 64 ls [])) (fun (e21 : Unit) => ∀ (H : Heap) (locs : List Loc) (ls : Array Slot), va_P E.1 vwCl (wd_X4_canAttend E a_o a_o_line a_o_reached a_q1 a_q1_streets a_q1_names a_q1_extras a_q1_happenings a_q1_watchers a_q1_weeks a_q1_streets_roads a_q1_streets_takes a_q1_streets_hours a_q1_extras_cells a_q1_happenings_cells o_lined o_open o_line q1_wage q1_delay q1_odds q1_clock q1_hasWeeks q1_streets_corners q1_streets_hours q1_extras_many q1_extras_cells q1_happenings_many q1_happenings_cells) H → va_D A (wd_X4_canAttend E a_o a_o_line a_o_reached a_q1 a_q1_streets a_q1_names a_q1_extras a_q1_happenings a_q1_watchers a_q1_weeks a_q1_streets_roads a_q1_streets_takes a_q1_streets_hours a_q1_extras_cells a_q1_happenings_cells o_lined o_open o_line q1_wage q1_delay q1_odds q1_clock q1_hasWeeks q1_streets_corners q1_streets_hours q1_extras_many q1_extras_cells q1_happenings_many q1_happenings_cells) → va_S A s.heap H locs → lv_has ls 8 [] → W p l e (rmd 3) s m aa below meth cd H locs 0 0 QQ (F0 m 96 ls [])))) ?_ F (u6, u13, 0) e21 hit21 ?_ _ _ _ hP hD hS (lv_sub hl [3, 4, 6, 2, 1, 0] rfl)
  · intro st21 r21 hf hk21 he21 H locs ls hP hD hS hl
    have hj90 : ∀ (v4_j90 : Int32) (v5_j90 : Int32) (v6_j90 : Int32) (H : Heap) (locs : List Loc) (ls : Array Slot), X4_canAttend_j90 F o_lined o_line q1_clock q1_streets_hours q1_extras_many q1_extras_cells q1_happenings_many q1_happenings_cells v3 v4_j90 v5_j90 v6_j90 = some r21 → va_P E.1 vwCl (wd_X4_canAttend E a_o a_o_line a_o_reached a_q1 a_q1_streets a_q1_names a_q1_extras a_q1_happenings a_q1_watchers a_q1_weeks a_q1_streets_roads a_q1_streets_takes a_q1_streets_hours a_q1_extras_cells a_q1_happenings_cells o_lined o_open o_line q1_wage q1_delay q1_odds q1_clock q1_hasWeeks q1_streets_corners q1_streets_hours q1_extras_many q1_extras_cells q1_happenings_many q1_happenings_cells) H → va_D A (wd_X4_canAttend E a_o a_o_line a_o_reached a_q1 a_q1_streets a_q1_names a_q1_extras a_q1_happenings a_q1_watchers a_q1_weeks a_q1_streets_roads a_q1_streets_takes a_q1_streets_hours a_q1_extras_cells a_q1_happenings_cells o_lined o_open o_line q1_wage q1_delay q1_odds q1_clock q1_hasWeeks q1_streets_corners q1_streets_hours q1_extras_many q1_extras_cells q1_happenings_many q1_happenings_cells) → va_S A s.heap H locs → lv_has ls 8 [(0, .ref a_o), (1, .ref a_q1), (3, .int v3), (4, .int v4_j90), (5, .int v5_j90), (6, .int v6_j90)] → W p l e (rmd 3) s m aa below meth cd H locs 0 0 QQ (F0 m 90 ls []) := by
      intro v4_j90 v5_j90 v6_j90 H locs ls hf hP hD hS hl
      unfold X4_canAttend_j90 at hf
      refine lv_iinc (v := (v6_j90 + 1)) (lv' := [(6, .int (v6_j90 + 1)), (0, .ref a_o), (1, .ref a_q1), (3, .int v3), (4, .int v4_j90), (5, .int v5_j90)]) hx hb dX4_canAttend_90 hl (k := 5) rfl rfl (by decide) rfl (fun ls hl => ?_)
      refine lv_goto (tgt := 21) hx hb dX4_canAttend_93 (by decide) ?_
      exact hk21 _ (Option.some.inj hf).symm _ _ _ hP hD hS (lv_sub hl [1, 2, 3, 4, 5, 0] rfl)
    unfold X4_canAttend_b21 at hf
    refine lv_iload hx hb dX4_canAttend_21 (lv_at hl 5 rfl) ?_
    refine lv_aload_n hx hb dX4_canAttend_23 rfl (lv_at hl 0 rfl) ?_
    refine va_get (D := E.1) (ci := 4) (v := .int o_lined) (C := RX4) (T := TX4) (N := 4) hx hb hts inX4 hown hK hP 0 rfl rfl 1 (by decide) (hts _ fl_X4_22) (fun _ h9 => h9) rfl dX4_canAttend_24 ?_
    refine lv_icmp_ge (tgt := 96) hx hb dX4_canAttend_27 (by decide) (fun hc => ?_) (fun hc => ?_)
    · have hf := it_t hc hf
      exact he21 _ (Option.some.inj hf).symm _ _ _ hP hD hS (lv_sub hl [] rfl)
    · have hf := it_f hc hf
      refine lv_aload_n hx hb dX4_canAttend_30 rfl (lv_at hl 0 rfl) ?_
      refine va_get (D := E.1) (ci := 4) (v := .ref a_o_line) (C := RX4) (T := TX4) (N := 4) hx hb hts inX4 hown hK hP 0 rfl rfl 0 (by decide) (hts _ fl_X4_11) (fun _ h9 => h9) rfl dX4_canAttend_31 ?_
      refine lv_iload hx hb dX4_canAttend_34 (lv_at hl 5 rfl) ?_
      obtain ⟨hi, hf⟩ := ck hf
      refine r_iald 1 cx hP rfl hi dX4_canAttend_36 ?_
      refine lv_istore (lv' := [(7, .int (jat o_line st21.2.2)), (0, .ref a_o), (1, .ref a_q1), (3, .int v3), (4, .int st21.1), (5, .int st21.2.1), (6, .int st21.2.2)]) hx hb dX4_canAttend_37 hl (by decide) rfl (fun ls hl => ?_)
      refine lv_iload_n hx hb dX4_canAttend_39 rfl (lv_at hl 3 rfl) ?_
      refine lv_iload hx hb dX4_canAttend_40 (lv_at hl 0 rfl) ?_
      refine r_ishr hx hb dX4_canAttend_42 ?_
      refine lv_iconst (v := 1) hx hb dX4_canAttend_43 (by decide) ?_
      refine lv_iand hx hb dX4_canAttend_44 ?_
      refine lv_if_ne (tgt := 51) hx hb dX4_canAttend_45 (by decide) (fun hc => ?_) (fun hc => ?_)
      · have hf := it_f hc hf
        refine lv_aload_n hx hb dX4_canAttend_51 rfl (lv_at hl 2 rfl) ?_
        refine lv_iload hx hb dX4_canAttend_52 (lv_at hl 4 rfl) ?_
        refine lv_iload hx hb dX4_canAttend_54 (lv_at hl 5 rfl) ?_
        refine lv_iload hx hb dX4_canAttend_56 (lv_at hl 0 rfl) ?_
        obtain ⟨u58, hu58, hf⟩ := bd hf
        refine keepSI (ct_X4_comesTo l E a_q1 a_q1_streets a_q1_names a_q1_extras a_q1_happenings a_q1_watchers a_q1_weeks a_q1_streets_roads a_q1_streets_takes a_q1_streets_hours a_q1_happenings_cells q1_wage q1_delay q1_odds q1_clock q1_hasWeeks q1_streets_corners q1_streets_hours q1_happenings_many q1_happenings_cells st21.1 st21.2.1 (jat o_line st21.2.2) u58 hu58) [2, 3, 4, 7, 8] cal_X4_comesTo sta_X4_comesTo lk_X4_63 cx hP hD hS hl dX4_canAttend_58 rfl rfl (Nat.le_of_ble_eq_true rfl) ⟨Nat.le_of_ble_eq_true rfl, Nat.le_of_ble_eq_true rfl⟩ rfl (by decide) (fun H locs hP hS => ?_)
        refine lv_if_ne (tgt := 66) hx hb dX4_canAttend_61 (by decide) (fun hc => ?_) (fun hc => ?_)
        · have hf := it_f hc hf
          refine lv_aload_n hx hb dX4_canAttend_66 rfl (lv_at hl 2 rfl) ?_
          refine va_get (D := E.1) (ci := 0) (v := .ref a_q1_happenings) (C := RX0) (T := TX0) (N := 11) hx hb hts inX0 hown hK hP 2 rfl rfl 8 (by decide) (hts _ fl_X4_25) (fun _ h9 => h9) rfl dX4_canAttend_67 ?_
          refine lv_iload hx hb dX4_canAttend_70 (lv_at hl 0 rfl) ?_
          refine lv_iconst (v := 0) hx hb dX4_canAttend_72 (by decide) ?_
          obtain ⟨u73, hu73, hf⟩ := bd hf
          refine keepVI (ct_X7_get l E a_q1_happenings a_q1_happenings_cells 40 5 q1_happenings_many q1_happenings_cells (jat o_line st21.2.2) (0 : Int32) u73 hu73) [7, 8] cal_X7_get cav_X7_get lk_X4_36 cx hP hD hS hl dX4_canAttend_73 rfl rfl rfl rfl (Nat.le_of_ble_eq_true rfl) ⟨Nat.le_of_ble_eq_true rfl, Nat.le_of_ble_eq_true rfl⟩ rfl (by decide) (fun H locs hP hS => ?_)
          refine lv_istore (lv' := [(4, .int u73), (7, .int (jat o_line st21.2.2)), (0, .ref a_o), (1, .ref a_q1), (3, .int v3), (5, .int st21.2.1), (6, .int st21.2.2)]) hx hb dX4_canAttend_76 hl (by decide) rfl (fun ls hl => ?_)
          refine lv_aload_n hx hb dX4_canAttend_78 rfl (lv_at hl 3 rfl) ?_
          refine va_get (D := E.1) (ci := 0) (v := .ref a_q1_happenings) (C := RX0) (T := TX0) (N := 11) hx hb hts inX0 hown hK hP 2 rfl rfl 8 (by decide) (hts _ fl_X4_25) (fun _ h9 => h9) rfl dX4_canAttend_79 ?_
          refine lv_iload hx hb dX4_canAttend_82 (lv_at hl 1 rfl) ?_
          refine lv_iconst (v := 1) hx hb dX4_canAttend_84 (by decide) ?_
          obtain ⟨u85, hu85, hf⟩ := bd hf
          refine keepVI (ct_X7_get l E a_q1_happenings a_q1_happenings_cells 40 5 q1_happenings_many q1_happenings_cells (jat o_line st21.2.2) (1 : Int32) u85 hu85) [7, 8] cal_X7_get cav_X7_get lk_X4_36 cx hP hD hS hl dX4_canAttend_85 rfl rfl rfl rfl (Nat.le_of_ble_eq_true rfl) ⟨Nat.le_of_ble_eq_true rfl, Nat.le_of_ble_eq_true rfl⟩ rfl (by decide) (fun H locs hP hS => ?_)
          refine lv_istore (lv' := [(5, .int u85), (4, .int u73), (7, .int (jat o_line st21.2.2)), (0, .ref a_o), (1, .ref a_q1), (3, .int v3), (6, .int st21.2.2)]) hx hb dX4_canAttend_88 hl (by decide) rfl (fun ls hl => ?_)
          exact hj90 _ _ _ _ _ _ hf hP hD hS (lv_sub hl [3, 4, 5, 1, 0, 6] rfl)
        · have hf := it_t hc hf
          exact he21 _ (Option.some.inj hf).symm _ _ _ hP hD hS (lv_sub hl [] rfl)
      · have hf := it_t hc hf
        refine lv_goto (tgt := 90) hx hb dX4_canAttend_48 (by decide) ?_
        exact hj90 _ _ _ _ _ _ hf hP hD hS (lv_sub hl [1, 2, 3, 4, 5, 6] rfl)
  · rcases e21 with e21 | e21
    · have hf := se_l hf
      refine fun H locs ls hP hD hS hl => ?_
      refine lv_iconst (v := 0) hx hb dX4_canAttend_64 (by decide) ?_
      obtain rfl := Option.some.inj hf
      subst hq
      exact retZ cx rfl hP hD hS dX4_canAttend_65
    · have hf := se_r hf
      refine fun H locs ls hP hD hS hl => ?_
      refine lv_iconst (v := 1) hx hb dX4_canAttend_96 (by decide) ?_
      obtain rfl := Option.some.inj hf
      subst hq
      exact retZ cx rfl hP hD hS dX4_canAttend_97
def X4_richest_j96 (F : Nat) (o_lined : Int32) (o_open : Int32) (o_line : Nat → Int32) (q1_wage : Int32) (q1_clock : Int32) (q1_streets_hours : Nat → Int32) (q1_extras_many : Int32) (q1_extras_cells : Nat → Int32) (q1_happenings_many : Int32) (q1_happenings_cells : Nat → Int32) (v2 : Int32) (v3 : Int32) (v4 : Int32) (v5 : Int32) : Option ((Int32 × Int32 × Int32) ⊕ ((Int32))) :=
  some (.inl (v3, v4, (v5 + 1)))
def X4_richest_j71 (F : Nat) (o_lined : Int32) (o_open : Int32) (o_line : Nat → Int32) (q1_wage : Int32) (q1_clock : Int32) (q1_streets_hours : Nat → Int32) (q1_extras_many : Int32) (q1_extras_cells : Nat → Int32) (q1_happenings_many : Int32) (q1_happenings_cells : Nat → Int32) (v2 : Int32) (v3 : Int32) (v4 : Int32) (v5 : Int32) (v6 : Int32) (k0 : Int32) : Option ((Int32 × Int32 × Int32) ⊕ ((Int32))) :=
  if k0 = 0 then
  X4_richest_j96 F o_lined o_open o_line q1_wage q1_clock q1_streets_hours q1_extras_many q1_extras_cells q1_happenings_many q1_happenings_cells v2 v3 v4 v5
  else
  (X4_canAttend F o_lined o_line q1_clock q1_streets_hours q1_extras_many q1_extras_cells q1_happenings_many q1_happenings_cells v2 v5).bind fun u83 =>
  if u83 = 0 then
  X4_richest_j96 F o_lined o_open o_line q1_wage q1_clock q1_streets_hours q1_extras_many q1_extras_cells q1_happenings_many q1_happenings_cells v2 v3 v4 v5
  else
  X4_richest_j96 F o_lined o_open o_line q1_wage q1_clock q1_streets_hours q1_extras_many q1_extras_cells q1_happenings_many q1_happenings_cells v2 v5 v6 v5
def X4_richest_j70 (F : Nat) (o_lined : Int32) (o_open : Int32) (o_line : Nat → Int32) (q1_wage : Int32) (q1_clock : Int32) (q1_streets_hours : Nat → Int32) (q1_extras_many : Int32) (q1_extras_cells : Nat → Int32) (q1_happenings_many : Int32) (q1_happenings_cells : Nat → Int32) (v2 : Int32) (v3 : Int32) (v4 : Int32) (v5 : Int32) (v6 : Int32) : Option ((Int32 × Int32 × Int32) ⊕ ((Int32))) :=
  X4_richest_j71 F o_lined o_open o_line q1_wage q1_clock q1_streets_hours q1_extras_many q1_extras_cells q1_happenings_many q1_happenings_cells v2 v3 v4 v5 v6 0
def X4_richest_j66 (F : Nat) (o_lined : Int32) (o_open : Int32) (o_line : Nat → Int32) (q1_wage : Int32) (q1_clock : Int32) (q1_streets_hours : Nat → Int32) (q1_extras_many : Int32) (q1_extras_cells : Nat → Int32) (q1_happenings_many : Int32) (q1_happenings_cells : Nat → Int32) (v2 : Int32) (v3 : Int32) (v4 : Int32) (v5 : Int32) (v6 : Int32) : Option ((Int32 × Int32 × Int32) ⊕ ((Int32))) :=
  X4_richest_j71 F o_lined o_open o_line q1_wage q1_clock q1_streets_hours q1_extras_many q1_extras_cells q1_happenings_many q1_happenings_cells v2 v3 v4 v5 v6 1
def X4_richest_b8 (F : Nat) (o_lined : Int32) (o_open : Int32) (o_line : Nat → Int32) (q1_wage : Int32) (q1_clock : Int32) (q1_streets_hours : Nat → Int32) (q1_extras_many : Int32) (q1_extras_cells : Nat → Int32) (q1_happenings_many : Int32) (q1_happenings_cells : Nat → Int32) (v2 : Int32) (st8 : Int32 × Int32 × Int32) : Option ((Int32 × Int32 × Int32) ⊕ ((Int32))) :=
  if o_open < st8.2.2 then
  some (.inr st8.1)
  else
  if (st8.2.2 &&& (o_open ^^^ (-1))) = 0 then
  (X0_wagesOf F q1_wage q1_happenings_many q1_happenings_cells st8.2.2).bind fun u35 =>
  if st8.2.1 < u35 then
  X4_richest_j66 F o_lined o_open o_line q1_wage q1_clock q1_streets_hours q1_extras_many q1_extras_cells q1_happenings_many q1_happenings_cells v2 st8.1 st8.2.1 st8.2.2 u35
  else
  if u35 = st8.2.1 then
  (J6_bitCount_0f7a4 st8.2.2).bind fun u56 =>
  (J6_bitCount_0f7a4 st8.1).bind fun u60 =>
  if u60 ≤ u56 then
  X4_richest_j70 F o_lined o_open o_line q1_wage q1_clock q1_streets_hours q1_extras_many q1_extras_cells q1_happenings_many q1_happenings_cells v2 st8.1 st8.2.1 st8.2.2 u35
  else
  X4_richest_j66 F o_lined o_open o_line q1_wage q1_clock q1_streets_hours q1_extras_many q1_extras_cells q1_happenings_many q1_happenings_cells v2 st8.1 st8.2.1 st8.2.2 u35
  else
  X4_richest_j70 F o_lined o_open o_line q1_wage q1_clock q1_streets_hours q1_extras_many q1_extras_cells q1_happenings_many q1_happenings_cells v2 st8.1 st8.2.1 st8.2.2 u35
  else
  X4_richest_j96 F o_lined o_open o_line q1_wage q1_clock q1_streets_hours q1_extras_many q1_extras_cells q1_happenings_many q1_happenings_cells v2 st8.1 st8.2.1 st8.2.2
def X4_richest (F : Nat) (o_lined : Int32) (o_open : Int32) (o_line : Nat → Int32) (q1_wage : Int32) (q1_clock : Int32) (q1_streets_hours : Nat → Int32) (q1_extras_many : Int32) (q1_extras_cells : Nat → Int32) (q1_happenings_many : Int32) (q1_happenings_cells : Nat → Int32) (v2 : Int32) : Option (Int32) :=
  (iter (X4_richest_b8 F o_lined o_open o_line q1_wage q1_clock q1_streets_hours q1_extras_many q1_extras_cells q1_happenings_many q1_happenings_cells v2) F (0, 0, 1)).bind (fun (e8 : Int32) =>
    some e8)
abbrev wd_X4_richest (E : vE) (a_o a_o_line a_o_reached a_q1 a_q1_streets a_q1_names a_q1_extras a_q1_happenings a_q1_watchers a_q1_weeks a_q1_streets_roads a_q1_streets_takes a_q1_streets_hours a_q1_extras_cells a_q1_happenings_cells : Nat) (o_lined : Int32) (o_open : Int32) (o_line : Nat → Int32) (q1_wage : Int32) (q1_delay : Int32) (q1_odds : Int32) (q1_clock : Int32) (q1_hasWeeks : Int32) (q1_streets_corners : Int32) (q1_streets_hours : Nat → Int32) (q1_extras_many : Int32) (q1_extras_cells : Nat → Int32) (q1_happenings_many : Int32) (q1_happenings_cells : Nat → Int32) : va_W := [(a_o, .inr (4, [.ref a_o_line, .int o_lined, .ref a_o_reached, .int o_open])), (a_o_line, .inl (E.2.1, 8, .inl o_line)), (a_q1, .inr (0, [.int q1_wage, .int q1_delay, .int q1_odds, .int q1_clock, .int q1_hasWeeks, .ref a_q1_streets, .ref a_q1_names, .ref a_q1_extras, .ref a_q1_happenings, .ref a_q1_watchers, .ref a_q1_weeks])), (a_q1_streets, .inr (6, [.int q1_streets_corners, .ref a_q1_streets_roads, .ref a_q1_streets_takes, .ref a_q1_streets_hours])), (a_q1_streets_hours, .inl (E.2.1, 64, .inl q1_streets_hours)), (a_q1_extras, .inr (7, [.int 5, .ref a_q1_extras_cells, .int q1_extras_many])), (a_q1_extras_cells, .inl (E.2.1, 35, .inl q1_extras_cells)), (a_q1_happenings, .inr (7, [.int 5, .ref a_q1_happenings_cells, .int q1_happenings_many])), (a_q1_happenings_cells, .inl (E.2.1, 40, .inl q1_happenings_cells))]
set_option maxHeartbeats 4000000 in
set_option maxRecDepth 100000 in
theorem ct_X4_richest (l : Launch) (E : vE) (F : Nat) (a_o a_o_line a_o_reached a_q1 a_q1_streets a_q1_names a_q1_extras a_q1_happenings a_q1_watchers a_q1_weeks a_q1_streets_roads a_q1_streets_takes a_q1_streets_hours a_q1_extras_cells a_q1_happenings_cells : Nat) (o_lined : Int32) (o_open : Int32) (o_line : Nat → Int32) (q1_wage : Int32) (q1_delay : Int32) (q1_odds : Int32) (q1_clock : Int32) (q1_hasWeeks : Int32) (q1_streets_corners : Int32) (q1_streets_hours : Nat → Int32) (q1_extras_many : Int32) (q1_extras_cells : Nat → Int32) (q1_happenings_many : Int32) (q1_happenings_cells : Nat → Int32) (v2 : Int32) (u : Int32) (hf : X4_richest F o_lined o_open o_line q1_wage q1_clock q1_streets_hours q1_extras_many q1_extras_cells q1_happenings_many q1_happenings_cells v2 = some u) :
    CtI l yX4_richest cX4_richest 8 (some .int) 4 E [.ref a_o, .ref a_q1, .int v2] (wd_X4_richest E a_o a_o_line a_o_reached a_q1 a_q1_streets a_q1_names a_q1_extras a_q1_happenings a_q1_watchers a_q1_weeks a_q1_streets_roads a_q1_streets_takes a_q1_streets_hours a_q1_extras_cells a_q1_happenings_cells o_lined o_open o_line q1_wage q1_delay q1_odds q1_clock q1_hasWeeks q1_streets_corners q1_streets_hours q1_extras_many q1_extras_cells q1_happenings_many q1_happenings_cells) (wd_X4_richest E a_o a_o_line a_o_reached a_q1 a_q1_streets a_q1_names a_q1_extras a_q1_happenings a_q1_watchers a_q1_weeks a_q1_streets_roads a_q1_streets_takes a_q1_streets_hours a_q1_extras_cells a_q1_happenings_cells o_lined o_open o_line q1_wage q1_delay q1_odds q1_clock q1_hasWeeks q1_streets_corners q1_streets_hours q1_extras_many q1_extras_cells q1_happenings_many q1_happenings_cells) u := by
  refine ctI (by decide) (Nat.le_of_ble_eq_true rfl) ?_
  intro p e s m below meth cd A ls aa QQ hq cx hP hD hS hl
  obtain ⟨⟨hx, hb, hml, hown, hts⟩, hr, hlocks, hK, hA, hX⟩ := id cx
  have hl : lv_has ls 8 [(0, .ref a_o), (1, .ref a_q1), (2, .int v2)] := hl
  unfold X4_richest at hf
  refine lv_iconst (v := 0) hx hb dX4_richest_0 (by decide) ?_
  refine lv_istore_n (lv' := [(3, .int 0), (0, .ref a_o), (1, .ref a_q1), (2, .int v2)]) hx hb dX4_richest_1 rfl hl (by decide) rfl (fun ls hl => ?_)
  refine lv_iconst (v := 0) hx hb dX4_richest_2 (by decide) ?_
  refine lv_istore (lv' := [(4, .int 0), (3, .int 0), (0, .ref a_o), (1, .ref a_q1), (2, .int v2)]) hx hb dX4_richest_3 hl (by decide) rfl (fun ls hl => ?_)
  refine lv_iconst (v := 1) hx hb dX4_richest_5 (by decide) ?_
  refine lv_istore (lv' := [(5, .int 1), (4, .int 0), (3, .int 0), (0, .ref a_o), (1, .ref a_q1), (2, .int v2)]) hx hb dX4_richest_6 hl (by decide) rfl (fun ls hl => ?_)
  obtain ⟨e8, hit8, hf⟩ := bd hf
  refine iter_W (b := X4_richest_b8 F o_lined o_open o_line q1_wage q1_clock q1_streets_hours q1_extras_many q1_extras_cells q1_happenings_many q1_happenings_cells v2) (P := fun st8 => ∀ (H : Heap) (locs : List Loc) (ls : Array Slot), va_P E.1 vwCl (wd_X4_richest E a_o a_o_line a_o_reached a_q1 a_q1_streets a_q1_names a_q1_extras a_q1_happenings a_q1_watchers a_q1_weeks a_q1_streets_roads a_q1_streets_takes a_q1_streets_hours a_q1_extras_cells a_q1_happenings_cells o_lined o_open o_line q1_wage q1_delay q1_odds q1_clock q1_hasWeeks q1_streets_corners q1_streets_hours q1_extras_many q1_extras_cells q1_happenings_many q1_happenings_cells) H → va_D A (wd_X4_richest E a_o a_o_line a_o_reached a_q1 a_q1_streets a_q1_names a_q1_extras a_q1_happenings a_q1_watchers a_q1_weeks a_q1_streets_roads a_q1_streets_takes a_q1_streets_hours a_q1_extras_cells a_q1_happenings_cells o_lined o_open o_line q1_wage q1_delay q1_odds q1_clock q1_hasWeeks q1_streets_corners q1_streets_hours q1_extras_many q1_extras_cells q1_happenings_many q1_happenings_cells) → va_S A s.heap H locs → lv_has ls 8 [(0, .ref a_o), (1, .ref a_q1), (2, .int v2), (3, .int st8.1), (4, .int st8.2.1), (5, .int st8.2.2)] → W p l e (rmd 4) s m aa below meth cd H locs 0 0 QQ (F0 m 8 ls [])) (G := (fun (e8 : Int32) => ∀ (H : Heap) (locs : List Loc) (ls : Array Slot), va_P E.1 vwCl (wd_X4_richest E a_o a_o_line a_o_reached a_q1 a_q1_streets a_q1_names a_q1_extras a_q1_happenings a_q1_watchers a_q1_weeks a_q1_streets_roads a_q1_streets_takes a_q1_streets_hours a_q1_extras_cells a_q1_happenings_cells o_lined o_open o_line q1_wage q1_delay q1_odds q1_clock q1_hasWeeks q1_streets_corners q1_streets_hours q1_extras_many q1_extras_cells q1_happenings_many q1_happenings_cells) H → va_D A (wd_X4_richest E a_o a_o_line a_o_reached a_q1 a_q1_streets a_q1_names a_q1_extras a_q1_happenings a_q1_watchers a_q1_weeks a_q1_streets_roads a_q1_streets_takes a_q1_streets_hours a_q1_extras_cells a_q1_happenings_cells o_lined o_open o_line q1_wage q1_delay q1_odds q1_clock q1_hasWeeks q1_streets_corners q1_streets_hours q1_extras_many q1_extras_cells q1_happenings_many q1_happenings_cells) → va_S A s.heap H locs → lv_has ls 8 [(3, .int e8)] → W p l e (rmd 4) s m aa below meth cd H locs 0 0 QQ (F0 m 102 ls []))) ?_ F (0, 0, 1) e8 hit8 ?_ _ _ _ hP hD hS (lv_sub hl [3, 4, 5, 2, 1, 0] rfl)
  · intro st8 r8 hf hk8 he8 H locs ls hP hD hS hl
    have hj96 : ∀ (v3_j96 : Int32) (v4_j96 : Int32) (v5_j96 : Int32) (H : Heap) (locs : List Loc) (ls : Array Slot), X4_richest_j96 F o_lined o_open o_line q1_wage q1_clock q1_streets_hours q1_extras_many q1_extras_cells q1_happenings_many q1_happenings_cells v2 v3_j96 v4_j96 v5_j96 = some r8 → va_P E.1 vwCl (wd_X4_richest E a_o a_o_line a_o_reached a_q1 a_q1_streets a_q1_names a_q1_extras a_q1_happenings a_q1_watchers a_q1_weeks a_q1_streets_roads a_q1_streets_takes a_q1_streets_hours a_q1_extras_cells a_q1_happenings_cells o_lined o_open o_line q1_wage q1_delay q1_odds q1_clock q1_hasWeeks q1_streets_corners q1_streets_hours q1_extras_many q1_extras_cells q1_happenings_many q1_happenings_cells) H → va_D A (wd_X4_richest E a_o a_o_line a_o_reached a_q1 a_q1_streets a_q1_names a_q1_extras a_q1_happenings a_q1_watchers a_q1_weeks a_q1_streets_roads a_q1_streets_takes a_q1_streets_hours a_q1_extras_cells a_q1_happenings_cells o_lined o_open o_line q1_wage q1_delay q1_odds q1_clock q1_hasWeeks q1_streets_corners q1_streets_hours q1_extras_many q1_extras_cells q1_happenings_many q1_happenings_cells) → va_S A s.heap H locs → lv_has ls 8 [(0, .ref a_o), (1, .ref a_q1), (2, .int v2), (3, .int v3_j96), (4, .int v4_j96), (5, .int v5_j96)] → W p l e (rmd 4) s m aa below meth cd H locs 0 0 QQ (F0 m 96 ls []) := by
      intro v3_j96 v4_j96 v5_j96 H locs ls hf hP hD hS hl
      unfold X4_richest_j96 at hf
      refine lv_iinc (v := (v5_j96 + 1)) (lv' := [(5, .int (v5_j96 + 1)), (0, .ref a_o), (1, .ref a_q1), (2, .int v2), (3, .int v3_j96), (4, .int v4_j96)]) hx hb dX4_richest_96 hl (k := 5) rfl rfl (by decide) rfl (fun ls hl => ?_)
      refine lv_goto (tgt := 8) hx hb dX4_richest_99 (by decide) ?_
      exact hk8 _ (Option.some.inj hf).symm _ _ _ hP hD hS (lv_sub hl [1, 2, 3, 4, 5, 0] rfl)
    have hj71 : ∀ (v3_j71 : Int32) (v4_j71 : Int32) (v5_j71 : Int32) (v6_j71 : Int32) (k0_j71 : Int32) (H : Heap) (locs : List Loc) (ls : Array Slot), X4_richest_j71 F o_lined o_open o_line q1_wage q1_clock q1_streets_hours q1_extras_many q1_extras_cells q1_happenings_many q1_happenings_cells v2 v3_j71 v4_j71 v5_j71 v6_j71 k0_j71 = some r8 → va_P E.1 vwCl (wd_X4_richest E a_o a_o_line a_o_reached a_q1 a_q1_streets a_q1_names a_q1_extras a_q1_happenings a_q1_watchers a_q1_weeks a_q1_streets_roads a_q1_streets_takes a_q1_streets_hours a_q1_extras_cells a_q1_happenings_cells o_lined o_open o_line q1_wage q1_delay q1_odds q1_clock q1_hasWeeks q1_streets_corners q1_streets_hours q1_extras_many q1_extras_cells q1_happenings_many q1_happenings_cells) H → va_D A (wd_X4_richest E a_o a_o_line a_o_reached a_q1 a_q1_streets a_q1_names a_q1_extras a_q1_happenings a_q1_watchers a_q1_weeks a_q1_streets_roads a_q1_streets_takes a_q1_streets_hours a_q1_extras_cells a_q1_happenings_cells o_lined o_open o_line q1_wage q1_delay q1_odds q1_clock q1_hasWeeks q1_streets_corners q1_streets_hours q1_extras_many q1_extras_cells q1_happenings_many q1_happenings_cells) → va_S A s.heap H locs → lv_has ls 8 [(0, .ref a_o), (1, .ref a_q1), (2, .int v2), (3, .int v3_j71), (4, .int v4_j71), (5, .int v5_j71), (6, .int v6_j71)] → W p l e (rmd 4) s m aa below meth cd H locs 0 0 QQ (F0 m 71 ls [.int k0_j71]) := by
      intro v3_j71 v4_j71 v5_j71 v6_j71 k0_j71 H locs ls hf hP hD hS hl
      unfold X4_richest_j71 at hf
      refine lv_istore (lv' := [(7, .int k0_j71), (0, .ref a_o), (1, .ref a_q1), (2, .int v2), (3, .int v3_j71), (4, .int v4_j71), (5, .int v5_j71), (6, .int v6_j71)]) hx hb dX4_richest_71 hl (by decide) rfl (fun ls hl => ?_)
      refine lv_iload hx hb dX4_richest_73 (lv_at hl 0 rfl) ?_
      refine lv_if_eq (tgt := 96) hx hb dX4_richest_75 (by decide) (fun hc => ?_) (fun hc => ?_)
      · have hf := it_t hc hf
        exact hj96 _ _ _ _ _ _ hf hP hD hS (lv_sub hl [1, 2, 3, 4, 5, 6] rfl)
      · have hf := it_f hc hf
        refine lv_aload_n hx hb dX4_richest_78 rfl (lv_at hl 1 rfl) ?_
        refine lv_aload_n hx hb dX4_richest_79 rfl (lv_at hl 2 rfl) ?_
        refine lv_iload_n hx hb dX4_richest_80 rfl (lv_at hl 3 rfl) ?_
        refine lv_iload hx hb dX4_richest_81 (lv_at hl 6 rfl) ?_
        obtain ⟨u83, hu83, hf⟩ := bd hf
        refine keepVI (ct_X4_canAttend l E F a_o a_o_line a_o_reached a_q1 a_q1_streets a_q1_names a_q1_extras a_q1_happenings a_q1_watchers a_q1_weeks a_q1_streets_roads a_q1_streets_takes a_q1_streets_hours a_q1_extras_cells a_q1_happenings_cells o_lined o_open o_line q1_wage q1_delay q1_odds q1_clock q1_hasWeeks q1_streets_corners q1_streets_hours q1_extras_many q1_extras_cells q1_happenings_many q1_happenings_cells v2 v5_j71 u83 hu83) [0, 1, 2, 3, 4, 5, 6, 7, 8] cal_X4_canAttend cav_X4_canAttend lk_X4_76 cx hP hD hS hl dX4_richest_83 rfl rfl rfl rfl (Nat.le_of_ble_eq_true rfl) ⟨Nat.le_of_ble_eq_true rfl, Nat.le_of_ble_eq_true rfl⟩ rfl (by decide) (fun H locs hP hS => ?_)
        refine lv_if_eq (tgt := 96) hx hb dX4_richest_86 (by decide) (fun hc => ?_) (fun hc => ?_)
        · have hf := it_t hc hf
          exact hj96 _ _ _ _ _ _ hf hP hD hS (lv_sub hl [1, 2, 3, 4, 5, 6] rfl)
        · have hf := it_f hc hf
          refine lv_iload hx hb dX4_richest_89 (lv_at hl 6 rfl) ?_
          refine lv_istore_n (lv' := [(3, .int v5_j71), (7, .int k0_j71), (0, .ref a_o), (1, .ref a_q1), (2, .int v2), (4, .int v4_j71), (5, .int v5_j71), (6, .int v6_j71)]) hx hb dX4_richest_91 rfl hl (by decide) rfl (fun ls hl => ?_)
          refine lv_iload hx hb dX4_richest_92 (lv_at hl 7 rfl) ?_
          refine lv_istore (lv' := [(4, .int v6_j71), (3, .int v5_j71), (7, .int k0_j71), (0, .ref a_o), (1, .ref a_q1), (2, .int v2), (5, .int v5_j71), (6, .int v6_j71)]) hx hb dX4_richest_94 hl (by decide) rfl (fun ls hl => ?_)
          exact hj96 _ _ _ _ _ _ hf hP hD hS (lv_sub hl [3, 4, 5, 1, 0, 6] rfl)
    have hj70 : ∀ (v3_j70 : Int32) (v4_j70 : Int32) (v5_j70 : Int32) (v6_j70 : Int32) (H : Heap) (locs : List Loc) (ls : Array Slot), X4_richest_j70 F o_lined o_open o_line q1_wage q1_clock q1_streets_hours q1_extras_many q1_extras_cells q1_happenings_many q1_happenings_cells v2 v3_j70 v4_j70 v5_j70 v6_j70 = some r8 → va_P E.1 vwCl (wd_X4_richest E a_o a_o_line a_o_reached a_q1 a_q1_streets a_q1_names a_q1_extras a_q1_happenings a_q1_watchers a_q1_weeks a_q1_streets_roads a_q1_streets_takes a_q1_streets_hours a_q1_extras_cells a_q1_happenings_cells o_lined o_open o_line q1_wage q1_delay q1_odds q1_clock q1_hasWeeks q1_streets_corners q1_streets_hours q1_extras_many q1_extras_cells q1_happenings_many q1_happenings_cells) H → va_D A (wd_X4_richest E a_o a_o_line a_o_reached a_q1 a_q1_streets a_q1_names a_q1_extras a_q1_happenings a_q1_watchers a_q1_weeks a_q1_streets_roads a_q1_streets_takes a_q1_streets_hours a_q1_extras_cells a_q1_happenings_cells o_lined o_open o_line q1_wage q1_delay q1_odds q1_clock q1_hasWeeks q1_streets_corners q1_streets_hours q1_extras_many q1_extras_cells q1_happenings_many q1_happenings_cells) → va_S A s.heap H locs → lv_has ls 8 [(0, .ref a_o), (1, .ref a_q1), (2, .int v2), (3, .int v3_j70), (4, .int v4_j70), (5, .int v5_j70), (6, .int v6_j70)] → W p l e (rmd 4) s m aa below meth cd H locs 0 0 QQ (F0 m 70 ls []) := by
      intro v3_j70 v4_j70 v5_j70 v6_j70 H locs ls hf hP hD hS hl
      unfold X4_richest_j70 at hf
      refine lv_iconst (v := 0) hx hb dX4_richest_70 (by decide) ?_
      exact hj71 _ _ _ _ _ _ _ _ hf hP hD hS (lv_sub hl [0, 1, 2, 3, 4, 5, 6] rfl)
    have hj66 : ∀ (v3_j66 : Int32) (v4_j66 : Int32) (v5_j66 : Int32) (v6_j66 : Int32) (H : Heap) (locs : List Loc) (ls : Array Slot), X4_richest_j66 F o_lined o_open o_line q1_wage q1_clock q1_streets_hours q1_extras_many q1_extras_cells q1_happenings_many q1_happenings_cells v2 v3_j66 v4_j66 v5_j66 v6_j66 = some r8 → va_P E.1 vwCl (wd_X4_richest E a_o a_o_line a_o_reached a_q1 a_q1_streets a_q1_names a_q1_extras a_q1_happenings a_q1_watchers a_q1_weeks a_q1_streets_roads a_q1_streets_takes a_q1_streets_hours a_q1_extras_cells a_q1_happenings_cells o_lined o_open o_line q1_wage q1_delay q1_odds q1_clock q1_hasWeeks q1_streets_corners q1_streets_hours q1_extras_many q1_extras_cells q1_happenings_many q1_happenings_cells) H → va_D A (wd_X4_richest E a_o a_o_line a_o_reached a_q1 a_q1_streets a_q1_names a_q1_extras a_q1_happenings a_q1_watchers a_q1_weeks a_q1_streets_roads a_q1_streets_takes a_q1_streets_hours a_q1_extras_cells a_q1_happenings_cells o_lined o_open o_line q1_wage q1_delay q1_odds q1_clock q1_hasWeeks q1_streets_corners q1_streets_hours q1_extras_many q1_extras_cells q1_happenings_many q1_happenings_cells) → va_S A s.heap H locs → lv_has ls 8 [(0, .ref a_o), (1, .ref a_q1), (2, .int v2), (3, .int v3_j66), (4, .int v4_j66), (5, .int v5_j66), (6, .int v6_j66)] → W p l e (rmd 4) s m aa below meth cd H locs 0 0 QQ (F0 m 66 ls []) := by
      intro v3_j66 v4_j66 v5_j66 v6_j66 H locs ls hf hP hD hS hl
      unfold X4_richest_j66 at hf
      refine lv_iconst (v := 1) hx hb dX4_richest_66 (by decide) ?_
      refine lv_goto (tgt := 71) hx hb dX4_richest_67 (by decide) ?_
      exact hj71 _ _ _ _ _ _ _ _ hf hP hD hS (lv_sub hl [0, 1, 2, 3, 4, 5, 6] rfl)
    unfold X4_richest_b8 at hf
    refine lv_iload hx hb dX4_richest_8 (lv_at hl 5 rfl) ?_
    refine lv_aload_n hx hb dX4_richest_10 rfl (lv_at hl 0 rfl) ?_
    refine va_get (D := E.1) (ci := 4) (v := .int o_open) (C := RX4) (T := TX4) (N := 4) hx hb hts inX4 hown hK hP 0 rfl rfl 3 (by decide) (hts _ fl_X4_18) (fun _ h9 => h9) rfl dX4_richest_11 ?_
    refine lv_icmp_gt (tgt := 102) hx hb dX4_richest_14 (by decide) (fun hc => ?_) (fun hc => ?_)
    · have hf := it_t hc hf
      exact he8 _ (Option.some.inj hf).symm _ _ _ hP hD hS (lv_sub hl [3] rfl)
    · have hf := it_f hc hf
      refine lv_iload hx hb dX4_richest_17 (lv_at hl 5 rfl) ?_
      refine lv_aload_n hx hb dX4_richest_19 rfl (lv_at hl 0 rfl) ?_
      refine va_get (D := E.1) (ci := 4) (v := .int o_open) (C := RX4) (T := TX4) (N := 4) hx hb hts inX4 hown hK hP 0 rfl rfl 3 (by decide) (hts _ fl_X4_18) (fun _ h9 => h9) rfl dX4_richest_20 ?_
      refine lv_iconst (v := (-1)) hx hb dX4_richest_23 (by decide) ?_
      refine lv_ixor hx hb dX4_richest_24 ?_
      refine lv_iand hx hb dX4_richest_25 ?_
      refine lv_if_eq (tgt := 32) hx hb dX4_richest_26 (by decide) (fun hc => ?_) (fun hc => ?_)
      · have hf := it_t hc hf
        refine lv_aload_n hx hb dX4_richest_32 rfl (lv_at hl 1 rfl) ?_
        refine lv_iload hx hb dX4_richest_33 (lv_at hl 5 rfl) ?_
        obtain ⟨u35, hu35, hf⟩ := bd hf
        refine keepVI (ct_X0_wagesOf l E F a_q1 a_q1_streets a_q1_names a_q1_extras a_q1_happenings a_q1_watchers a_q1_weeks a_q1_happenings_cells q1_wage q1_delay q1_odds q1_clock q1_hasWeeks q1_happenings_many q1_happenings_cells st8.2.2 u35 hu35) [2, 7, 8] cal_X0_wagesOf cav_X0_wagesOf lk_X4_67 cx hP hD hS hl dX4_richest_35 rfl rfl rfl rfl (Nat.le_of_ble_eq_true rfl) ⟨Nat.le_of_ble_eq_true rfl, Nat.le_of_ble_eq_true rfl⟩ rfl (by decide) (fun H locs hP hS => ?_)
        refine lv_istore (lv' := [(6, .int u35), (0, .ref a_o), (1, .ref a_q1), (2, .int v2), (3, .int st8.1), (4, .int st8.2.1), (5, .int st8.2.2)]) hx hb dX4_richest_38 hl (by decide) rfl (fun ls hl => ?_)
        refine lv_iload hx hb dX4_richest_40 (lv_at hl 0 rfl) ?_
        refine lv_iload hx hb dX4_richest_42 (lv_at hl 5 rfl) ?_
        refine lv_icmp_gt (tgt := 66) hx hb dX4_richest_44 (by decide) (fun hc => ?_) (fun hc => ?_)
        · have hf := it_t hc hf
          exact hj66 _ _ _ _ _ _ _ hf hP hD hS (lv_sub hl [1, 2, 3, 4, 5, 6, 0] rfl)
        · have hf := it_f hc hf
          refine lv_iload hx hb dX4_richest_47 (lv_at hl 0 rfl) ?_
          refine lv_iload hx hb dX4_richest_49 (lv_at hl 5 rfl) ?_
          refine lv_icmp_ne (tgt := 70) hx hb dX4_richest_51 (by decide) (fun hc => ?_) (fun hc => ?_)
          · have hf := it_f hc hf
            exact hj70 _ _ _ _ _ _ _ hf hP hD hS (lv_sub hl [1, 2, 3, 4, 5, 6, 0] rfl)
          · have hf := it_t hc hf
            refine lv_iload hx hb dX4_richest_54 (lv_at hl 6 rfl) ?_
            obtain ⟨u56, hu56, hf⟩ := bd hf
            refine keepSI (ct_J6_bitCount_0f7a4 l E st8.2.2 u56 hu56) [] cal_J6_bitCount_0f7a4 sta_J6_bitCount_0f7a4 lk_X4_71 cx hP hD hS hl dX4_richest_56 rfl rfl (Nat.le_of_ble_eq_true rfl) ⟨Nat.le_of_ble_eq_true rfl, Nat.le_of_ble_eq_true rfl⟩ rfl (by decide) (fun H locs hP hS => ?_)
            refine lv_iload_n hx hb dX4_richest_59 rfl (lv_at hl 4 rfl) ?_
            obtain ⟨u60, hu60, hf⟩ := bd hf
            refine keepSI (ct_J6_bitCount_0f7a4 l E st8.1 u60 hu60) [] cal_J6_bitCount_0f7a4 sta_J6_bitCount_0f7a4 lk_X4_71 cx hP hD hS hl dX4_richest_60 rfl rfl (Nat.le_of_ble_eq_true rfl) ⟨Nat.le_of_ble_eq_true rfl, Nat.le_of_ble_eq_true rfl⟩ rfl (by decide) (fun H locs hP hS => ?_)
            refine lv_icmp_ge (tgt := 70) hx hb dX4_richest_63 (by decide) (fun hc => ?_) (fun hc => ?_)
            · have hf := it_t hc hf
              exact hj70 _ _ _ _ _ _ _ hf hP hD hS (lv_sub hl [1, 2, 3, 4, 5, 6, 0] rfl)
            · have hf := it_f hc hf
              exact hj66 _ _ _ _ _ _ _ hf hP hD hS (lv_sub hl [1, 2, 3, 4, 5, 6, 0] rfl)
      · have hf := it_f hc hf
        refine lv_goto (tgt := 96) hx hb dX4_richest_29 (by decide) ?_
        exact hj96 _ _ _ _ _ _ hf hP hD hS (lv_sub hl [0, 1, 2, 3, 4, 5] rfl)
  · refine fun H locs ls hP hD hS hl => ?_
    refine lv_iload_n hx hb dX4_richest_102 rfl (lv_at hl 0 rfl) ?_
    obtain rfl := Option.some.inj hf
    subst hq
    exact retI cx hP hD hS dX4_richest_103
def X4_comesFrom_j69 (F : Nat) (o_line : Nat → Int32) (q1_clock : Int32) (q1_streets_hours : Nat → Int32) (q1_extras_many : Int32) (q1_extras_cells : Nat → Int32) (q1_happenings_many : Int32) (q1_happenings_cells : Nat → Int32) (v2 : Int32) (v3 : Int32) (v4 : Int32) (v5 : Int32) : Option ((Int32 × Int32) ⊕ ((Int32))) :=
  some (.inl (v4, (v5 + 1)))
def X4_comesFrom_b13 (F : Nat) (o_line : Nat → Int32) (q1_clock : Int32) (q1_streets_hours : Nat → Int32) (q1_extras_many : Int32) (q1_extras_cells : Nat → Int32) (q1_happenings_many : Int32) (q1_happenings_cells : Nat → Int32) (v2 : Int32) (v3 : Int32) (st13 : Int32 × Int32) : Option ((Int32 × Int32) ⊕ ((Int32))) :=
  if v2 ≤ st13.2 then
  some (.inr st13.1)
  else
  if ix st13.2 8 then
  (X7_get 40 5 q1_happenings_many q1_happenings_cells (jat o_line st13.2) (0 : Int32)).bind fun u35 =>
  (X7_get 40 5 q1_happenings_many q1_happenings_cells (jat o_line st13.2) (1 : Int32)).bind fun u50 =>
  (X4_comesTo q1_streets_hours q1_happenings_many q1_happenings_cells u35 u50 v3).bind fun u54 =>
  if u54 = 0 then
  X4_comesFrom_j69 F o_line q1_clock q1_streets_hours q1_extras_many q1_extras_cells q1_happenings_many q1_happenings_cells v2 v3 st13.1 st13.2
  else
  X4_comesFrom_j69 F o_line q1_clock q1_streets_hours q1_extras_many q1_extras_cells q1_happenings_many q1_happenings_cells v2 v3 (st13.1 ||| (jshl 1 (jat o_line st13.2))) st13.2
  else none
def X4_comesFrom_j126 (F : Nat) (o_line : Nat → Int32) (q1_clock : Int32) (q1_streets_hours : Nat → Int32) (q1_extras_many : Int32) (q1_extras_cells : Nat → Int32) (q1_happenings_many : Int32) (q1_happenings_cells : Nat → Int32) (v3 : Int32) (v4 : Int32) (v5 : Int32) : Option ((Int32 × Int32) ⊕ ((Int32))) :=
  some (.inl (v4, (v5 + 1)))
def X4_comesFrom_b78 (F : Nat) (o_line : Nat → Int32) (q1_clock : Int32) (q1_streets_hours : Nat → Int32) (q1_extras_many : Int32) (q1_extras_cells : Nat → Int32) (q1_happenings_many : Int32) (q1_happenings_cells : Nat → Int32) (v3 : Int32) (st78 : Int32 × Int32) : Option ((Int32 × Int32) ⊕ ((Int32))) :=
  if q1_extras_many ≤ st78.2 then
  some (.inr st78.1)
  else
  (X7_get 35 5 q1_extras_many q1_extras_cells st78.2 (0 : Int32)).bind fun u98 =>
  (X4_stoodAt q1_clock q1_extras_many q1_extras_cells st78.2).bind fun u104 =>
  (X4_comesTo q1_streets_hours q1_happenings_many q1_happenings_cells u98 u104 v3).bind fun u108 =>
  if u108 = 0 then
  X4_comesFrom_j126 F o_line q1_clock q1_streets_hours q1_extras_many q1_extras_cells q1_happenings_many q1_happenings_cells v3 st78.1 st78.2
  else
  X4_comesFrom_j126 F o_line q1_clock q1_streets_hours q1_extras_many q1_extras_cells q1_happenings_many q1_happenings_cells v3 (st78.1 ||| (jshl 1 (8 + st78.2))) st78.2
def X4_comesFrom (F : Nat) (o_line : Nat → Int32) (q1_clock : Int32) (q1_streets_hours : Nat → Int32) (q1_extras_many : Int32) (q1_extras_cells : Nat → Int32) (q1_happenings_many : Int32) (q1_happenings_cells : Nat → Int32) (v2 : Int32) : Option (Int32) :=
  if ix v2 8 then
  (iter (X4_comesFrom_b13 F o_line q1_clock q1_streets_hours q1_extras_many q1_extras_cells q1_happenings_many q1_happenings_cells v2 (jat o_line v2)) F (0, 0)).bind (fun (e13 : Int32) =>
    (iter (X4_comesFrom_b78 F o_line q1_clock q1_streets_hours q1_extras_many q1_extras_cells q1_happenings_many q1_happenings_cells (jat o_line v2)) F (e13, 0)).bind (fun (e78 : Int32) =>
    some e78))
  else none
abbrev wd_X4_comesFrom (E : vE) (a_o a_o_line a_o_reached a_q1 a_q1_streets a_q1_names a_q1_extras a_q1_happenings a_q1_watchers a_q1_weeks a_q1_streets_roads a_q1_streets_takes a_q1_streets_hours a_q1_extras_cells a_q1_happenings_cells : Nat) (o_lined : Int32) (o_open : Int32) (o_line : Nat → Int32) (q1_wage : Int32) (q1_delay : Int32) (q1_odds : Int32) (q1_clock : Int32) (q1_hasWeeks : Int32) (q1_streets_corners : Int32) (q1_streets_hours : Nat → Int32) (q1_extras_many : Int32) (q1_extras_cells : Nat → Int32) (q1_happenings_many : Int32) (q1_happenings_cells : Nat → Int32) : va_W := [(a_o, .inr (4, [.ref a_o_line, .int o_lined, .ref a_o_reached, .int o_open])), (a_o_line, .inl (E.2.1, 8, .inl o_line)), (a_q1, .inr (0, [.int q1_wage, .int q1_delay, .int q1_odds, .int q1_clock, .int q1_hasWeeks, .ref a_q1_streets, .ref a_q1_names, .ref a_q1_extras, .ref a_q1_happenings, .ref a_q1_watchers, .ref a_q1_weeks])), (a_q1_streets, .inr (6, [.int q1_streets_corners, .ref a_q1_streets_roads, .ref a_q1_streets_takes, .ref a_q1_streets_hours])), (a_q1_streets_hours, .inl (E.2.1, 64, .inl q1_streets_hours)), (a_q1_extras, .inr (7, [.int 5, .ref a_q1_extras_cells, .int q1_extras_many])), (a_q1_extras_cells, .inl (E.2.1, 35, .inl q1_extras_cells)), (a_q1_happenings, .inr (7, [.int 5, .ref a_q1_happenings_cells, .int q1_happenings_many])), (a_q1_happenings_cells, .inl (E.2.1, 40, .inl q1_happenings_cells))]
set_option maxHeartbeats 4000000 in
set_option maxRecDepth 100000 in
theorem ct_X4_comesFrom (l : Launch) (E : vE) (F : Nat) (a_o a_o_line a_o_reached a_q1 a_q1_streets a_q1_names a_q1_extras a_q1_happenings a_q1_watchers a_q1_weeks a_q1_streets_roads a_q1_streets_takes a_q1_streets_hours a_q1_extras_cells a_q1_happenings_cells : Nat) (o_lined : Int32) (o_open : Int32) (o_line : Nat → Int32) (q1_wage : Int32) (q1_delay : Int32) (q1_odds : Int32) (q1_clock : Int32) (q1_hasWeeks : Int32) (q1_streets_corners : Int32) (q1_streets_hours : Nat → Int32) (q1_extras_many : Int32) (q1_extras_cells : Nat → Int32) (q1_happenings_many : Int32) (q1_happenings_cells : Nat → Int32) (v2 : Int32) (u : Int32) (hf : X4_comesFrom F o_line q1_clock q1_streets_hours q1_extras_many q1_extras_cells q1_happenings_many q1_happenings_cells v2 = some u) :
    CtI l yX4_comesFrom cX4_comesFrom 8 (some .int) 3 E [.ref a_o, .ref a_q1, .int v2] (wd_X4_comesFrom E a_o a_o_line a_o_reached a_q1 a_q1_streets a_q1_names a_q1_extras a_q1_happenings a_q1_watchers a_q1_weeks a_q1_streets_roads a_q1_streets_takes a_q1_streets_hours a_q1_extras_cells a_q1_happenings_cells o_lined o_open o_line q1_wage q1_delay q1_odds q1_clock q1_hasWeeks q1_streets_corners q1_streets_hours q1_extras_many q1_extras_cells q1_happenings_many q1_happenings_cells) (wd_X4_comesFrom E a_o a_o_line a_o_reached a_q1 a_q1_streets a_q1_names a_q1_extras a_q1_happenings a_q1_watchers a_q1_weeks a_q1_streets_roads a_q1_streets_takes a_q1_streets_hours a_q1_extras_cells a_q1_happenings_cells o_lined o_open o_line q1_wage q1_delay q1_odds q1_clock q1_hasWeeks q1_streets_corners q1_streets_hours q1_extras_many q1_extras_cells q1_happenings_many q1_happenings_cells) u := by
  refine ctI (by decide) (Nat.le_of_ble_eq_true rfl) ?_
  intro p e s m below meth cd A ls aa QQ hq cx hP hD hS hl
  obtain ⟨⟨hx, hb, hml, hown, hts⟩, hr, hlocks, hK, hA, hX⟩ := id cx
  have hl : lv_has ls 8 [(0, .ref a_o), (1, .ref a_q1), (2, .int v2)] := hl
  unfold X4_comesFrom at hf
  refine lv_aload_n hx hb dX4_comesFrom_0 rfl (lv_at hl 0 rfl) ?_
  refine va_get (D := E.1) (ci := 4) (v := .ref a_o_line) (C := RX4) (T := TX4) (N := 4) hx hb hts inX4 hown hK hP 0 rfl rfl 0 (by decide) (hts _ fl_X4_11) (fun _ h9 => h9) rfl dX4_comesFrom_1 ?_
  refine lv_iload_n hx hb dX4_comesFrom_4 rfl (lv_at hl 2 rfl) ?_
  obtain ⟨hi, hf⟩ := ck hf
  refine r_iald 1 cx hP rfl hi dX4_comesFrom_5 ?_
  refine lv_istore_n (lv' := [(3, .int (jat o_line v2)), (0, .ref a_o), (1, .ref a_q1), (2, .int v2)]) hx hb dX4_comesFrom_6 rfl hl (by decide) rfl (fun ls hl => ?_)
  refine lv_iconst (v := 0) hx hb dX4_comesFrom_7 (by decide) ?_
  refine lv_istore (lv' := [(4, .int 0), (3, .int (jat o_line v2)), (0, .ref a_o), (1, .ref a_q1), (2, .int v2)]) hx hb dX4_comesFrom_8 hl (by decide) rfl (fun ls hl => ?_)
  refine lv_iconst (v := 0) hx hb dX4_comesFrom_10 (by decide) ?_
  refine lv_istore (lv' := [(5, .int 0), (4, .int 0), (3, .int (jat o_line v2)), (0, .ref a_o), (1, .ref a_q1), (2, .int v2)]) hx hb dX4_comesFrom_11 hl (by decide) rfl (fun ls hl => ?_)
  obtain ⟨e13, hit13, hf⟩ := bd hf
  refine iter_W (b := X4_comesFrom_b13 F o_line q1_clock q1_streets_hours q1_extras_many q1_extras_cells q1_happenings_many q1_happenings_cells v2 (jat o_line v2)) (P := fun st13 => ∀ (H : Heap) (locs : List Loc) (ls : Array Slot), va_P E.1 vwCl (wd_X4_comesFrom E a_o a_o_line a_o_reached a_q1 a_q1_streets a_q1_names a_q1_extras a_q1_happenings a_q1_watchers a_q1_weeks a_q1_streets_roads a_q1_streets_takes a_q1_streets_hours a_q1_extras_cells a_q1_happenings_cells o_lined o_open o_line q1_wage q1_delay q1_odds q1_clock q1_hasWeeks q1_streets_corners q1_streets_hours q1_extras_many q1_extras_cells q1_happenings_many q1_happenings_cells) H → va_D A (wd_X4_comesFrom E a_o a_o_line a_o_reached a_q1 a_q1_streets a_q1_names a_q1_extras a_q1_happenings a_q1_watchers a_q1_weeks a_q1_streets_roads a_q1_streets_takes a_q1_streets_hours a_q1_extras_cells a_q1_happenings_cells o_lined o_open o_line q1_wage q1_delay q1_odds q1_clock q1_hasWeeks q1_streets_corners q1_streets_hours q1_extras_many q1_extras_cells q1_happenings_many q1_happenings_cells) → va_S A s.heap H locs → lv_has ls 8 [(0, .ref a_o), (1, .ref a_q1), (2, .int v2), (3, .int (jat o_line v2)), (4, .int st13.1), (5, .int st13.2)] → W p l e (rmd 3) s m aa below meth cd H locs 0 0 QQ (F0 m 13 ls [])) (G := (fun (e13 : Int32) => ∀ (H : Heap) (locs : List Loc) (ls : Array Slot), va_P E.1 vwCl (wd_X4_comesFrom E a_o a_o_line a_o_reached a_q1 a_q1_streets a_q1_names a_q1_extras a_q1_happenings a_q1_watchers a_q1_weeks a_q1_streets_roads a_q1_streets_takes a_q1_streets_hours a_q1_extras_cells a_q1_happenings_cells o_lined o_open o_line q1_wage q1_delay q1_odds q1_clock q1_hasWeeks q1_streets_corners q1_streets_hours q1_extras_many q1_extras_cells q1_happenings_many q1_happenings_cells) H → va_D A (wd_X4_comesFrom E a_o a_o_line a_o_reached a_q1 a_q1_streets a_q1_names a_q1_extras a_q1_happenings a_q1_watchers a_q1_weeks a_q1_streets_roads a_q1_streets_takes a_q1_streets_hours a_q1_extras_cells a_q1_happenings_cells o_lined o_open o_line q1_wage q1_delay q1_odds q1_clock q1_hasWeeks q1_streets_corners q1_streets_hours q1_extras_many q1_extras_cells q1_happenings_many q1_happenings_cells) → va_S A s.heap H locs → lv_has ls 8 [(1, .ref a_q1), (3, .int (jat o_line v2)), (4, .int e13)] → W p l e (rmd 3) s m aa below meth cd H locs 0 0 QQ (F0 m 75 ls []))) ?_ F (0, 0) e13 hit13 ?_ _ _ _ hP hD hS (lv_sub hl [3, 4, 5, 2, 1, 0] rfl)
  · intro st13 r13 hf hk13 he13 H locs ls hP hD hS hl
    have hj69 : ∀ (v4_j69 : Int32) (v5_j69 : Int32) (H : Heap) (locs : List Loc) (ls : Array Slot), X4_comesFrom_j69 F o_line q1_clock q1_streets_hours q1_extras_many q1_extras_cells q1_happenings_many q1_happenings_cells v2 (jat o_line v2) v4_j69 v5_j69 = some r13 → va_P E.1 vwCl (wd_X4_comesFrom E a_o a_o_line a_o_reached a_q1 a_q1_streets a_q1_names a_q1_extras a_q1_happenings a_q1_watchers a_q1_weeks a_q1_streets_roads a_q1_streets_takes a_q1_streets_hours a_q1_extras_cells a_q1_happenings_cells o_lined o_open o_line q1_wage q1_delay q1_odds q1_clock q1_hasWeeks q1_streets_corners q1_streets_hours q1_extras_many q1_extras_cells q1_happenings_many q1_happenings_cells) H → va_D A (wd_X4_comesFrom E a_o a_o_line a_o_reached a_q1 a_q1_streets a_q1_names a_q1_extras a_q1_happenings a_q1_watchers a_q1_weeks a_q1_streets_roads a_q1_streets_takes a_q1_streets_hours a_q1_extras_cells a_q1_happenings_cells o_lined o_open o_line q1_wage q1_delay q1_odds q1_clock q1_hasWeeks q1_streets_corners q1_streets_hours q1_extras_many q1_extras_cells q1_happenings_many q1_happenings_cells) → va_S A s.heap H locs → lv_has ls 8 [(0, .ref a_o), (1, .ref a_q1), (2, .int v2), (3, .int (jat o_line v2)), (4, .int v4_j69), (5, .int v5_j69)] → W p l e (rmd 3) s m aa below meth cd H locs 0 0 QQ (F0 m 69 ls []) := by
      intro v4_j69 v5_j69 H locs ls hf hP hD hS hl
      unfold X4_comesFrom_j69 at hf
      refine lv_iinc (v := (v5_j69 + 1)) (lv' := [(5, .int (v5_j69 + 1)), (0, .ref a_o), (1, .ref a_q1), (2, .int v2), (3, .int (jat o_line v2)), (4, .int v4_j69)]) hx hb dX4_comesFrom_69 hl (k := 5) rfl rfl (by decide) rfl (fun ls hl => ?_)
      refine lv_goto (tgt := 13) hx hb dX4_comesFrom_72 (by decide) ?_
      exact hk13 _ (Option.some.inj hf).symm _ _ _ hP hD hS (lv_sub hl [1, 2, 3, 4, 5, 0] rfl)
    unfold X4_comesFrom_b13 at hf
    refine lv_iload hx hb dX4_comesFrom_13 (lv_at hl 5 rfl) ?_
    refine lv_iload_n hx hb dX4_comesFrom_15 rfl (lv_at hl 2 rfl) ?_
    refine lv_icmp_ge (tgt := 75) hx hb dX4_comesFrom_16 (by decide) (fun hc => ?_) (fun hc => ?_)
    · have hf := it_t hc hf
      exact he13 _ (Option.some.inj hf).symm _ _ _ hP hD hS (lv_sub hl [1, 3, 4] rfl)
    · have hf := it_f hc hf
      refine lv_aload_n hx hb dX4_comesFrom_19 rfl (lv_at hl 0 rfl) ?_
      refine va_get (D := E.1) (ci := 4) (v := .ref a_o_line) (C := RX4) (T := TX4) (N := 4) hx hb hts inX4 hown hK hP 0 rfl rfl 0 (by decide) (hts _ fl_X4_11) (fun _ h9 => h9) rfl dX4_comesFrom_20 ?_
      refine lv_iload hx hb dX4_comesFrom_23 (lv_at hl 5 rfl) ?_
      obtain ⟨hi, hf⟩ := ck hf
      refine r_iald 1 cx hP rfl hi dX4_comesFrom_25 ?_
      refine lv_istore (lv' := [(6, .int (jat o_line st13.2)), (0, .ref a_o), (1, .ref a_q1), (2, .int v2), (3, .int (jat o_line v2)), (4, .int st13.1), (5, .int st13.2)]) hx hb dX4_comesFrom_26 hl (by decide) rfl (fun ls hl => ?_)
      refine lv_aload_n hx hb dX4_comesFrom_28 rfl (lv_at hl 2 rfl) ?_
      refine va_get (D := E.1) (ci := 0) (v := .ref a_q1_happenings) (C := RX0) (T := TX0) (N := 11) hx hb hts inX0 hown hK hP 2 rfl rfl 8 (by decide) (hts _ fl_X4_25) (fun _ h9 => h9) rfl dX4_comesFrom_29 ?_
      refine lv_iload hx hb dX4_comesFrom_32 (lv_at hl 0 rfl) ?_
      refine lv_iconst (v := 0) hx hb dX4_comesFrom_34 (by decide) ?_
      obtain ⟨u35, hu35, hf⟩ := bd hf
      refine keepVI (ct_X7_get l E a_q1_happenings a_q1_happenings_cells 40 5 q1_happenings_many q1_happenings_cells (jat o_line st13.2) (0 : Int32) u35 hu35) [7, 8] cal_X7_get cav_X7_get lk_X4_36 cx hP hD hS hl dX4_comesFrom_35 rfl rfl rfl rfl (Nat.le_of_ble_eq_true rfl) ⟨Nat.le_of_ble_eq_true rfl, Nat.le_of_ble_eq_true rfl⟩ rfl (by decide) (fun H locs hP hS => ?_)
      refine lv_istore (lv' := [(7, .int u35), (6, .int (jat o_line st13.2)), (0, .ref a_o), (1, .ref a_q1), (2, .int v2), (3, .int (jat o_line v2)), (4, .int st13.1), (5, .int st13.2)]) hx hb dX4_comesFrom_38 hl (by decide) rfl (fun ls hl => ?_)
      refine lv_aload_n hx hb dX4_comesFrom_40 rfl (lv_at hl 3 rfl) ?_
      refine lv_iload hx hb dX4_comesFrom_41 (lv_at hl 0 rfl) ?_
      refine lv_aload_n hx hb dX4_comesFrom_43 rfl (lv_at hl 3 rfl) ?_
      refine va_get (D := E.1) (ci := 0) (v := .ref a_q1_happenings) (C := RX0) (T := TX0) (N := 11) hx hb hts inX0 hown hK hP 2 rfl rfl 8 (by decide) (hts _ fl_X4_25) (fun _ h9 => h9) rfl dX4_comesFrom_44 ?_
      refine lv_iload hx hb dX4_comesFrom_47 (lv_at hl 1 rfl) ?_
      refine lv_iconst (v := 1) hx hb dX4_comesFrom_49 (by decide) ?_
      obtain ⟨u50, hu50, hf⟩ := bd hf
      refine keepVI (ct_X7_get l E a_q1_happenings a_q1_happenings_cells 40 5 q1_happenings_many q1_happenings_cells (jat o_line st13.2) (1 : Int32) u50 hu50) [7, 8] cal_X7_get cav_X7_get lk_X4_36 cx hP hD hS hl dX4_comesFrom_50 rfl rfl rfl rfl (Nat.le_of_ble_eq_true rfl) ⟨Nat.le_of_ble_eq_true rfl, Nat.le_of_ble_eq_true rfl⟩ rfl (by decide) (fun H locs hP hS => ?_)
      refine lv_iload_n hx hb dX4_comesFrom_53 rfl (lv_at hl 5 rfl) ?_
      obtain ⟨u54, hu54, hf⟩ := bd hf
      refine keepSI (ct_X4_comesTo l E a_q1 a_q1_streets a_q1_names a_q1_extras a_q1_happenings a_q1_watchers a_q1_weeks a_q1_streets_roads a_q1_streets_takes a_q1_streets_hours a_q1_happenings_cells q1_wage q1_delay q1_odds q1_clock q1_hasWeeks q1_streets_corners q1_streets_hours q1_happenings_many q1_happenings_cells u35 u50 (jat o_line v2) u54 hu54) [2, 3, 4, 7, 8] cal_X4_comesTo sta_X4_comesTo lk_X4_63 cx hP hD hS hl dX4_comesFrom_54 rfl rfl (Nat.le_of_ble_eq_true rfl) ⟨Nat.le_of_ble_eq_true rfl, Nat.le_of_ble_eq_true rfl⟩ rfl (by decide) (fun H locs hP hS => ?_)
      refine lv_if_eq (tgt := 69) hx hb dX4_comesFrom_57 (by decide) (fun hc => ?_) (fun hc => ?_)
      · have hf := it_t hc hf
        exact hj69 _ _ _ _ _ hf hP hD hS (lv_sub hl [2, 3, 4, 5, 6, 7] rfl)
      · have hf := it_f hc hf
        refine lv_iload hx hb dX4_comesFrom_60 (lv_at hl 6 rfl) ?_
        refine lv_iconst (v := 1) hx hb dX4_comesFrom_62 (by decide) ?_
        refine lv_iload hx hb dX4_comesFrom_63 (lv_at hl 1 rfl) ?_
        refine r_ishl hx hb dX4_comesFrom_65 ?_
        refine lv_ior hx hb dX4_comesFrom_66 ?_
        refine lv_istore (lv' := [(4, .int (st13.1 ||| (jshl 1 (jat o_line st13.2)))), (7, .int u35), (6, .int (jat o_line st13.2)), (0, .ref a_o), (1, .ref a_q1), (2, .int v2), (3, .int (jat o_line v2)), (5, .int st13.2)]) hx hb dX4_comesFrom_67 hl (by decide) rfl (fun ls hl => ?_)
        exact hj69 _ _ _ _ _ hf hP hD hS (lv_sub hl [3, 4, 5, 6, 0, 7] rfl)
  · refine fun H locs ls hP hD hS hl => ?_
    refine lv_iconst (v := 0) hx hb dX4_comesFrom_75 (by decide) ?_
    refine lv_istore (lv' := [(5, .int 0), (1, .ref a_q1), (3, .int (jat o_line v2)), (4, .int e13)]) hx hb dX4_comesFrom_76 hl (by decide) rfl (fun ls hl => ?_)
    obtain ⟨e78, hit78, hf⟩ := bd hf
    refine iter_W (b := X4_comesFrom_b78 F o_line q1_clock q1_streets_hours q1_extras_many q1_extras_cells q1_happenings_many q1_happenings_cells (jat o_line v2)) (P := fun st78 => ∀ (H : Heap) (locs : List Loc) (ls : Array Slot), va_P E.1 vwCl (wd_X4_comesFrom E a_o a_o_line a_o_reached a_q1 a_q1_streets a_q1_names a_q1_extras a_q1_happenings a_q1_watchers a_q1_weeks a_q1_streets_roads a_q1_streets_takes a_q1_streets_hours a_q1_extras_cells a_q1_happenings_cells o_lined o_open o_line q1_wage q1_delay q1_odds q1_clock q1_hasWeeks q1_streets_corners q1_streets_hours q1_extras_many q1_extras_cells q1_happenings_many q1_happenings_cells) H → va_D A (wd_X4_comesFrom E a_o a_o_line a_o_reached a_q1 a_q1_streets a_q1_names a_q1_extras a_q1_happenings a_q1_watchers a_q1_weeks a_q1_streets_roads a_q1_streets_takes a_q1_streets_hours a_q1_extras_cells a_q1_happenings_cells o_lined o_open o_line q1_wage q1_delay q1_odds q1_clock q1_hasWeeks q1_streets_corners q1_streets_hours q1_extras_many q1_extras_cells q1_happenings_many q1_happenings_cells) → va_S A s.heap H locs → lv_has ls 8 [(1, .ref a_q1), (3, .int (jat o_line v2)), (4, .int st78.1), (5, .int st78.2)] → W p l e (rmd 3) s m aa below meth cd H locs 0 0 QQ (F0 m 78 ls [])) (G := (fun (e78 : Int32) => ∀ (H : Heap) (locs : List Loc) (ls : Array Slot), va_P E.1 vwCl (wd_X4_comesFrom E a_o a_o_line a_o_reached a_q1 a_q1_streets a_q1_names a_q1_extras a_q1_happenings a_q1_watchers a_q1_weeks a_q1_streets_roads a_q1_streets_takes a_q1_streets_hours a_q1_extras_cells a_q1_happenings_cells o_lined o_open o_line q1_wage q1_delay q1_odds q1_clock q1_hasWeeks q1_streets_corners q1_streets_hours q1_extras_many q1_extras_cells q1_happenings_many q1_happenings_cells) H → va_D A (wd_X4_comesFrom E a_o a_o_line a_o_reached a_q1 a_q1_streets a_q1_names a_q1_extras a_q1_happenings a_q1_watchers a_q1_weeks a_q1_streets_roads a_q1_streets_takes a_q1_streets_hours a_q1_extras_cells a_q1_happenings_cells o_lined o_open o_line q1_wage q1_delay q1_odds q1_clock q1_hasWeeks q1_streets_corners q1_streets_hours q1_extras_many q1_extras_cells q1_happenings_many q1_happenings_cells) → va_S A s.heap H locs → lv_has ls 8 [(4, .int e78)] → W p l e (rmd 3) s m aa below meth cd H locs 0 0 QQ (F0 m 132 ls []))) ?_ F (e13, 0) e78 hit78 ?_ _ _ _ hP hD hS (lv_sub hl [1, 2, 3, 0] rfl)
    · intro st78 r78 hf hk78 he78 H locs ls hP hD hS hl
      have hj126 : ∀ (v4_j126 : Int32) (v5_j126 : Int32) (H : Heap) (locs : List Loc) (ls : Array Slot), X4_comesFrom_j126 F o_line q1_clock q1_streets_hours q1_extras_many q1_extras_cells q1_happenings_many q1_happenings_cells (jat o_line v2) v4_j126 v5_j126 = some r78 → va_P E.1 vwCl (wd_X4_comesFrom E a_o a_o_line a_o_reached a_q1 a_q1_streets a_q1_names a_q1_extras a_q1_happenings a_q1_watchers a_q1_weeks a_q1_streets_roads a_q1_streets_takes a_q1_streets_hours a_q1_extras_cells a_q1_happenings_cells o_lined o_open o_line q1_wage q1_delay q1_odds q1_clock q1_hasWeeks q1_streets_corners q1_streets_hours q1_extras_many q1_extras_cells q1_happenings_many q1_happenings_cells) H → va_D A (wd_X4_comesFrom E a_o a_o_line a_o_reached a_q1 a_q1_streets a_q1_names a_q1_extras a_q1_happenings a_q1_watchers a_q1_weeks a_q1_streets_roads a_q1_streets_takes a_q1_streets_hours a_q1_extras_cells a_q1_happenings_cells o_lined o_open o_line q1_wage q1_delay q1_odds q1_clock q1_hasWeeks q1_streets_corners q1_streets_hours q1_extras_many q1_extras_cells q1_happenings_many q1_happenings_cells) → va_S A s.heap H locs → lv_has ls 8 [(1, .ref a_q1), (3, .int (jat o_line v2)), (4, .int v4_j126), (5, .int v5_j126)] → W p l e (rmd 3) s m aa below meth cd H locs 0 0 QQ (F0 m 126 ls []) := by
        intro v4_j126 v5_j126 H locs ls hf hP hD hS hl
        unfold X4_comesFrom_j126 at hf
        refine lv_iinc (v := (v5_j126 + 1)) (lv' := [(5, .int (v5_j126 + 1)), (1, .ref a_q1), (3, .int (jat o_line v2)), (4, .int v4_j126)]) hx hb dX4_comesFrom_126 hl (k := 3) rfl rfl (by decide) rfl (fun ls hl => ?_)
        refine lv_goto (tgt := 78) hx hb dX4_comesFrom_129 (by decide) ?_
        exact hk78 _ (Option.some.inj hf).symm _ _ _ hP hD hS (lv_sub hl [1, 2, 3, 0] rfl)
      unfold X4_comesFrom_b78 at hf
      refine lv_iload hx hb dX4_comesFrom_78 (lv_at hl 3 rfl) ?_
      refine lv_aload_n hx hb dX4_comesFrom_80 rfl (lv_at hl 0 rfl) ?_
      refine va_get (D := E.1) (ci := 0) (v := .ref a_q1_extras) (C := RX0) (T := TX0) (N := 11) hx hb hts inX0 hown hK hP 2 rfl rfl 7 (by decide) (hts _ fl_X4_47) (fun _ h9 => h9) rfl dX4_comesFrom_81 ?_
      refine va_get (D := E.1) (ci := 7) (v := .int q1_extras_many) (C := RX7) (T := TX7) (N := 3) hx hb hts inX7 hown hK hP 5 rfl rfl 2 (by decide) (hts _ fl_X4_31) (fun _ h9 => h9) rfl dX4_comesFrom_84 ?_
      refine lv_icmp_ge (tgt := 132) hx hb dX4_comesFrom_87 (by decide) (fun hc => ?_) (fun hc => ?_)
      · have hf := it_t hc hf
        exact he78 _ (Option.some.inj hf).symm _ _ _ hP hD hS (lv_sub hl [2] rfl)
      · have hf := it_f hc hf
        refine lv_aload_n hx hb dX4_comesFrom_90 rfl (lv_at hl 0 rfl) ?_
        refine lv_aload_n hx hb dX4_comesFrom_91 rfl (lv_at hl 0 rfl) ?_
        refine va_get (D := E.1) (ci := 0) (v := .ref a_q1_extras) (C := RX0) (T := TX0) (N := 11) hx hb hts inX0 hown hK hP 2 rfl rfl 7 (by decide) (hts _ fl_X4_47) (fun _ h9 => h9) rfl dX4_comesFrom_92 ?_
        refine lv_iload hx hb dX4_comesFrom_95 (lv_at hl 3 rfl) ?_
        refine lv_iconst (v := 0) hx hb dX4_comesFrom_97 (by decide) ?_
        obtain ⟨u98, hu98, hf⟩ := bd hf
        refine keepVI (ct_X7_get l E a_q1_extras a_q1_extras_cells 35 5 q1_extras_many q1_extras_cells st78.2 (0 : Int32) u98 hu98) [5, 6] cal_X7_get cav_X7_get lk_X4_36 cx hP hD hS hl dX4_comesFrom_98 rfl rfl rfl rfl (Nat.le_of_ble_eq_true rfl) ⟨Nat.le_of_ble_eq_true rfl, Nat.le_of_ble_eq_true rfl⟩ rfl (by decide) (fun H locs hP hS => ?_)
        refine lv_aload_n hx hb dX4_comesFrom_101 rfl (lv_at hl 0 rfl) ?_
        refine lv_iload hx hb dX4_comesFrom_102 (lv_at hl 3 rfl) ?_
        obtain ⟨u104, hu104, hf⟩ := bd hf
        refine keepSI (ct_X4_stoodAt l E a_q1 a_q1_streets a_q1_names a_q1_extras a_q1_happenings a_q1_watchers a_q1_weeks a_q1_extras_cells q1_wage q1_delay q1_odds q1_clock q1_hasWeeks q1_extras_many q1_extras_cells st78.2 u104 hu104) [2, 5, 6] cal_X4_stoodAt sta_X4_stoodAt lk_X4_59 cx hP hD hS hl dX4_comesFrom_104 rfl rfl (Nat.le_of_ble_eq_true rfl) ⟨Nat.le_of_ble_eq_true rfl, Nat.le_of_ble_eq_true rfl⟩ rfl (by decide) (fun H locs hP hS => ?_)
        refine lv_iload_n hx hb dX4_comesFrom_107 rfl (lv_at hl 1 rfl) ?_
        obtain ⟨u108, hu108, hf⟩ := bd hf
        refine keepSI (ct_X4_comesTo l E a_q1 a_q1_streets a_q1_names a_q1_extras a_q1_happenings a_q1_watchers a_q1_weeks a_q1_streets_roads a_q1_streets_takes a_q1_streets_hours a_q1_happenings_cells q1_wage q1_delay q1_odds q1_clock q1_hasWeeks q1_streets_corners q1_streets_hours q1_happenings_many q1_happenings_cells u98 u104 (jat o_line v2) u108 hu108) [2, 3, 4, 7, 8] cal_X4_comesTo sta_X4_comesTo lk_X4_63 cx hP hD hS hl dX4_comesFrom_108 rfl rfl (Nat.le_of_ble_eq_true rfl) ⟨Nat.le_of_ble_eq_true rfl, Nat.le_of_ble_eq_true rfl⟩ rfl (by decide) (fun H locs hP hS => ?_)
        refine lv_if_eq (tgt := 126) hx hb dX4_comesFrom_111 (by decide) (fun hc => ?_) (fun hc => ?_)
        · have hf := it_t hc hf
          exact hj126 _ _ _ _ _ hf hP hD hS (lv_sub hl [0, 1, 2, 3] rfl)
        · have hf := it_f hc hf
          refine lv_iload hx hb dX4_comesFrom_114 (lv_at hl 2 rfl) ?_
          refine lv_iconst (v := 1) hx hb dX4_comesFrom_116 (by decide) ?_
          refine lv_bipush (v := 8) hx hb dX4_comesFrom_117 (by decide) ?_
          refine lv_iload hx hb dX4_comesFrom_119 (lv_at hl 3 rfl) ?_
          refine lv_iadd hx hb dX4_comesFrom_121 ?_
          refine r_ishl hx hb dX4_comesFrom_122 ?_
          refine lv_ior hx hb dX4_comesFrom_123 ?_
          refine lv_istore (lv' := [(4, .int (st78.1 ||| (jshl 1 (8 + st78.2)))), (1, .ref a_q1), (3, .int (jat o_line v2)), (5, .int st78.2)]) hx hb dX4_comesFrom_124 hl (by decide) rfl (fun ls hl => ?_)
          exact hj126 _ _ _ _ _ hf hP hD hS (lv_sub hl [1, 2, 0, 3] rfl)
    · refine fun H locs ls hP hD hS hl => ?_
      refine lv_iload hx hb dX4_comesFrom_132 (lv_at hl 0 rfl) ?_
      obtain rfl := Option.some.inj hf
      subst hq
      exact retI cx hP hD hS dX4_comesFrom_134
def X4_gatherReached_b9 (F : Nat) (o_lined : Int32) (o_open : Int32) (o_line : Nat → Int32) (q1_clock : Int32) (q1_streets_hours : Nat → Int32) (q1_extras_many : Int32) (q1_extras_cells : Nat → Int32) (q1_happenings_many : Int32) (q1_happenings_cells : Nat → Int32) (st9 : Int32 × (Nat → Int32)) : Option ((Int32 × (Nat → Int32)) ⊕ (((Nat → Int32)))) :=
  if o_lined ≤ st9.1 then
  some (.inr st9.2)
  else
  if ix st9.1 8 then
  (X4_comesFrom F o_line q1_clock q1_streets_hours q1_extras_many q1_extras_cells q1_happenings_many q1_happenings_cells st9.1).bind fun u32 =>
  if ix (jshl 1 (jat o_line st9.1)) 256 then
  some (.inl ((st9.1 + 1), (jput st9.2 (jshl 1 (jat o_line st9.1)) u32)))
  else none
  else none
def X4_gatherReached_j89 (F : Nat) (o_lined : Int32) (o_open : Int32) (o_line : Nat → Int32) (o_reached : Nat → Int32) (q1_clock : Int32) (q1_streets_hours : Nat → Int32) (q1_extras_many : Int32) (q1_extras_cells : Nat → Int32) (q1_happenings_many : Int32) (q1_happenings_cells : Nat → Int32) (v2 : Int32) : Option ((Int32 × (Nat → Int32)) ⊕ (((Nat → Int32)))) :=
  some (.inl ((v2 + 1), o_reached))
def X4_gatherReached_b44 (F : Nat) (o_lined : Int32) (o_open : Int32) (o_line : Nat → Int32) (q1_clock : Int32) (q1_streets_hours : Nat → Int32) (q1_extras_many : Int32) (q1_extras_cells : Nat → Int32) (q1_happenings_many : Int32) (q1_happenings_cells : Nat → Int32) (st44 : Int32 × (Nat → Int32)) : Option ((Int32 × (Nat → Int32)) ⊕ (((Nat → Int32)))) :=
  if o_open < st44.1 then
  some (.inr st44.2)
  else
  if (st44.1 &&& (o_open ^^^ (-1))) = 0 then
  if ix (st44.1 &&& (-st44.1)) 256 then
  if ix (st44.1 - (st44.1 &&& (-st44.1))) 256 then
  if ix st44.1 256 then
  X4_gatherReached_j89 F o_lined o_open o_line (jput st44.2 st44.1 ((jat st44.2 (st44.1 &&& (-st44.1))) ||| (jat st44.2 (st44.1 - (st44.1 &&& (-st44.1)))))) q1_clock q1_streets_hours q1_extras_many q1_extras_cells q1_happenings_many q1_happenings_cells st44.1
  else none
  else none
  else none
  else
  X4_gatherReached_j89 F o_lined o_open o_line st44.2 q1_clock q1_streets_hours q1_extras_many q1_extras_cells q1_happenings_many q1_happenings_cells st44.1
def X4_gatherReached (F : Nat) (o_lined : Int32) (o_open : Int32) (o_line : Nat → Int32) (o_reached : Nat → Int32) (q1_clock : Int32) (q1_streets_hours : Nat → Int32) (q1_extras_many : Int32) (q1_extras_cells : Nat → Int32) (q1_happenings_many : Int32) (q1_happenings_cells : Nat → Int32) : Option ((Nat → Int32)) :=
  if ix 0 256 then
  (iter (X4_gatherReached_b9 F o_lined o_open o_line q1_clock q1_streets_hours q1_extras_many q1_extras_cells q1_happenings_many q1_happenings_cells) F (0, (jput o_reached 0 0))).bind (fun (e9 : (Nat → Int32)) =>
    (iter (X4_gatherReached_b44 F o_lined o_open o_line q1_clock q1_streets_hours q1_extras_many q1_extras_cells q1_happenings_many q1_happenings_cells) F (1, e9)).bind (fun (e44 : (Nat → Int32)) =>
    some e44))
  else none
abbrev wd_X4_gatherReached (E : vE) (a_o a_o_line a_o_reached a_q1 a_q1_streets a_q1_names a_q1_extras a_q1_happenings a_q1_watchers a_q1_weeks a_q1_streets_roads a_q1_streets_takes a_q1_streets_hours a_q1_extras_cells a_q1_happenings_cells : Nat) (o_lined : Int32) (o_open : Int32) (o_line : Nat → Int32) (o_reached : Nat → Int32) (q1_wage : Int32) (q1_delay : Int32) (q1_odds : Int32) (q1_clock : Int32) (q1_hasWeeks : Int32) (q1_streets_corners : Int32) (q1_streets_hours : Nat → Int32) (q1_extras_many : Int32) (q1_extras_cells : Nat → Int32) (q1_happenings_many : Int32) (q1_happenings_cells : Nat → Int32) : va_W := [(a_o, .inr (4, [.ref a_o_line, .int o_lined, .ref a_o_reached, .int o_open])), (a_o_line, .inl (E.2.1, 8, .inl o_line)), (a_o_reached, .inl (E.2.1, 256, .inl o_reached)), (a_q1, .inr (0, [.int q1_wage, .int q1_delay, .int q1_odds, .int q1_clock, .int q1_hasWeeks, .ref a_q1_streets, .ref a_q1_names, .ref a_q1_extras, .ref a_q1_happenings, .ref a_q1_watchers, .ref a_q1_weeks])), (a_q1_streets, .inr (6, [.int q1_streets_corners, .ref a_q1_streets_roads, .ref a_q1_streets_takes, .ref a_q1_streets_hours])), (a_q1_streets_hours, .inl (E.2.1, 64, .inl q1_streets_hours)), (a_q1_extras, .inr (7, [.int 5, .ref a_q1_extras_cells, .int q1_extras_many])), (a_q1_extras_cells, .inl (E.2.1, 35, .inl q1_extras_cells)), (a_q1_happenings, .inr (7, [.int 5, .ref a_q1_happenings_cells, .int q1_happenings_many])), (a_q1_happenings_cells, .inl (E.2.1, 40, .inl q1_happenings_cells))]
set_option maxHeartbeats 4000000 in
set_option maxRecDepth 100000 in
theorem ct_X4_gatherReached (l : Launch) (E : vE) (F : Nat) (a_o a_o_line a_o_reached a_q1 a_q1_streets a_q1_names a_q1_extras a_q1_happenings a_q1_watchers a_q1_weeks a_q1_streets_roads a_q1_streets_takes a_q1_streets_hours a_q1_extras_cells a_q1_happenings_cells : Nat) (o_lined : Int32) (o_open : Int32) (o_line : Nat → Int32) (o_reached : Nat → Int32) (q1_wage : Int32) (q1_delay : Int32) (q1_odds : Int32) (q1_clock : Int32) (q1_hasWeeks : Int32) (q1_streets_corners : Int32) (q1_streets_hours : Nat → Int32) (q1_extras_many : Int32) (q1_extras_cells : Nat → Int32) (q1_happenings_many : Int32) (q1_happenings_cells : Nat → Int32) (u : (Nat → Int32)) (hf : X4_gatherReached F o_lined o_open o_line o_reached q1_clock q1_streets_hours q1_extras_many q1_extras_cells q1_happenings_many q1_happenings_cells = some u) :
    CtV l yX4_gatherReached cX4_gatherReached 4 none 4 E [.ref a_o, .ref a_q1] (wd_X4_gatherReached E a_o a_o_line a_o_reached a_q1 a_q1_streets a_q1_names a_q1_extras a_q1_happenings a_q1_watchers a_q1_weeks a_q1_streets_roads a_q1_streets_takes a_q1_streets_hours a_q1_extras_cells a_q1_happenings_cells o_lined o_open o_line o_reached q1_wage q1_delay q1_odds q1_clock q1_hasWeeks q1_streets_corners q1_streets_hours q1_extras_many q1_extras_cells q1_happenings_many q1_happenings_cells) (wd_X4_gatherReached E a_o a_o_line a_o_reached a_q1 a_q1_streets a_q1_names a_q1_extras a_q1_happenings a_q1_watchers a_q1_weeks a_q1_streets_roads a_q1_streets_takes a_q1_streets_hours a_q1_extras_cells a_q1_happenings_cells o_lined o_open o_line u q1_wage q1_delay q1_odds q1_clock q1_hasWeeks q1_streets_corners q1_streets_hours q1_extras_many q1_extras_cells q1_happenings_many q1_happenings_cells) := by
  refine ctV (by decide) (Nat.le_of_ble_eq_true rfl) ?_
  intro p e s m below meth cd A ls aa QQ hq cx hP hD hS hl
  obtain ⟨⟨hx, hb, hml, hown, hts⟩, hr, hlocks, hK, hA, hX⟩ := id cx
  have hl : lv_has ls 4 [(0, .ref a_o), (1, .ref a_q1)] := hl
  unfold X4_gatherReached at hf
  refine lv_aload_n hx hb dX4_gatherReached_0 rfl (lv_at hl 0 rfl) ?_
  refine va_get (D := E.1) (ci := 4) (v := .ref a_o_reached) (C := RX4) (T := TX4) (N := 4) hx hb hts inX4 hown hK hP 0 rfl rfl 2 (by decide) (hts _ fl_X4_15) (fun _ h9 => h9) rfl dX4_gatherReached_1 ?_
  refine lv_iconst (v := 0) hx hb dX4_gatherReached_4 (by decide) ?_
  refine lv_iconst (v := 0) hx hb dX4_gatherReached_5 (by decide) ?_
  obtain ⟨hi, hf⟩ := ck hf
  refine r_iast 2 cx hP hD hS rfl hi dX4_gatherReached_6 (fun H locs hP hD hS => ?_)
  have hP : va_P E.1 vwCl (wd_X4_gatherReached E a_o a_o_line a_o_reached a_q1 a_q1_streets a_q1_names a_q1_extras a_q1_happenings a_q1_watchers a_q1_weeks a_q1_streets_roads a_q1_streets_takes a_q1_streets_hours a_q1_extras_cells a_q1_happenings_cells o_lined o_open o_line (jput o_reached 0 0) q1_wage q1_delay q1_odds q1_clock q1_hasWeeks q1_streets_corners q1_streets_hours q1_extras_many q1_extras_cells q1_happenings_many q1_happenings_cells) H := hP
  have hD : va_D A (wd_X4_gatherReached E a_o a_o_line a_o_reached a_q1 a_q1_streets a_q1_names a_q1_extras a_q1_happenings a_q1_watchers a_q1_weeks a_q1_streets_roads a_q1_streets_takes a_q1_streets_hours a_q1_extras_cells a_q1_happenings_cells o_lined o_open o_line (jput o_reached 0 0) q1_wage q1_delay q1_odds q1_clock q1_hasWeeks q1_streets_corners q1_streets_hours q1_extras_many q1_extras_cells q1_happenings_many q1_happenings_cells) := hD
  refine lv_iconst (v := 0) hx hb dX4_gatherReached_7 (by decide) ?_
  refine lv_istore_n (lv' := [(2, .int 0), (0, .ref a_o), (1, .ref a_q1)]) hx hb dX4_gatherReached_8 rfl hl (by decide) rfl (fun ls hl => ?_)
  obtain ⟨e9, hit9, hf⟩ := bd hf
  refine iter_W (b := X4_gatherReached_b9 F o_lined o_open o_line q1_clock q1_streets_hours q1_extras_many q1_extras_cells q1_happenings_many q1_happenings_cells) (P := fun st9 => ∀ (H : Heap) (locs : List Loc) (ls : Array Slot), va_P E.1 vwCl (wd_X4_gatherReached E a_o a_o_line a_o_reached a_q1 a_q1_streets a_q1_names a_q1_extras a_q1_happenings a_q1_watchers a_q1_weeks a_q1_streets_roads a_q1_streets_takes a_q1_streets_hours a_q1_extras_cells a_q1_happenings_cells o_lined o_open o_line st9.2 q1_wage q1_delay q1_odds q1_clock q1_hasWeeks q1_streets_corners q1_streets_hours q1_extras_many q1_extras_cells q1_happenings_many q1_happenings_cells) H → va_D A (wd_X4_gatherReached E a_o a_o_line a_o_reached a_q1 a_q1_streets a_q1_names a_q1_extras a_q1_happenings a_q1_watchers a_q1_weeks a_q1_streets_roads a_q1_streets_takes a_q1_streets_hours a_q1_extras_cells a_q1_happenings_cells o_lined o_open o_line st9.2 q1_wage q1_delay q1_odds q1_clock q1_hasWeeks q1_streets_corners q1_streets_hours q1_extras_many q1_extras_cells q1_happenings_many q1_happenings_cells) → va_S A s.heap H locs → lv_has ls 4 [(0, .ref a_o), (1, .ref a_q1), (2, .int st9.1)] → W p l e (rmd 4) s m aa below meth cd H locs 0 0 QQ (F0 m 9 ls [])) (G := (fun (e9 : (Nat → Int32)) => ∀ (H : Heap) (locs : List Loc) (ls : Array Slot), va_P E.1 vwCl (wd_X4_gatherReached E a_o a_o_line a_o_reached a_q1 a_q1_streets a_q1_names a_q1_extras a_q1_happenings a_q1_watchers a_q1_weeks a_q1_streets_roads a_q1_streets_takes a_q1_streets_hours a_q1_extras_cells a_q1_happenings_cells o_lined o_open o_line e9 q1_wage q1_delay q1_odds q1_clock q1_hasWeeks q1_streets_corners q1_streets_hours q1_extras_many q1_extras_cells q1_happenings_many q1_happenings_cells) H → va_D A (wd_X4_gatherReached E a_o a_o_line a_o_reached a_q1 a_q1_streets a_q1_names a_q1_extras a_q1_happenings a_q1_watchers a_q1_weeks a_q1_streets_roads a_q1_streets_takes a_q1_streets_hours a_q1_extras_cells a_q1_happenings_cells o_lined o_open o_line e9 q1_wage q1_delay q1_odds q1_clock q1_hasWeeks q1_streets_corners q1_streets_hours q1_extras_many q1_extras_cells q1_happenings_many q1_happenings_cells) → va_S A s.heap H locs → lv_has ls 4 [(0, .ref a_o)] → W p l e (rmd 4) s m aa below meth cd H locs 0 0 QQ (F0 m 42 ls []))) ?_ F (0, (jput o_reached 0 0)) e9 hit9 ?_ _ _ _ hP hD hS (lv_sub hl [1, 2, 0] rfl)
  · intro st9 r9 hf hk9 he9 H locs ls hP hD hS hl
    unfold X4_gatherReached_b9 at hf
    refine lv_iload_n hx hb dX4_gatherReached_9 rfl (lv_at hl 2 rfl) ?_
    refine lv_aload_n hx hb dX4_gatherReached_10 rfl (lv_at hl 0 rfl) ?_
    refine va_get (D := E.1) (ci := 4) (v := .int o_lined) (C := RX4) (T := TX4) (N := 4) hx hb hts inX4 hown hK hP 0 rfl rfl 1 (by decide) (hts _ fl_X4_22) (fun _ h9 => h9) rfl dX4_gatherReached_11 ?_
    refine lv_icmp_ge (tgt := 42) hx hb dX4_gatherReached_14 (by decide) (fun hc => ?_) (fun hc => ?_)
    · have hf := it_t hc hf
      exact he9 _ (Option.some.inj hf).symm _ _ _ hP hD hS (lv_sub hl [0] rfl)
    · have hf := it_f hc hf
      refine lv_aload_n hx hb dX4_gatherReached_17 rfl (lv_at hl 0 rfl) ?_
      refine va_get (D := E.1) (ci := 4) (v := .ref a_o_reached) (C := RX4) (T := TX4) (N := 4) hx hb hts inX4 hown hK hP 0 rfl rfl 2 (by decide) (hts _ fl_X4_15) (fun _ h9 => h9) rfl dX4_gatherReached_18 ?_
      refine lv_iconst (v := 1) hx hb dX4_gatherReached_21 (by decide) ?_
      refine lv_aload_n hx hb dX4_gatherReached_22 rfl (lv_at hl 0 rfl) ?_
      refine va_get (D := E.1) (ci := 4) (v := .ref a_o_line) (C := RX4) (T := TX4) (N := 4) hx hb hts inX4 hown hK hP 0 rfl rfl 0 (by decide) (hts _ fl_X4_11) (fun _ h9 => h9) rfl dX4_gatherReached_23 ?_
      refine lv_iload_n hx hb dX4_gatherReached_26 rfl (lv_at hl 2 rfl) ?_
      obtain ⟨hi, hf⟩ := ck hf
      refine r_iald 1 cx hP rfl hi dX4_gatherReached_27 ?_
      refine r_ishl hx hb dX4_gatherReached_28 ?_
      refine lv_aload_n hx hb dX4_gatherReached_29 rfl (lv_at hl 0 rfl) ?_
      refine lv_aload_n hx hb dX4_gatherReached_30 rfl (lv_at hl 1 rfl) ?_
      refine lv_iload_n hx hb dX4_gatherReached_31 rfl (lv_at hl 2 rfl) ?_
      obtain ⟨u32, hu32, hf⟩ := bd hf
      refine keepVI (ct_X4_comesFrom l E F a_o a_o_line a_o_reached a_q1 a_q1_streets a_q1_names a_q1_extras a_q1_happenings a_q1_watchers a_q1_weeks a_q1_streets_roads a_q1_streets_takes a_q1_streets_hours a_q1_extras_cells a_q1_happenings_cells o_lined o_open o_line q1_wage q1_delay q1_odds q1_clock q1_hasWeeks q1_streets_corners q1_streets_hours q1_extras_many q1_extras_cells q1_happenings_many q1_happenings_cells st9.1 u32 hu32) [0, 1, 3, 4, 5, 6, 7, 8, 9] cal_X4_comesFrom cav_X4_comesFrom lk_X4_87 cx hP hD hS hl dX4_gatherReached_32 rfl rfl rfl rfl (Nat.le_of_ble_eq_true rfl) ⟨Nat.le_of_ble_eq_true rfl, Nat.le_of_ble_eq_true rfl⟩ rfl (by decide) (fun H locs hP hS => ?_)
      obtain ⟨hi, hf⟩ := ck hf
      refine r_iast 2 cx hP hD hS rfl hi dX4_gatherReached_35 (fun H locs hP hD hS => ?_)
      have hP : va_P E.1 vwCl (wd_X4_gatherReached E a_o a_o_line a_o_reached a_q1 a_q1_streets a_q1_names a_q1_extras a_q1_happenings a_q1_watchers a_q1_weeks a_q1_streets_roads a_q1_streets_takes a_q1_streets_hours a_q1_extras_cells a_q1_happenings_cells o_lined o_open o_line (jput st9.2 (jshl 1 (jat o_line st9.1)) u32) q1_wage q1_delay q1_odds q1_clock q1_hasWeeks q1_streets_corners q1_streets_hours q1_extras_many q1_extras_cells q1_happenings_many q1_happenings_cells) H := hP
      have hD : va_D A (wd_X4_gatherReached E a_o a_o_line a_o_reached a_q1 a_q1_streets a_q1_names a_q1_extras a_q1_happenings a_q1_watchers a_q1_weeks a_q1_streets_roads a_q1_streets_takes a_q1_streets_hours a_q1_extras_cells a_q1_happenings_cells o_lined o_open o_line (jput st9.2 (jshl 1 (jat o_line st9.1)) u32) q1_wage q1_delay q1_odds q1_clock q1_hasWeeks q1_streets_corners q1_streets_hours q1_extras_many q1_extras_cells q1_happenings_many q1_happenings_cells) := hD
      refine lv_iinc (v := (st9.1 + 1)) (lv' := [(2, .int (st9.1 + 1)), (0, .ref a_o), (1, .ref a_q1)]) hx hb dX4_gatherReached_36 hl (k := 2) rfl rfl (by decide) rfl (fun ls hl => ?_)
      refine lv_goto (tgt := 9) hx hb dX4_gatherReached_39 (by decide) ?_
      exact hk9 _ (Option.some.inj hf).symm _ _ _ hP hD hS (lv_sub hl [1, 2, 0] rfl)
  · refine fun H locs ls hP hD hS hl => ?_
    refine lv_iconst (v := 1) hx hb dX4_gatherReached_42 (by decide) ?_
    refine lv_istore_n (lv' := [(2, .int 1), (0, .ref a_o)]) hx hb dX4_gatherReached_43 rfl hl (by decide) rfl (fun ls hl => ?_)
    obtain ⟨e44, hit44, hf⟩ := bd hf
    refine iter_W (b := X4_gatherReached_b44 F o_lined o_open o_line q1_clock q1_streets_hours q1_extras_many q1_extras_cells q1_happenings_many q1_happenings_cells) (P := fun st44 => ∀ (H : Heap) (locs : List Loc) (ls : Array Slot), va_P E.1 vwCl (wd_X4_gatherReached E a_o a_o_line a_o_reached a_q1 a_q1_streets a_q1_names a_q1_extras a_q1_happenings a_q1_watchers a_q1_weeks a_q1_streets_roads a_q1_streets_takes a_q1_streets_hours a_q1_extras_cells a_q1_happenings_cells o_lined o_open o_line st44.2 q1_wage q1_delay q1_odds q1_clock q1_hasWeeks q1_streets_corners q1_streets_hours q1_extras_many q1_extras_cells q1_happenings_many q1_happenings_cells) H → va_D A (wd_X4_gatherReached E a_o a_o_line a_o_reached a_q1 a_q1_streets a_q1_names a_q1_extras a_q1_happenings a_q1_watchers a_q1_weeks a_q1_streets_roads a_q1_streets_takes a_q1_streets_hours a_q1_extras_cells a_q1_happenings_cells o_lined o_open o_line st44.2 q1_wage q1_delay q1_odds q1_clock q1_hasWeeks q1_streets_corners q1_streets_hours q1_extras_many q1_extras_cells q1_happenings_many q1_happenings_cells) → va_S A s.heap H locs → lv_has ls 4 [(0, .ref a_o), (2, .int st44.1)] → W p l e (rmd 4) s m aa below meth cd H locs 0 0 QQ (F0 m 44 ls [])) (G := (fun (e44 : (Nat → Int32)) => ∀ (H : Heap) (locs : List Loc) (ls : Array Slot), va_P E.1 vwCl (wd_X4_gatherReached E a_o a_o_line a_o_reached a_q1 a_q1_streets a_q1_names a_q1_extras a_q1_happenings a_q1_watchers a_q1_weeks a_q1_streets_roads a_q1_streets_takes a_q1_streets_hours a_q1_extras_cells a_q1_happenings_cells o_lined o_open o_line e44 q1_wage q1_delay q1_odds q1_clock q1_hasWeeks q1_streets_corners q1_streets_hours q1_extras_many q1_extras_cells q1_happenings_many q1_happenings_cells) H → va_D A (wd_X4_gatherReached E a_o a_o_line a_o_reached a_q1 a_q1_streets a_q1_names a_q1_extras a_q1_happenings a_q1_watchers a_q1_weeks a_q1_streets_roads a_q1_streets_takes a_q1_streets_hours a_q1_extras_cells a_q1_happenings_cells o_lined o_open o_line e44 q1_wage q1_delay q1_odds q1_clock q1_hasWeeks q1_streets_corners q1_streets_hours q1_extras_many q1_extras_cells q1_happenings_many q1_happenings_cells) → va_S A s.heap H locs → lv_has ls 4 [] → W p l e (rmd 4) s m aa below meth cd H locs 0 0 QQ (F0 m 95 ls []))) ?_ F (1, e9) e44 hit44 ?_ _ _ _ hP hD hS (lv_sub hl [1, 0] rfl)
    · intro st44 r44 hf hk44 he44 H locs ls hP hD hS hl
      have hj89 : ∀ (v2_j89 : Int32) (o_reached_j89 : Nat → Int32) (H : Heap) (locs : List Loc) (ls : Array Slot), X4_gatherReached_j89 F o_lined o_open o_line o_reached_j89 q1_clock q1_streets_hours q1_extras_many q1_extras_cells q1_happenings_many q1_happenings_cells v2_j89 = some r44 → va_P E.1 vwCl (wd_X4_gatherReached E a_o a_o_line a_o_reached a_q1 a_q1_streets a_q1_names a_q1_extras a_q1_happenings a_q1_watchers a_q1_weeks a_q1_streets_roads a_q1_streets_takes a_q1_streets_hours a_q1_extras_cells a_q1_happenings_cells o_lined o_open o_line o_reached_j89 q1_wage q1_delay q1_odds q1_clock q1_hasWeeks q1_streets_corners q1_streets_hours q1_extras_many q1_extras_cells q1_happenings_many q1_happenings_cells) H → va_D A (wd_X4_gatherReached E a_o a_o_line a_o_reached a_q1 a_q1_streets a_q1_names a_q1_extras a_q1_happenings a_q1_watchers a_q1_weeks a_q1_streets_roads a_q1_streets_takes a_q1_streets_hours a_q1_extras_cells a_q1_happenings_cells o_lined o_open o_line o_reached_j89 q1_wage q1_delay q1_odds q1_clock q1_hasWeeks q1_streets_corners q1_streets_hours q1_extras_many q1_extras_cells q1_happenings_many q1_happenings_cells) → va_S A s.heap H locs → lv_has ls 4 [(0, .ref a_o), (2, .int v2_j89)] → W p l e (rmd 4) s m aa below meth cd H locs 0 0 QQ (F0 m 89 ls []) := by
        intro v2_j89 o_reached_j89 H locs ls hf hP hD hS hl
        unfold X4_gatherReached_j89 at hf
        refine lv_iinc (v := (v2_j89 + 1)) (lv' := [(2, .int (v2_j89 + 1)), (0, .ref a_o)]) hx hb dX4_gatherReached_89 hl (k := 1) rfl rfl (by decide) rfl (fun ls hl => ?_)
        refine lv_goto (tgt := 44) hx hb dX4_gatherReached_92 (by decide) ?_
        exact hk44 _ (Option.some.inj hf).symm _ _ _ hP hD hS (lv_sub hl [1, 0] rfl)
      unfold X4_gatherReached_b44 at hf
      refine lv_iload_n hx hb dX4_gatherReached_44 rfl (lv_at hl 1 rfl) ?_
      refine lv_aload_n hx hb dX4_gatherReached_45 rfl (lv_at hl 0 rfl) ?_
      refine va_get (D := E.1) (ci := 4) (v := .int o_open) (C := RX4) (T := TX4) (N := 4) hx hb hts inX4 hown hK hP 0 rfl rfl 3 (by decide) (hts _ fl_X4_18) (fun _ h9 => h9) rfl dX4_gatherReached_46 ?_
      refine lv_icmp_gt (tgt := 95) hx hb dX4_gatherReached_49 (by decide) (fun hc => ?_) (fun hc => ?_)
      · have hf := it_t hc hf
        exact he44 _ (Option.some.inj hf).symm _ _ _ hP hD hS (lv_sub hl [] rfl)
      · have hf := it_f hc hf
        refine lv_iload_n hx hb dX4_gatherReached_52 rfl (lv_at hl 1 rfl) ?_
        refine lv_iload_n hx hb dX4_gatherReached_53 rfl (lv_at hl 1 rfl) ?_
        refine lv_ineg hx hb dX4_gatherReached_54 ?_
        refine lv_iand hx hb dX4_gatherReached_55 ?_
        refine lv_istore_n (lv' := [(3, .int (st44.1 &&& (-st44.1))), (0, .ref a_o), (2, .int st44.1)]) hx hb dX4_gatherReached_56 rfl hl (by decide) rfl (fun ls hl => ?_)
        refine lv_iload_n hx hb dX4_gatherReached_57 rfl (lv_at hl 2 rfl) ?_
        refine lv_aload_n hx hb dX4_gatherReached_58 rfl (lv_at hl 1 rfl) ?_
        refine va_get (D := E.1) (ci := 4) (v := .int o_open) (C := RX4) (T := TX4) (N := 4) hx hb hts inX4 hown hK hP 0 rfl rfl 3 (by decide) (hts _ fl_X4_18) (fun _ h9 => h9) rfl dX4_gatherReached_59 ?_
        refine lv_iconst (v := (-1)) hx hb dX4_gatherReached_62 (by decide) ?_
        refine lv_ixor hx hb dX4_gatherReached_63 ?_
        refine lv_iand hx hb dX4_gatherReached_64 ?_
        refine lv_if_ne (tgt := 89) hx hb dX4_gatherReached_65 (by decide) (fun hc => ?_) (fun hc => ?_)
        · have hf := it_f hc hf
          exact hj89 _ _ _ _ _ hf hP hD hS (lv_sub hl [1, 2] rfl)
        · have hf := it_t hc hf
          refine lv_aload_n hx hb dX4_gatherReached_68 rfl (lv_at hl 1 rfl) ?_
          refine va_get (D := E.1) (ci := 4) (v := .ref a_o_reached) (C := RX4) (T := TX4) (N := 4) hx hb hts inX4 hown hK hP 0 rfl rfl 2 (by decide) (hts _ fl_X4_15) (fun _ h9 => h9) rfl dX4_gatherReached_69 ?_
          refine lv_iload_n hx hb dX4_gatherReached_72 rfl (lv_at hl 2 rfl) ?_
          refine lv_aload_n hx hb dX4_gatherReached_73 rfl (lv_at hl 1 rfl) ?_
          refine va_get (D := E.1) (ci := 4) (v := .ref a_o_reached) (C := RX4) (T := TX4) (N := 4) hx hb hts inX4 hown hK hP 0 rfl rfl 2 (by decide) (hts _ fl_X4_15) (fun _ h9 => h9) rfl dX4_gatherReached_74 ?_
          refine lv_iload_n hx hb dX4_gatherReached_77 rfl (lv_at hl 0 rfl) ?_
          obtain ⟨hi, hf⟩ := ck hf
          refine r_iald 2 cx hP rfl hi dX4_gatherReached_78 ?_
          refine lv_aload_n hx hb dX4_gatherReached_79 rfl (lv_at hl 1 rfl) ?_
          refine va_get (D := E.1) (ci := 4) (v := .ref a_o_reached) (C := RX4) (T := TX4) (N := 4) hx hb hts inX4 hown hK hP 0 rfl rfl 2 (by decide) (hts _ fl_X4_15) (fun _ h9 => h9) rfl dX4_gatherReached_80 ?_
          refine lv_iload_n hx hb dX4_gatherReached_83 rfl (lv_at hl 2 rfl) ?_
          refine lv_iload_n hx hb dX4_gatherReached_84 rfl (lv_at hl 0 rfl) ?_
          refine lv_isub hx hb dX4_gatherReached_85 ?_
          obtain ⟨hi, hf⟩ := ck hf
          refine r_iald 2 cx hP rfl hi dX4_gatherReached_86 ?_
          refine lv_ior hx hb dX4_gatherReached_87 ?_
          obtain ⟨hi, hf⟩ := ck hf
          refine r_iast 2 cx hP hD hS rfl hi dX4_gatherReached_88 (fun H locs hP hD hS => ?_)
          have hP : va_P E.1 vwCl (wd_X4_gatherReached E a_o a_o_line a_o_reached a_q1 a_q1_streets a_q1_names a_q1_extras a_q1_happenings a_q1_watchers a_q1_weeks a_q1_streets_roads a_q1_streets_takes a_q1_streets_hours a_q1_extras_cells a_q1_happenings_cells o_lined o_open o_line (jput st44.2 st44.1 ((jat st44.2 (st44.1 &&& (-st44.1))) ||| (jat st44.2 (st44.1 - (st44.1 &&& (-st44.1)))))) q1_wage q1_delay q1_odds q1_clock q1_hasWeeks q1_streets_corners q1_streets_hours q1_extras_many q1_extras_cells q1_happenings_many q1_happenings_cells) H := hP
          have hD : va_D A (wd_X4_gatherReached E a_o a_o_line a_o_reached a_q1 a_q1_streets a_q1_names a_q1_extras a_q1_happenings a_q1_watchers a_q1_weeks a_q1_streets_roads a_q1_streets_takes a_q1_streets_hours a_q1_extras_cells a_q1_happenings_cells o_lined o_open o_line (jput st44.2 st44.1 ((jat st44.2 (st44.1 &&& (-st44.1))) ||| (jat st44.2 (st44.1 - (st44.1 &&& (-st44.1)))))) q1_wage q1_delay q1_odds q1_clock q1_hasWeeks q1_streets_corners q1_streets_hours q1_extras_many q1_extras_cells q1_happenings_many q1_happenings_cells) := hD
          exact hj89 _ _ _ _ _ hf hP hD hS (lv_sub hl [1, 2] rfl)
    · refine fun H locs ls hP hD hS hl => ?_
      obtain rfl := Option.some.inj hf
      subst hq
      exact retV cx hP hD hS dX4_gatherReached_95
