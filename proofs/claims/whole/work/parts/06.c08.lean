def X4_isEnough_j51 (F : Nat) (o_open : Int32) (o_reached : Nat → Int32) (v2 : Int32) (v3 : Int32) : Option ((Int32) ⊕ ((Unit) ⊕ (Unit))) :=
  some (.inl (v3 + 1))
def X4_isEnough_b12 (F : Nat) (o_open : Int32) (o_reached : Nat → Int32) (v2 : Int32) (st12 : Int32) : Option ((Int32) ⊕ ((Unit) ⊕ (Unit))) :=
  if o_open < st12 then
  some (.inr (.inr (())))
  else
  if (st12 &&& (o_open ^^^ (-1))) = 0 then
  if ix st12 256 then
  (J6_bitCount_0f7a4 ((jat o_reached st12) &&& v2)).bind fun u39 =>
  (J6_bitCount_0f7a4 st12).bind fun u43 =>
  if u43 ≤ u39 then
  X4_isEnough_j51 F o_open o_reached v2 st12
  else
  some (.inr (.inl (())))
  else none
  else
  X4_isEnough_j51 F o_open o_reached v2 st12
def X4_isEnough (F : Nat) (o_open : Int32) (o_reached : Nat → Int32) (v1 : Int32) : Option (Int32) :=
  (iter (X4_isEnough_b12 F o_open o_reached ((jshl v1 8) ||| o_open)) F 1).bind (Sum.elim (fun (e12 : Unit) =>
    some 0) (fun (e12 : Unit) =>
    some 1))
abbrev wd_X4_isEnough (E : vE) (a_o a_o_line a_o_reached : Nat) (o_lined : Int32) (o_open : Int32) (o_reached : Nat → Int32) : va_W := [(a_o, .inr (4, [.ref a_o_line, .int o_lined, .ref a_o_reached, .int o_open])), (a_o_reached, .inl (E.2.1, 256, .inl o_reached))]
set_option maxHeartbeats 4000000 in
set_option maxRecDepth 100000 in
theorem ct_X4_isEnough (l : Launch) (E : vE) (F : Nat) (a_o a_o_line a_o_reached : Nat) (o_lined : Int32) (o_open : Int32) (o_reached : Nat → Int32) (v1 : Int32) (u : Int32) (hf : X4_isEnough F o_open o_reached v1 = some u) :
    CtI l yX4_isEnough cX4_isEnough 4 (some .boolean) 1 E [.ref a_o, .int v1] (wd_X4_isEnough E a_o a_o_line a_o_reached o_lined o_open o_reached) (wd_X4_isEnough E a_o a_o_line a_o_reached o_lined o_open o_reached) u := by
  refine ctI (by decide) (Nat.le_of_ble_eq_true rfl) ?_
  intro p e s m below meth cd A ls aa QQ hq cx hP hD hS hl
  obtain ⟨⟨hx, hb, hml, hown, hts⟩, hr, hlocks, hK, hA, hX⟩ := id cx
  have hl : lv_has ls 4 [(0, .ref a_o), (1, .int v1)] := hl
  unfold X4_isEnough at hf
  refine lv_iload_n hx hb dX4_isEnough_0 rfl (lv_at hl 1 rfl) ?_
  refine lv_bipush (v := 8) hx hb dX4_isEnough_1 (by decide) ?_
  refine r_ishl hx hb dX4_isEnough_3 ?_
  refine lv_aload_n hx hb dX4_isEnough_4 rfl (lv_at hl 0 rfl) ?_
  refine va_get (D := E.1) (ci := 4) (v := .int o_open) (C := RX4) (T := TX4) (N := 4) hx hb hts inX4 hown hK hP 0 rfl rfl 3 (by decide) (hts _ fl_X4_18) (fun _ h9 => h9) rfl dX4_isEnough_5 ?_
  refine lv_ior hx hb dX4_isEnough_8 ?_
  refine lv_istore_n (lv' := [(2, .int ((jshl v1 8) ||| o_open)), (0, .ref a_o), (1, .int v1)]) hx hb dX4_isEnough_9 rfl hl (by decide) rfl (fun ls hl => ?_)
  refine lv_iconst (v := 1) hx hb dX4_isEnough_10 (by decide) ?_
  refine lv_istore_n (lv' := [(3, .int 1), (2, .int ((jshl v1 8) ||| o_open)), (0, .ref a_o), (1, .int v1)]) hx hb dX4_isEnough_11 rfl hl (by decide) rfl (fun ls hl => ?_)
  obtain ⟨e12, hit12, hf⟩ := bd hf
  refine iter_W (b := X4_isEnough_b12 F o_open o_reached ((jshl v1 8) ||| o_open)) (P := fun st12 => ∀ (H : Heap) (locs : List Loc) (ls : Array Slot), va_P E.1 vwCl (wd_X4_isEnough E a_o a_o_line a_o_reached o_lined o_open o_reached) H → va_D A (wd_X4_isEnough E a_o a_o_line a_o_reached o_lined o_open o_reached) → va_S A s.heap H locs → lv_has ls 4 [(0, .ref a_o), (2, .int ((jshl v1 8) ||| o_open)), (3, .int st12)] → W p l e (rmd 1) s m aa below meth cd H locs 0 0 QQ (F0 m 12 ls [])) (G := (Sum.elim (fun (e12 : Unit) => ∀ (H : Heap) (locs : List Loc) (ls : Array Slot), va_P E.1 vwCl (wd_X4_isEnough E a_o a_o_line a_o_reached o_lined o_open o_reached) H → va_D A (wd_X4_isEnough E a_o a_o_line a_o_reached o_lined o_open o_reached) → va_S A s.heap H locs → lv_has ls 4 [] → W p l e (rmd 1) s m aa below meth cd H locs 0 0 QQ (F0 m 49 ls [])) (fun (e12 : Unit) => ∀ (H : Heap) (locs : List Loc) (ls : Array Slot), va_P E.1 vwCl (wd_X4_isEnough E a_o a_o_line a_o_reached o_lined o_open o_reached) H → va_D A (wd_X4_isEnough E a_o a_o_line a_o_reached o_lined o_open o_reached) → va_S A s.heap H locs → lv_has ls 4 [] → W p l e (rmd 1) s m aa below meth cd H locs 0 0 QQ (F0 m 57 ls [])))) ?_ F 1 e12 hit12 ?_ _ _ _ hP hD hS (lv_sub hl [2, 1, 0] rfl)
  · intro st12 r12 hf hk12 he12 H locs ls hP hD hS hl
    have hj51 : ∀ (v3_j51 : Int32) (H : Heap) (locs : List Loc) (ls : Array Slot), X4_isEnough_j51 F o_open o_reached ((jshl v1 8) ||| o_open) v3_j51 = some r12 → va_P E.1 vwCl (wd_X4_isEnough E a_o a_o_line a_o_reached o_lined o_open o_reached) H → va_D A (wd_X4_isEnough E a_o a_o_line a_o_reached o_lined o_open o_reached) → va_S A s.heap H locs → lv_has ls 4 [(0, .ref a_o), (2, .int ((jshl v1 8) ||| o_open)), (3, .int v3_j51)] → W p l e (rmd 1) s m aa below meth cd H locs 0 0 QQ (F0 m 51 ls []) := by
      intro v3_j51 H locs ls hf hP hD hS hl
      unfold X4_isEnough_j51 at hf
      refine lv_iinc (v := (v3_j51 + 1)) (lv' := [(3, .int (v3_j51 + 1)), (0, .ref a_o), (2, .int ((jshl v1 8) ||| o_open))]) hx hb dX4_isEnough_51 hl (k := 2) rfl rfl (by decide) rfl (fun ls hl => ?_)
      refine lv_goto (tgt := 12) hx hb dX4_isEnough_54 (by decide) ?_
      exact hk12 _ (Option.some.inj hf).symm _ _ _ hP hD hS (lv_sub hl [1, 2, 0] rfl)
    unfold X4_isEnough_b12 at hf
    refine lv_iload_n hx hb dX4_isEnough_12 rfl (lv_at hl 2 rfl) ?_
    refine lv_aload_n hx hb dX4_isEnough_13 rfl (lv_at hl 0 rfl) ?_
    refine va_get (D := E.1) (ci := 4) (v := .int o_open) (C := RX4) (T := TX4) (N := 4) hx hb hts inX4 hown hK hP 0 rfl rfl 3 (by decide) (hts _ fl_X4_18) (fun _ h9 => h9) rfl dX4_isEnough_14 ?_
    refine lv_icmp_gt (tgt := 57) hx hb dX4_isEnough_17 (by decide) (fun hc => ?_) (fun hc => ?_)
    · have hf := it_t hc hf
      exact he12 _ (Option.some.inj hf).symm _ _ _ hP hD hS (lv_sub hl [] rfl)
    · have hf := it_f hc hf
      refine lv_iload_n hx hb dX4_isEnough_20 rfl (lv_at hl 2 rfl) ?_
      refine lv_aload_n hx hb dX4_isEnough_21 rfl (lv_at hl 0 rfl) ?_
      refine va_get (D := E.1) (ci := 4) (v := .int o_open) (C := RX4) (T := TX4) (N := 4) hx hb hts inX4 hown hK hP 0 rfl rfl 3 (by decide) (hts _ fl_X4_18) (fun _ h9 => h9) rfl dX4_isEnough_22 ?_
      refine lv_iconst (v := (-1)) hx hb dX4_isEnough_25 (by decide) ?_
      refine lv_ixor hx hb dX4_isEnough_26 ?_
      refine lv_iand hx hb dX4_isEnough_27 ?_
      refine lv_if_ne (tgt := 51) hx hb dX4_isEnough_28 (by decide) (fun hc => ?_) (fun hc => ?_)
      · have hf := it_f hc hf
        exact hj51 _ _ _ _ hf hP hD hS (lv_sub hl [0, 1, 2] rfl)
      · have hf := it_t hc hf
        refine lv_aload_n hx hb dX4_isEnough_31 rfl (lv_at hl 0 rfl) ?_
        refine va_get (D := E.1) (ci := 4) (v := .ref a_o_reached) (C := RX4) (T := TX4) (N := 4) hx hb hts inX4 hown hK hP 0 rfl rfl 2 (by decide) (hts _ fl_X4_15) (fun _ h9 => h9) rfl dX4_isEnough_32 ?_
        refine lv_iload_n hx hb dX4_isEnough_35 rfl (lv_at hl 2 rfl) ?_
        obtain ⟨hi, hf⟩ := ck hf
        refine r_iald 1 cx hP rfl hi dX4_isEnough_36 ?_
        refine lv_iload_n hx hb dX4_isEnough_37 rfl (lv_at hl 1 rfl) ?_
        refine lv_iand hx hb dX4_isEnough_38 ?_
        obtain ⟨u39, hu39, hf⟩ := bd hf
        refine keepSI (ct_J6_bitCount_0f7a4 l E ((jat o_reached st12) &&& ((jshl v1 8) ||| o_open)) u39 hu39) [] cal_J6_bitCount_0f7a4 sta_J6_bitCount_0f7a4 lk_X4_71 cx hP hD hS hl dX4_isEnough_39 rfl rfl (Nat.le_of_ble_eq_true rfl) ⟨Nat.le_of_ble_eq_true rfl, Nat.le_of_ble_eq_true rfl⟩ rfl (by decide) (fun H locs hP hS => ?_)
        refine lv_iload_n hx hb dX4_isEnough_42 rfl (lv_at hl 2 rfl) ?_
        obtain ⟨u43, hu43, hf⟩ := bd hf
        refine keepSI (ct_J6_bitCount_0f7a4 l E st12 u43 hu43) [] cal_J6_bitCount_0f7a4 sta_J6_bitCount_0f7a4 lk_X4_71 cx hP hD hS hl dX4_isEnough_43 rfl rfl (Nat.le_of_ble_eq_true rfl) ⟨Nat.le_of_ble_eq_true rfl, Nat.le_of_ble_eq_true rfl⟩ rfl (by decide) (fun H locs hP hS => ?_)
        refine lv_icmp_ge (tgt := 51) hx hb dX4_isEnough_46 (by decide) (fun hc => ?_) (fun hc => ?_)
        · have hf := it_t hc hf
          exact hj51 _ _ _ _ hf hP hD hS (lv_sub hl [0, 1, 2] rfl)
        · have hf := it_f hc hf
          exact he12 _ (Option.some.inj hf).symm _ _ _ hP hD hS (lv_sub hl [] rfl)
  · rcases e12 with e12 | e12
    · have hf := se_l hf
      refine fun H locs ls hP hD hS hl => ?_
      refine lv_iconst (v := 0) hx hb dX4_isEnough_49 (by decide) ?_
      obtain rfl := Option.some.inj hf
      subst hq
      exact retZ cx rfl hP hD hS dX4_isEnough_50
    · have hf := se_r hf
      refine fun H locs ls hP hD hS hl => ?_
      refine lv_iconst (v := 1) hx hb dX4_isEnough_57 (by decide) ?_
      obtain rfl := Option.some.inj hf
      subst hq
      exact retZ cx rfl hP hD hS dX4_isEnough_58
def X4_smallestTeam_j60 (F : Nat) (o_lined : Int32) (o_open : Int32) (o_line : Nat → Int32) (o_reached : Nat → Int32) (q1_clock : Int32) (q1_streets_hours : Nat → Int32) (q1_extras_many : Int32) (q1_extras_cells : Nat → Int32) (q1_happenings_many : Int32) (q1_happenings_cells : Nat → Int32) (v2 : Int32) (v3 : Int32) : Option ((Int32 × Int32) ⊕ ((Int32))) :=
  some (.inl (v2, (v3 + 1)))
def X4_smallestTeam_j43 (F : Nat) (o_lined : Int32) (o_open : Int32) (o_line : Nat → Int32) (o_reached : Nat → Int32) (q1_clock : Int32) (q1_streets_hours : Nat → Int32) (q1_extras_many : Int32) (q1_extras_cells : Nat → Int32) (q1_happenings_many : Int32) (q1_happenings_cells : Nat → Int32) (v2 : Int32) (v3 : Int32) (k0 : Int32) : Option ((Int32 × Int32) ⊕ ((Int32))) :=
  if k0 = 0 then
  X4_smallestTeam_j60 F o_lined o_open o_line o_reached q1_clock q1_streets_hours q1_extras_many q1_extras_cells q1_happenings_many q1_happenings_cells v2 v3
  else
  (X4_isEnough F o_open o_reached v3).bind fun u52 =>
  if u52 = 0 then
  X4_smallestTeam_j60 F o_lined o_open o_line o_reached q1_clock q1_streets_hours q1_extras_many q1_extras_cells q1_happenings_many q1_happenings_cells v2 v3
  else
  X4_smallestTeam_j60 F o_lined o_open o_line o_reached q1_clock q1_streets_hours q1_extras_many q1_extras_cells q1_happenings_many q1_happenings_cells v3 v3
def X4_smallestTeam_j38 (F : Nat) (o_lined : Int32) (o_open : Int32) (o_line : Nat → Int32) (o_reached : Nat → Int32) (q1_clock : Int32) (q1_streets_hours : Nat → Int32) (q1_extras_many : Int32) (q1_extras_cells : Nat → Int32) (q1_happenings_many : Int32) (q1_happenings_cells : Nat → Int32) (v2 : Int32) (v3 : Int32) : Option ((Int32 × Int32) ⊕ ((Int32))) :=
  X4_smallestTeam_j43 F o_lined o_open o_line o_reached q1_clock q1_streets_hours q1_extras_many q1_extras_cells q1_happenings_many q1_happenings_cells v2 v3 1
def X4_smallestTeam_b9 (F : Nat) (o_lined : Int32) (o_open : Int32) (o_line : Nat → Int32) (o_reached : Nat → Int32) (q1_clock : Int32) (q1_streets_hours : Nat → Int32) (q1_extras_many : Int32) (q1_extras_cells : Nat → Int32) (q1_happenings_many : Int32) (q1_happenings_cells : Nat → Int32) (st9 : Int32 × Int32) : Option ((Int32 × Int32) ⊕ ((Int32))) :=
  if (jshl 1 q1_extras_many) ≤ st9.2 then
  some (.inr st9.1)
  else
  if st9.1 = (-1) then
  X4_smallestTeam_j38 F o_lined o_open o_line o_reached q1_clock q1_streets_hours q1_extras_many q1_extras_cells q1_happenings_many q1_happenings_cells st9.1 st9.2
  else
  (J6_bitCount_0f7a4 st9.2).bind fun u28 =>
  (J6_bitCount_0f7a4 st9.1).bind fun u32 =>
  if u32 ≤ u28 then
  X4_smallestTeam_j43 F o_lined o_open o_line o_reached q1_clock q1_streets_hours q1_extras_many q1_extras_cells q1_happenings_many q1_happenings_cells st9.1 st9.2 0
  else
  X4_smallestTeam_j38 F o_lined o_open o_line o_reached q1_clock q1_streets_hours q1_extras_many q1_extras_cells q1_happenings_many q1_happenings_cells st9.1 st9.2
def X4_smallestTeam (F : Nat) (o_lined : Int32) (o_open : Int32) (o_line : Nat → Int32) (o_reached : Nat → Int32) (q1_clock : Int32) (q1_streets_hours : Nat → Int32) (q1_extras_many : Int32) (q1_extras_cells : Nat → Int32) (q1_happenings_many : Int32) (q1_happenings_cells : Nat → Int32) : Option (Int32 × (Nat → Int32)) :=
  (X4_gatherReached F o_lined o_open o_line o_reached q1_clock q1_streets_hours q1_extras_many q1_extras_cells q1_happenings_many q1_happenings_cells).bind fun u2 =>
  (iter (X4_smallestTeam_b9 F o_lined o_open o_line u2 q1_clock q1_streets_hours q1_extras_many q1_extras_cells q1_happenings_many q1_happenings_cells) F ((-1), 0)).bind (fun (e9 : Int32) =>
    some (e9, u2))
abbrev wd_X4_smallestTeam (E : vE) (a_o a_o_line a_o_reached a_q1 a_q1_streets a_q1_names a_q1_extras a_q1_happenings a_q1_watchers a_q1_weeks a_q1_streets_roads a_q1_streets_takes a_q1_streets_hours a_q1_extras_cells a_q1_happenings_cells : Nat) (o_lined : Int32) (o_open : Int32) (o_line : Nat → Int32) (o_reached : Nat → Int32) (q1_wage : Int32) (q1_delay : Int32) (q1_odds : Int32) (q1_clock : Int32) (q1_hasWeeks : Int32) (q1_streets_corners : Int32) (q1_streets_hours : Nat → Int32) (q1_extras_many : Int32) (q1_extras_cells : Nat → Int32) (q1_happenings_many : Int32) (q1_happenings_cells : Nat → Int32) : va_W := [(a_o, .inr (4, [.ref a_o_line, .int o_lined, .ref a_o_reached, .int o_open])), (a_o_line, .inl (E.2.1, 8, .inl o_line)), (a_o_reached, .inl (E.2.1, 256, .inl o_reached)), (a_q1, .inr (0, [.int q1_wage, .int q1_delay, .int q1_odds, .int q1_clock, .int q1_hasWeeks, .ref a_q1_streets, .ref a_q1_names, .ref a_q1_extras, .ref a_q1_happenings, .ref a_q1_watchers, .ref a_q1_weeks])), (a_q1_streets, .inr (6, [.int q1_streets_corners, .ref a_q1_streets_roads, .ref a_q1_streets_takes, .ref a_q1_streets_hours])), (a_q1_streets_hours, .inl (E.2.1, 64, .inl q1_streets_hours)), (a_q1_extras, .inr (7, [.int 5, .ref a_q1_extras_cells, .int q1_extras_many])), (a_q1_extras_cells, .inl (E.2.1, 35, .inl q1_extras_cells)), (a_q1_happenings, .inr (7, [.int 5, .ref a_q1_happenings_cells, .int q1_happenings_many])), (a_q1_happenings_cells, .inl (E.2.1, 40, .inl q1_happenings_cells))]
set_option maxHeartbeats 4000000 in
set_option maxRecDepth 100000 in
theorem ct_X4_smallestTeam (l : Launch) (E : vE) (F : Nat) (a_o a_o_line a_o_reached a_q1 a_q1_streets a_q1_names a_q1_extras a_q1_happenings a_q1_watchers a_q1_weeks a_q1_streets_roads a_q1_streets_takes a_q1_streets_hours a_q1_extras_cells a_q1_happenings_cells : Nat) (o_lined : Int32) (o_open : Int32) (o_line : Nat → Int32) (o_reached : Nat → Int32) (q1_wage : Int32) (q1_delay : Int32) (q1_odds : Int32) (q1_clock : Int32) (q1_hasWeeks : Int32) (q1_streets_corners : Int32) (q1_streets_hours : Nat → Int32) (q1_extras_many : Int32) (q1_extras_cells : Nat → Int32) (q1_happenings_many : Int32) (q1_happenings_cells : Nat → Int32) (u : Int32 × (Nat → Int32)) (hf : X4_smallestTeam F o_lined o_open o_line o_reached q1_clock q1_streets_hours q1_extras_many q1_extras_cells q1_happenings_many q1_happenings_cells = some u) :
    CtI l yX4_smallestTeam cX4_smallestTeam 5 (some .int) 5 E [.ref a_o, .ref a_q1] (wd_X4_smallestTeam E a_o a_o_line a_o_reached a_q1 a_q1_streets a_q1_names a_q1_extras a_q1_happenings a_q1_watchers a_q1_weeks a_q1_streets_roads a_q1_streets_takes a_q1_streets_hours a_q1_extras_cells a_q1_happenings_cells o_lined o_open o_line o_reached q1_wage q1_delay q1_odds q1_clock q1_hasWeeks q1_streets_corners q1_streets_hours q1_extras_many q1_extras_cells q1_happenings_many q1_happenings_cells) (wd_X4_smallestTeam E a_o a_o_line a_o_reached a_q1 a_q1_streets a_q1_names a_q1_extras a_q1_happenings a_q1_watchers a_q1_weeks a_q1_streets_roads a_q1_streets_takes a_q1_streets_hours a_q1_extras_cells a_q1_happenings_cells o_lined o_open o_line u.2 q1_wage q1_delay q1_odds q1_clock q1_hasWeeks q1_streets_corners q1_streets_hours q1_extras_many q1_extras_cells q1_happenings_many q1_happenings_cells) u.1 := by
  refine ctI (by decide) (Nat.le_of_ble_eq_true rfl) ?_
  intro p e s m below meth cd A ls aa QQ hq cx hP hD hS hl
  obtain ⟨⟨hx, hb, hml, hown, hts⟩, hr, hlocks, hK, hA, hX⟩ := id cx
  have hl : lv_has ls 5 [(0, .ref a_o), (1, .ref a_q1)] := hl
  unfold X4_smallestTeam at hf
  refine lv_aload_n hx hb dX4_smallestTeam_0 rfl (lv_at hl 0 rfl) ?_
  refine lv_aload_n hx hb dX4_smallestTeam_1 rfl (lv_at hl 1 rfl) ?_
  obtain ⟨u2, hu2, hf⟩ := bd hf
  refine callVV (wn := (wd_X4_smallestTeam E a_o a_o_line a_o_reached a_q1 a_q1_streets a_q1_names a_q1_extras a_q1_happenings a_q1_watchers a_q1_weeks a_q1_streets_roads a_q1_streets_takes a_q1_streets_hours a_q1_extras_cells a_q1_happenings_cells o_lined o_open o_line u2 q1_wage q1_delay q1_odds q1_clock q1_hasWeeks q1_streets_corners q1_streets_hours q1_extras_many q1_extras_cells q1_happenings_many q1_happenings_cells)) (n1 := 10) (ct_X4_gatherReached l E F a_o a_o_line a_o_reached a_q1 a_q1_streets a_q1_names a_q1_extras a_q1_happenings a_q1_watchers a_q1_weeks a_q1_streets_roads a_q1_streets_takes a_q1_streets_hours a_q1_extras_cells a_q1_happenings_cells o_lined o_open o_line o_reached q1_wage q1_delay q1_odds q1_clock q1_hasWeeks q1_streets_corners q1_streets_hours q1_extras_many q1_extras_cells q1_happenings_many q1_happenings_cells u2 hu2) [0, 1, 2, 3, 4, 5, 6, 7, 8, 9] cal_X4_gatherReached cav_X4_gatherReached lk_X4_80 cx hP hD hS hl dX4_smallestTeam_2 rfl rfl rfl rfl (Nat.le_of_ble_eq_true rfl) ⟨Nat.le_of_ble_eq_true rfl, Nat.le_of_ble_eq_true rfl⟩ rfl (by decide +kernel) rfl [some 0, some 1, some 2, some 3, some 4, some 5, some 6, some 7, some 8, some 9] rfl (by decide +kernel) rfl (fun H locs hP hD hS => ?_)
  refine lv_iconst (v := (-1)) hx hb dX4_smallestTeam_5 (by decide) ?_
  refine lv_istore_n (lv' := [(2, .int (-1)), (0, .ref a_o), (1, .ref a_q1)]) hx hb dX4_smallestTeam_6 rfl hl (by decide) rfl (fun ls hl => ?_)
  refine lv_iconst (v := 0) hx hb dX4_smallestTeam_7 (by decide) ?_
  refine lv_istore_n (lv' := [(3, .int 0), (2, .int (-1)), (0, .ref a_o), (1, .ref a_q1)]) hx hb dX4_smallestTeam_8 rfl hl (by decide) rfl (fun ls hl => ?_)
  obtain ⟨e9, hit9, hf⟩ := bd hf
  refine iter_W (b := X4_smallestTeam_b9 F o_lined o_open o_line u2 q1_clock q1_streets_hours q1_extras_many q1_extras_cells q1_happenings_many q1_happenings_cells) (P := fun st9 => ∀ (H : Heap) (locs : List Loc) (ls : Array Slot), va_P E.1 vwCl (wd_X4_smallestTeam E a_o a_o_line a_o_reached a_q1 a_q1_streets a_q1_names a_q1_extras a_q1_happenings a_q1_watchers a_q1_weeks a_q1_streets_roads a_q1_streets_takes a_q1_streets_hours a_q1_extras_cells a_q1_happenings_cells o_lined o_open o_line u2 q1_wage q1_delay q1_odds q1_clock q1_hasWeeks q1_streets_corners q1_streets_hours q1_extras_many q1_extras_cells q1_happenings_many q1_happenings_cells) H → va_D A (wd_X4_smallestTeam E a_o a_o_line a_o_reached a_q1 a_q1_streets a_q1_names a_q1_extras a_q1_happenings a_q1_watchers a_q1_weeks a_q1_streets_roads a_q1_streets_takes a_q1_streets_hours a_q1_extras_cells a_q1_happenings_cells o_lined o_open o_line u2 q1_wage q1_delay q1_odds q1_clock q1_hasWeeks q1_streets_corners q1_streets_hours q1_extras_many q1_extras_cells q1_happenings_many q1_happenings_cells) → va_S A s.heap H locs → lv_has ls 5 [(0, .ref a_o), (1, .ref a_q1), (2, .int st9.1), (3, .int st9.2)] → W p l e (rmd 5) s m aa below meth cd H locs 0 0 QQ (F0 m 9 ls [])) (G := (fun (e9 : Int32) => ∀ (H : Heap) (locs : List Loc) (ls : Array Slot), va_P E.1 vwCl (wd_X4_smallestTeam E a_o a_o_line a_o_reached a_q1 a_q1_streets a_q1_names a_q1_extras a_q1_happenings a_q1_watchers a_q1_weeks a_q1_streets_roads a_q1_streets_takes a_q1_streets_hours a_q1_extras_cells a_q1_happenings_cells o_lined o_open o_line u2 q1_wage q1_delay q1_odds q1_clock q1_hasWeeks q1_streets_corners q1_streets_hours q1_extras_many q1_extras_cells q1_happenings_many q1_happenings_cells) H → va_D A (wd_X4_smallestTeam E a_o a_o_line a_o_reached a_q1 a_q1_streets a_q1_names a_q1_extras a_q1_happenings a_q1_watchers a_q1_weeks a_q1_streets_roads a_q1_streets_takes a_q1_streets_hours a_q1_extras_cells a_q1_happenings_cells o_lined o_open o_line u2 q1_wage q1_delay q1_odds q1_clock q1_hasWeeks q1_streets_corners q1_streets_hours q1_extras_many q1_extras_cells q1_happenings_many q1_happenings_cells) → va_S A s.heap H locs → lv_has ls 5 [(2, .int e9)] → W p l e (rmd 5) s m aa below meth cd H locs 0 0 QQ (F0 m 66 ls []))) ?_ F ((-1), 0) e9 hit9 ?_ _ _ _ hP hD hS (lv_sub hl [2, 3, 1, 0] rfl)
  · intro st9 r9 hf hk9 he9 H locs ls hP hD hS hl
    have hj60 : ∀ (v2_j60 : Int32) (v3_j60 : Int32) (H : Heap) (locs : List Loc) (ls : Array Slot), X4_smallestTeam_j60 F o_lined o_open o_line u2 q1_clock q1_streets_hours q1_extras_many q1_extras_cells q1_happenings_many q1_happenings_cells v2_j60 v3_j60 = some r9 → va_P E.1 vwCl (wd_X4_smallestTeam E a_o a_o_line a_o_reached a_q1 a_q1_streets a_q1_names a_q1_extras a_q1_happenings a_q1_watchers a_q1_weeks a_q1_streets_roads a_q1_streets_takes a_q1_streets_hours a_q1_extras_cells a_q1_happenings_cells o_lined o_open o_line u2 q1_wage q1_delay q1_odds q1_clock q1_hasWeeks q1_streets_corners q1_streets_hours q1_extras_many q1_extras_cells q1_happenings_many q1_happenings_cells) H → va_D A (wd_X4_smallestTeam E a_o a_o_line a_o_reached a_q1 a_q1_streets a_q1_names a_q1_extras a_q1_happenings a_q1_watchers a_q1_weeks a_q1_streets_roads a_q1_streets_takes a_q1_streets_hours a_q1_extras_cells a_q1_happenings_cells o_lined o_open o_line u2 q1_wage q1_delay q1_odds q1_clock q1_hasWeeks q1_streets_corners q1_streets_hours q1_extras_many q1_extras_cells q1_happenings_many q1_happenings_cells) → va_S A s.heap H locs → lv_has ls 5 [(0, .ref a_o), (1, .ref a_q1), (2, .int v2_j60), (3, .int v3_j60)] → W p l e (rmd 5) s m aa below meth cd H locs 0 0 QQ (F0 m 60 ls []) := by
      intro v2_j60 v3_j60 H locs ls hf hP hD hS hl
      unfold X4_smallestTeam_j60 at hf
      refine lv_iinc (v := (v3_j60 + 1)) (lv' := [(3, .int (v3_j60 + 1)), (0, .ref a_o), (1, .ref a_q1), (2, .int v2_j60)]) hx hb dX4_smallestTeam_60 hl (k := 3) rfl rfl (by decide) rfl (fun ls hl => ?_)
      refine lv_goto (tgt := 9) hx hb dX4_smallestTeam_63 (by decide) ?_
      exact hk9 _ (Option.some.inj hf).symm _ _ _ hP hD hS (lv_sub hl [1, 2, 3, 0] rfl)
    have hj43 : ∀ (v2_j43 : Int32) (v3_j43 : Int32) (k0_j43 : Int32) (H : Heap) (locs : List Loc) (ls : Array Slot), X4_smallestTeam_j43 F o_lined o_open o_line u2 q1_clock q1_streets_hours q1_extras_many q1_extras_cells q1_happenings_many q1_happenings_cells v2_j43 v3_j43 k0_j43 = some r9 → va_P E.1 vwCl (wd_X4_smallestTeam E a_o a_o_line a_o_reached a_q1 a_q1_streets a_q1_names a_q1_extras a_q1_happenings a_q1_watchers a_q1_weeks a_q1_streets_roads a_q1_streets_takes a_q1_streets_hours a_q1_extras_cells a_q1_happenings_cells o_lined o_open o_line u2 q1_wage q1_delay q1_odds q1_clock q1_hasWeeks q1_streets_corners q1_streets_hours q1_extras_many q1_extras_cells q1_happenings_many q1_happenings_cells) H → va_D A (wd_X4_smallestTeam E a_o a_o_line a_o_reached a_q1 a_q1_streets a_q1_names a_q1_extras a_q1_happenings a_q1_watchers a_q1_weeks a_q1_streets_roads a_q1_streets_takes a_q1_streets_hours a_q1_extras_cells a_q1_happenings_cells o_lined o_open o_line u2 q1_wage q1_delay q1_odds q1_clock q1_hasWeeks q1_streets_corners q1_streets_hours q1_extras_many q1_extras_cells q1_happenings_many q1_happenings_cells) → va_S A s.heap H locs → lv_has ls 5 [(0, .ref a_o), (1, .ref a_q1), (2, .int v2_j43), (3, .int v3_j43)] → W p l e (rmd 5) s m aa below meth cd H locs 0 0 QQ (F0 m 43 ls [.int k0_j43]) := by
      intro v2_j43 v3_j43 k0_j43 H locs ls hf hP hD hS hl
      unfold X4_smallestTeam_j43 at hf
      refine lv_istore (lv' := [(4, .int k0_j43), (0, .ref a_o), (1, .ref a_q1), (2, .int v2_j43), (3, .int v3_j43)]) hx hb dX4_smallestTeam_43 hl (by decide) rfl (fun ls hl => ?_)
      refine lv_iload hx hb dX4_smallestTeam_45 (lv_at hl 0 rfl) ?_
      refine lv_if_eq (tgt := 60) hx hb dX4_smallestTeam_47 (by decide) (fun hc => ?_) (fun hc => ?_)
      · have hf := it_t hc hf
        exact hj60 _ _ _ _ _ hf hP hD hS (lv_sub hl [1, 2, 3, 4] rfl)
      · have hf := it_f hc hf
        refine lv_aload_n hx hb dX4_smallestTeam_50 rfl (lv_at hl 1 rfl) ?_
        refine lv_iload_n hx hb dX4_smallestTeam_51 rfl (lv_at hl 4 rfl) ?_
        obtain ⟨u52, hu52, hf⟩ := bd hf
        refine keepVI (ct_X4_isEnough l E F a_o a_o_line a_o_reached o_lined o_open u2 v3_j43 u52 hu52) [0, 2] cal_X4_isEnough cav_X4_isEnough lk_X4_84 cx hP hD hS hl dX4_smallestTeam_52 rfl rfl rfl rfl (Nat.le_of_ble_eq_true rfl) ⟨Nat.le_of_ble_eq_true rfl, Nat.le_of_ble_eq_true rfl⟩ rfl (by decide) (fun H locs hP hS => ?_)
        refine lv_if_eq (tgt := 60) hx hb dX4_smallestTeam_55 (by decide) (fun hc => ?_) (fun hc => ?_)
        · have hf := it_t hc hf
          exact hj60 _ _ _ _ _ hf hP hD hS (lv_sub hl [1, 2, 3, 4] rfl)
        · have hf := it_f hc hf
          refine lv_iload_n hx hb dX4_smallestTeam_58 rfl (lv_at hl 4 rfl) ?_
          refine lv_istore_n (lv' := [(2, .int v3_j43), (4, .int k0_j43), (0, .ref a_o), (1, .ref a_q1), (3, .int v3_j43)]) hx hb dX4_smallestTeam_59 rfl hl (by decide) rfl (fun ls hl => ?_)
          exact hj60 _ _ _ _ _ hf hP hD hS (lv_sub hl [2, 3, 0, 4] rfl)
    have hj38 : ∀ (v2_j38 : Int32) (v3_j38 : Int32) (H : Heap) (locs : List Loc) (ls : Array Slot), X4_smallestTeam_j38 F o_lined o_open o_line u2 q1_clock q1_streets_hours q1_extras_many q1_extras_cells q1_happenings_many q1_happenings_cells v2_j38 v3_j38 = some r9 → va_P E.1 vwCl (wd_X4_smallestTeam E a_o a_o_line a_o_reached a_q1 a_q1_streets a_q1_names a_q1_extras a_q1_happenings a_q1_watchers a_q1_weeks a_q1_streets_roads a_q1_streets_takes a_q1_streets_hours a_q1_extras_cells a_q1_happenings_cells o_lined o_open o_line u2 q1_wage q1_delay q1_odds q1_clock q1_hasWeeks q1_streets_corners q1_streets_hours q1_extras_many q1_extras_cells q1_happenings_many q1_happenings_cells) H → va_D A (wd_X4_smallestTeam E a_o a_o_line a_o_reached a_q1 a_q1_streets a_q1_names a_q1_extras a_q1_happenings a_q1_watchers a_q1_weeks a_q1_streets_roads a_q1_streets_takes a_q1_streets_hours a_q1_extras_cells a_q1_happenings_cells o_lined o_open o_line u2 q1_wage q1_delay q1_odds q1_clock q1_hasWeeks q1_streets_corners q1_streets_hours q1_extras_many q1_extras_cells q1_happenings_many q1_happenings_cells) → va_S A s.heap H locs → lv_has ls 5 [(0, .ref a_o), (1, .ref a_q1), (2, .int v2_j38), (3, .int v3_j38)] → W p l e (rmd 5) s m aa below meth cd H locs 0 0 QQ (F0 m 38 ls []) := by
      intro v2_j38 v3_j38 H locs ls hf hP hD hS hl
      unfold X4_smallestTeam_j38 at hf
      refine lv_iconst (v := 1) hx hb dX4_smallestTeam_38 (by decide) ?_
      refine lv_goto (tgt := 43) hx hb dX4_smallestTeam_39 (by decide) ?_
      exact hj43 _ _ _ _ _ _ hf hP hD hS (lv_sub hl [0, 1, 2, 3] rfl)
    unfold X4_smallestTeam_b9 at hf
    refine lv_iload_n hx hb dX4_smallestTeam_9 rfl (lv_at hl 3 rfl) ?_
    refine lv_iconst (v := 1) hx hb dX4_smallestTeam_10 (by decide) ?_
    refine lv_aload_n hx hb dX4_smallestTeam_11 rfl (lv_at hl 1 rfl) ?_
    refine va_get (D := E.1) (ci := 0) (v := .ref a_q1_extras) (C := RX0) (T := TX0) (N := 11) hx hb hts inX0 hown hK hP 3 rfl rfl 7 (by decide) (hts _ fl_X4_47) (fun _ h9 => h9) rfl dX4_smallestTeam_12 ?_
    refine va_get (D := E.1) (ci := 7) (v := .int q1_extras_many) (C := RX7) (T := TX7) (N := 3) hx hb hts inX7 hown hK hP 6 rfl rfl 2 (by decide) (hts _ fl_X4_31) (fun _ h9 => h9) rfl dX4_smallestTeam_15 ?_
    refine r_ishl hx hb dX4_smallestTeam_18 ?_
    refine lv_icmp_ge (tgt := 66) hx hb dX4_smallestTeam_19 (by decide) (fun hc => ?_) (fun hc => ?_)
    · have hf := it_t hc hf
      exact he9 _ (Option.some.inj hf).symm _ _ _ hP hD hS (lv_sub hl [2] rfl)
    · have hf := it_f hc hf
      refine lv_iload_n hx hb dX4_smallestTeam_22 rfl (lv_at hl 2 rfl) ?_
      refine lv_iconst (v := (-1)) hx hb dX4_smallestTeam_23 (by decide) ?_
      refine lv_icmp_eq (tgt := 38) hx hb dX4_smallestTeam_24 (by decide) (fun hc => ?_) (fun hc => ?_)
      · have hf := it_t hc hf
        exact hj38 _ _ _ _ _ hf hP hD hS (lv_sub hl [0, 1, 2, 3] rfl)
      · have hf := it_f hc hf
        refine lv_iload_n hx hb dX4_smallestTeam_27 rfl (lv_at hl 3 rfl) ?_
        obtain ⟨u28, hu28, hf⟩ := bd hf
        refine keepSI (ct_J6_bitCount_0f7a4 l E st9.2 u28 hu28) [] cal_J6_bitCount_0f7a4 sta_J6_bitCount_0f7a4 lk_X4_71 cx hP hD hS hl dX4_smallestTeam_28 rfl rfl (Nat.le_of_ble_eq_true rfl) ⟨Nat.le_of_ble_eq_true rfl, Nat.le_of_ble_eq_true rfl⟩ rfl (by decide) (fun H locs hP hS => ?_)
        refine lv_iload_n hx hb dX4_smallestTeam_31 rfl (lv_at hl 2 rfl) ?_
        obtain ⟨u32, hu32, hf⟩ := bd hf
        refine keepSI (ct_J6_bitCount_0f7a4 l E st9.1 u32 hu32) [] cal_J6_bitCount_0f7a4 sta_J6_bitCount_0f7a4 lk_X4_71 cx hP hD hS hl dX4_smallestTeam_32 rfl rfl (Nat.le_of_ble_eq_true rfl) ⟨Nat.le_of_ble_eq_true rfl, Nat.le_of_ble_eq_true rfl⟩ rfl (by decide) (fun H locs hP hS => ?_)
        refine lv_icmp_ge (tgt := 42) hx hb dX4_smallestTeam_35 (by decide) (fun hc => ?_) (fun hc => ?_)
        · have hf := it_t hc hf
          refine lv_iconst (v := 0) hx hb dX4_smallestTeam_42 (by decide) ?_
          exact hj43 _ _ _ _ _ _ hf hP hD hS (lv_sub hl [0, 1, 2, 3] rfl)
        · have hf := it_f hc hf
          exact hj38 _ _ _ _ _ hf hP hD hS (lv_sub hl [0, 1, 2, 3] rfl)
  · refine fun H locs ls hP hD hS hl => ?_
    refine lv_iload_n hx hb dX4_smallestTeam_66 rfl (lv_at hl 0 rfl) ?_
    obtain rfl := Option.some.inj hf
    subst hq
    exact retI cx hP hD hS dX4_smallestTeam_67
def X5_greatestBut_j55 (F : Nat) (q1_happenings_many : Int32) (q1_happenings_cells : Nat → Int32) (v2 : Int32) (v3 : Int32) (v4 : Int32) : Option ((Int32 × Int32) ⊕ ((Int32))) :=
  some (.inl (v3, (v4 + 1)))
def X5_greatestBut_b5 (F : Nat) (q1_happenings_many : Int32) (q1_happenings_cells : Nat → Int32) (v2 : Int32) (st5 : Int32 × Int32) : Option ((Int32 × Int32) ⊕ ((Int32))) :=
  if q1_happenings_many ≤ st5.2 then
  some (.inr st5.1)
  else
  (X0_isToCome q1_happenings_many q1_happenings_cells st5.2).bind fun u20 =>
  if u20 = 0 then
  X5_greatestBut_j55 F q1_happenings_many q1_happenings_cells v2 st5.1 st5.2
  else
  (X7_get 40 5 q1_happenings_many q1_happenings_cells st5.2 (0 : Int32)).bind fun u33 =>
  if u33 = v2 then
  X5_greatestBut_j55 F q1_happenings_many q1_happenings_cells v2 st5.1 st5.2
  else
  (X7_get 40 5 q1_happenings_many q1_happenings_cells st5.2 (2 : Int32)).bind fun u48 =>
  X5_greatestBut_j55 F q1_happenings_many q1_happenings_cells v2 (jmax st5.1 u48) st5.2
def X5_greatestBut (F : Nat) (q1_happenings_many : Int32) (q1_happenings_cells : Nat → Int32) (v2 : Int32) : Option (Int32) :=
  (iter (X5_greatestBut_b5 F q1_happenings_many q1_happenings_cells v2) F (0, 0)).bind (fun (e5 : Int32) =>
    some e5)
abbrev wd_X5_greatestBut (E : vE) (a_o a_o_worth a_q1 a_q1_streets a_q1_names a_q1_extras a_q1_happenings a_q1_watchers a_q1_weeks a_q1_happenings_cells : Nat) (q1_wage : Int32) (q1_delay : Int32) (q1_odds : Int32) (q1_clock : Int32) (q1_hasWeeks : Int32) (q1_happenings_many : Int32) (q1_happenings_cells : Nat → Int32) : va_W := [(a_o, .inr (5, [.ref a_o_worth])), (a_q1, .inr (0, [.int q1_wage, .int q1_delay, .int q1_odds, .int q1_clock, .int q1_hasWeeks, .ref a_q1_streets, .ref a_q1_names, .ref a_q1_extras, .ref a_q1_happenings, .ref a_q1_watchers, .ref a_q1_weeks])), (a_q1_happenings, .inr (7, [.int 5, .ref a_q1_happenings_cells, .int q1_happenings_many])), (a_q1_happenings_cells, .inl (E.2.1, 40, .inl q1_happenings_cells))]
set_option maxHeartbeats 4000000 in
set_option maxRecDepth 100000 in
theorem ct_X5_greatestBut (l : Launch) (E : vE) (F : Nat) (a_o a_o_worth a_q1 a_q1_streets a_q1_names a_q1_extras a_q1_happenings a_q1_watchers a_q1_weeks a_q1_happenings_cells : Nat) (q1_wage : Int32) (q1_delay : Int32) (q1_odds : Int32) (q1_clock : Int32) (q1_hasWeeks : Int32) (q1_happenings_many : Int32) (q1_happenings_cells : Nat → Int32) (v2 : Int32) (u : Int32) (hf : X5_greatestBut F q1_happenings_many q1_happenings_cells v2 = some u) :
    CtI l yX5_greatestBut cX5_greatestBut 5 (some .int) 2 E [.ref a_o, .ref a_q1, .int v2] (wd_X5_greatestBut E a_o a_o_worth a_q1 a_q1_streets a_q1_names a_q1_extras a_q1_happenings a_q1_watchers a_q1_weeks a_q1_happenings_cells q1_wage q1_delay q1_odds q1_clock q1_hasWeeks q1_happenings_many q1_happenings_cells) (wd_X5_greatestBut E a_o a_o_worth a_q1 a_q1_streets a_q1_names a_q1_extras a_q1_happenings a_q1_watchers a_q1_weeks a_q1_happenings_cells q1_wage q1_delay q1_odds q1_clock q1_hasWeeks q1_happenings_many q1_happenings_cells) u := by
  refine ctI (by decide) (Nat.le_of_ble_eq_true rfl) ?_
  intro p e s m below meth cd A ls aa QQ hq cx hP hD hS hl
  obtain ⟨⟨hx, hb, hml, hown, hts⟩, hr, hlocks, hK, hA, hX⟩ := id cx
  have hl : lv_has ls 5 [(0, .ref a_o), (1, .ref a_q1), (2, .int v2)] := hl
  unfold X5_greatestBut at hf
  refine lv_iconst (v := 0) hx hb dX5_greatestBut_0 (by decide) ?_
  refine lv_istore_n (lv' := [(3, .int 0), (0, .ref a_o), (1, .ref a_q1), (2, .int v2)]) hx hb dX5_greatestBut_1 rfl hl (by decide) rfl (fun ls hl => ?_)
  refine lv_iconst (v := 0) hx hb dX5_greatestBut_2 (by decide) ?_
  refine lv_istore (lv' := [(4, .int 0), (3, .int 0), (0, .ref a_o), (1, .ref a_q1), (2, .int v2)]) hx hb dX5_greatestBut_3 hl (by decide) rfl (fun ls hl => ?_)
  obtain ⟨e5, hit5, hf⟩ := bd hf
  refine iter_W (b := X5_greatestBut_b5 F q1_happenings_many q1_happenings_cells v2) (P := fun st5 => ∀ (H : Heap) (locs : List Loc) (ls : Array Slot), va_P E.1 vwCl (wd_X5_greatestBut E a_o a_o_worth a_q1 a_q1_streets a_q1_names a_q1_extras a_q1_happenings a_q1_watchers a_q1_weeks a_q1_happenings_cells q1_wage q1_delay q1_odds q1_clock q1_hasWeeks q1_happenings_many q1_happenings_cells) H → va_D A (wd_X5_greatestBut E a_o a_o_worth a_q1 a_q1_streets a_q1_names a_q1_extras a_q1_happenings a_q1_watchers a_q1_weeks a_q1_happenings_cells q1_wage q1_delay q1_odds q1_clock q1_hasWeeks q1_happenings_many q1_happenings_cells) → va_S A s.heap H locs → lv_has ls 5 [(1, .ref a_q1), (2, .int v2), (3, .int st5.1), (4, .int st5.2)] → W p l e (rmd 2) s m aa below meth cd H locs 0 0 QQ (F0 m 5 ls [])) (G := (fun (e5 : Int32) => ∀ (H : Heap) (locs : List Loc) (ls : Array Slot), va_P E.1 vwCl (wd_X5_greatestBut E a_o a_o_worth a_q1 a_q1_streets a_q1_names a_q1_extras a_q1_happenings a_q1_watchers a_q1_weeks a_q1_happenings_cells q1_wage q1_delay q1_odds q1_clock q1_hasWeeks q1_happenings_many q1_happenings_cells) H → va_D A (wd_X5_greatestBut E a_o a_o_worth a_q1 a_q1_streets a_q1_names a_q1_extras a_q1_happenings a_q1_watchers a_q1_weeks a_q1_happenings_cells q1_wage q1_delay q1_odds q1_clock q1_hasWeeks q1_happenings_many q1_happenings_cells) → va_S A s.heap H locs → lv_has ls 5 [(3, .int e5)] → W p l e (rmd 2) s m aa below meth cd H locs 0 0 QQ (F0 m 61 ls []))) ?_ F (0, 0) e5 hit5 ?_ _ _ _ hP hD hS (lv_sub hl [3, 4, 1, 0] rfl)
  · intro st5 r5 hf hk5 he5 H locs ls hP hD hS hl
    have hj55 : ∀ (v3_j55 : Int32) (v4_j55 : Int32) (H : Heap) (locs : List Loc) (ls : Array Slot), X5_greatestBut_j55 F q1_happenings_many q1_happenings_cells v2 v3_j55 v4_j55 = some r5 → va_P E.1 vwCl (wd_X5_greatestBut E a_o a_o_worth a_q1 a_q1_streets a_q1_names a_q1_extras a_q1_happenings a_q1_watchers a_q1_weeks a_q1_happenings_cells q1_wage q1_delay q1_odds q1_clock q1_hasWeeks q1_happenings_many q1_happenings_cells) H → va_D A (wd_X5_greatestBut E a_o a_o_worth a_q1 a_q1_streets a_q1_names a_q1_extras a_q1_happenings a_q1_watchers a_q1_weeks a_q1_happenings_cells q1_wage q1_delay q1_odds q1_clock q1_hasWeeks q1_happenings_many q1_happenings_cells) → va_S A s.heap H locs → lv_has ls 5 [(1, .ref a_q1), (2, .int v2), (3, .int v3_j55), (4, .int v4_j55)] → W p l e (rmd 2) s m aa below meth cd H locs 0 0 QQ (F0 m 55 ls []) := by
      intro v3_j55 v4_j55 H locs ls hf hP hD hS hl
      unfold X5_greatestBut_j55 at hf
      refine lv_iinc (v := (v4_j55 + 1)) (lv' := [(4, .int (v4_j55 + 1)), (1, .ref a_q1), (2, .int v2), (3, .int v3_j55)]) hx hb dX5_greatestBut_55 hl (k := 3) rfl rfl (by decide) rfl (fun ls hl => ?_)
      refine lv_goto (tgt := 5) hx hb dX5_greatestBut_58 (by decide) ?_
      exact hk5 _ (Option.some.inj hf).symm _ _ _ hP hD hS (lv_sub hl [1, 2, 3, 0] rfl)
    unfold X5_greatestBut_b5 at hf
    refine lv_iload hx hb dX5_greatestBut_5 (lv_at hl 3 rfl) ?_
    refine lv_aload_n hx hb dX5_greatestBut_7 rfl (lv_at hl 0 rfl) ?_
    refine va_get (D := E.1) (ci := 0) (v := .ref a_q1_happenings) (C := RX0) (T := TX0) (N := 11) hx hb hts inX0 hown hK hP 1 rfl rfl 8 (by decide) (hts _ fl_X5_17) (fun _ h9 => h9) rfl dX5_greatestBut_8 ?_
    refine va_get (D := E.1) (ci := 7) (v := .int q1_happenings_many) (C := RX7) (T := TX7) (N := 3) hx hb hts inX7 hown hK hP 2 rfl rfl 2 (by decide) (hts _ fl_X5_23) (fun _ h9 => h9) rfl dX5_greatestBut_11 ?_
    refine lv_icmp_ge (tgt := 61) hx hb dX5_greatestBut_14 (by decide) (fun hc => ?_) (fun hc => ?_)
    · have hf := it_t hc hf
      exact he5 _ (Option.some.inj hf).symm _ _ _ hP hD hS (lv_sub hl [2] rfl)
    · have hf := it_f hc hf
      refine lv_aload_n hx hb dX5_greatestBut_17 rfl (lv_at hl 0 rfl) ?_
      refine lv_iload hx hb dX5_greatestBut_18 (lv_at hl 3 rfl) ?_
      obtain ⟨u20, hu20, hf⟩ := bd hf
      refine keepVI (ct_X0_isToCome l E a_q1 a_q1_streets a_q1_names a_q1_extras a_q1_happenings a_q1_watchers a_q1_weeks a_q1_happenings_cells q1_wage q1_delay q1_odds q1_clock q1_hasWeeks q1_happenings_many q1_happenings_cells st5.2 u20 hu20) [1, 2, 3] cal_X0_isToCome cav_X0_isToCome lk_X5_29 cx hP hD hS hl dX5_greatestBut_20 rfl rfl rfl rfl (Nat.le_of_ble_eq_true rfl) ⟨Nat.le_of_ble_eq_true rfl, Nat.le_of_ble_eq_true rfl⟩ rfl (by decide) (fun H locs hP hS => ?_)
      refine lv_if_eq (tgt := 55) hx hb dX5_greatestBut_23 (by decide) (fun hc => ?_) (fun hc => ?_)
      · have hf := it_t hc hf
        exact hj55 _ _ _ _ _ hf hP hD hS (lv_sub hl [0, 1, 2, 3] rfl)
      · have hf := it_f hc hf
        refine lv_aload_n hx hb dX5_greatestBut_26 rfl (lv_at hl 0 rfl) ?_
        refine va_get (D := E.1) (ci := 0) (v := .ref a_q1_happenings) (C := RX0) (T := TX0) (N := 11) hx hb hts inX0 hown hK hP 1 rfl rfl 8 (by decide) (hts _ fl_X5_17) (fun _ h9 => h9) rfl dX5_greatestBut_27 ?_
        refine lv_iload hx hb dX5_greatestBut_30 (lv_at hl 3 rfl) ?_
        refine lv_iconst (v := 0) hx hb dX5_greatestBut_32 (by decide) ?_
        obtain ⟨u33, hu33, hf⟩ := bd hf
        refine keepVI (ct_X7_get l E a_q1_happenings a_q1_happenings_cells 40 5 q1_happenings_many q1_happenings_cells st5.2 (0 : Int32) u33 hu33) [2, 3] cal_X7_get cav_X7_get lk_X5_33 cx hP hD hS hl dX5_greatestBut_33 rfl rfl rfl rfl (Nat.le_of_ble_eq_true rfl) ⟨Nat.le_of_ble_eq_true rfl, Nat.le_of_ble_eq_true rfl⟩ rfl (by decide) (fun H locs hP hS => ?_)
        refine lv_iload_n hx hb dX5_greatestBut_36 rfl (lv_at hl 1 rfl) ?_
        refine lv_icmp_eq (tgt := 55) hx hb dX5_greatestBut_37 (by decide) (fun hc => ?_) (fun hc => ?_)
        · have hf := it_t hc hf
          exact hj55 _ _ _ _ _ hf hP hD hS (lv_sub hl [0, 1, 2, 3] rfl)
        · have hf := it_f hc hf
          refine lv_iload_n hx hb dX5_greatestBut_40 rfl (lv_at hl 2 rfl) ?_
          refine lv_aload_n hx hb dX5_greatestBut_41 rfl (lv_at hl 0 rfl) ?_
          refine va_get (D := E.1) (ci := 0) (v := .ref a_q1_happenings) (C := RX0) (T := TX0) (N := 11) hx hb hts inX0 hown hK hP 1 rfl rfl 8 (by decide) (hts _ fl_X5_17) (fun _ h9 => h9) rfl dX5_greatestBut_42 ?_
          refine lv_iload hx hb dX5_greatestBut_45 (lv_at hl 3 rfl) ?_
          refine lv_iconst (v := 2) hx hb dX5_greatestBut_47 (by decide) ?_
          obtain ⟨u48, hu48, hf⟩ := bd hf
          refine keepVI (ct_X7_get l E a_q1_happenings a_q1_happenings_cells 40 5 q1_happenings_many q1_happenings_cells st5.2 (2 : Int32) u48 hu48) [2, 3] cal_X7_get cav_X7_get lk_X5_33 cx hP hD hS hl dX5_greatestBut_48 rfl rfl rfl rfl (Nat.le_of_ble_eq_true rfl) ⟨Nat.le_of_ble_eq_true rfl, Nat.le_of_ble_eq_true rfl⟩ rfl (by decide) (fun H locs hP hS => ?_)
          refine r_mmax cx hl lk_X5_37 mt_max (Nat.le_of_ble_eq_true rfl) (Nat.le_of_ble_eq_true rfl) dX5_greatestBut_51 ?_
          refine lv_istore_n (lv' := [(3, .int (jmax st5.1 u48)), (1, .ref a_q1), (2, .int v2), (4, .int st5.2)]) hx hb dX5_greatestBut_54 rfl hl (by decide) rfl (fun ls hl => ?_)
          exact hj55 _ _ _ _ _ hf hP hD hS (lv_sub hl [1, 2, 0, 3] rfl)
  · refine fun H locs ls hP hD hS hl => ?_
    refine lv_iload_n hx hb dX5_greatestBut_61 rfl (lv_at hl 0 rfl) ?_
    obtain rfl := Option.some.inj hf
    subst hq
    exact retI cx hP hD hS dX5_greatestBut_62
def X5_bestPost_j45 (F : Nat) (q1_streets_corners : Int32) (q1_happenings_many : Int32) (q1_happenings_cells : Nat → Int32) (v2 : Int32) (v3 : Int32) (v4 : Int32) : Option ((Int32 × Int32 × Int32) ⊕ ((Int32))) :=
  some (.inl (v2, v3, (v4 + 1)))
def X5_bestPost_j39 (F : Nat) (q1_streets_corners : Int32) (q1_happenings_many : Int32) (q1_happenings_cells : Nat → Int32) (v4 : Int32) (v5 : Int32) : Option ((Int32 × Int32 × Int32) ⊕ ((Int32))) :=
  X5_bestPost_j45 F q1_streets_corners q1_happenings_many q1_happenings_cells v4 v5 v4
def X5_bestPost_b7 (F : Nat) (q1_streets_corners : Int32) (q1_happenings_many : Int32) (q1_happenings_cells : Nat → Int32) (st7 : Int32 × Int32 × Int32) : Option ((Int32 × Int32 × Int32) ⊕ ((Int32))) :=
  if q1_streets_corners ≤ st7.2.2 then
  some (.inr st7.1)
  else
  (X5_greatestBut F q1_happenings_many q1_happenings_cells st7.2.2).bind fun u23 =>
  if st7.1 = (-1) then
  X5_bestPost_j39 F q1_streets_corners q1_happenings_many q1_happenings_cells st7.2.2 u23
  else
  if st7.2.1 ≤ u23 then
  X5_bestPost_j45 F q1_streets_corners q1_happenings_many q1_happenings_cells st7.1 st7.2.1 st7.2.2
  else
  X5_bestPost_j39 F q1_streets_corners q1_happenings_many q1_happenings_cells st7.2.2 u23
def X5_bestPost (F : Nat) (q1_streets_corners : Int32) (q1_happenings_many : Int32) (q1_happenings_cells : Nat → Int32) : Option (Int32) :=
  (iter (X5_bestPost_b7 F q1_streets_corners q1_happenings_many q1_happenings_cells) F ((-1), 0, 0)).bind (fun (e7 : Int32) =>
    some e7)
abbrev wd_X5_bestPost (E : vE) (a_o a_o_worth a_q1 a_q1_streets a_q1_names a_q1_extras a_q1_happenings a_q1_watchers a_q1_weeks a_q1_streets_roads a_q1_streets_takes a_q1_streets_hours a_q1_happenings_cells : Nat) (q1_wage : Int32) (q1_delay : Int32) (q1_odds : Int32) (q1_clock : Int32) (q1_hasWeeks : Int32) (q1_streets_corners : Int32) (q1_happenings_many : Int32) (q1_happenings_cells : Nat → Int32) : va_W := [(a_o, .inr (5, [.ref a_o_worth])), (a_q1, .inr (0, [.int q1_wage, .int q1_delay, .int q1_odds, .int q1_clock, .int q1_hasWeeks, .ref a_q1_streets, .ref a_q1_names, .ref a_q1_extras, .ref a_q1_happenings, .ref a_q1_watchers, .ref a_q1_weeks])), (a_q1_streets, .inr (6, [.int q1_streets_corners, .ref a_q1_streets_roads, .ref a_q1_streets_takes, .ref a_q1_streets_hours])), (a_q1_happenings, .inr (7, [.int 5, .ref a_q1_happenings_cells, .int q1_happenings_many])), (a_q1_happenings_cells, .inl (E.2.1, 40, .inl q1_happenings_cells))]
set_option maxHeartbeats 4000000 in
set_option maxRecDepth 100000 in
theorem ct_X5_bestPost (l : Launch) (E : vE) (F : Nat) (a_o a_o_worth a_q1 a_q1_streets a_q1_names a_q1_extras a_q1_happenings a_q1_watchers a_q1_weeks a_q1_streets_roads a_q1_streets_takes a_q1_streets_hours a_q1_happenings_cells : Nat) (q1_wage : Int32) (q1_delay : Int32) (q1_odds : Int32) (q1_clock : Int32) (q1_hasWeeks : Int32) (q1_streets_corners : Int32) (q1_happenings_many : Int32) (q1_happenings_cells : Nat → Int32) (u : Int32) (hf : X5_bestPost F q1_streets_corners q1_happenings_many q1_happenings_cells = some u) :
    CtI l yX5_bestPost cX5_bestPost 6 (some .int) 3 E [.ref a_o, .ref a_q1] (wd_X5_bestPost E a_o a_o_worth a_q1 a_q1_streets a_q1_names a_q1_extras a_q1_happenings a_q1_watchers a_q1_weeks a_q1_streets_roads a_q1_streets_takes a_q1_streets_hours a_q1_happenings_cells q1_wage q1_delay q1_odds q1_clock q1_hasWeeks q1_streets_corners q1_happenings_many q1_happenings_cells) (wd_X5_bestPost E a_o a_o_worth a_q1 a_q1_streets a_q1_names a_q1_extras a_q1_happenings a_q1_watchers a_q1_weeks a_q1_streets_roads a_q1_streets_takes a_q1_streets_hours a_q1_happenings_cells q1_wage q1_delay q1_odds q1_clock q1_hasWeeks q1_streets_corners q1_happenings_many q1_happenings_cells) u := by
  refine ctI (by decide) (Nat.le_of_ble_eq_true rfl) ?_
  intro p e s m below meth cd A ls aa QQ hq cx hP hD hS hl
  obtain ⟨⟨hx, hb, hml, hown, hts⟩, hr, hlocks, hK, hA, hX⟩ := id cx
  have hl : lv_has ls 6 [(0, .ref a_o), (1, .ref a_q1)] := hl
  unfold X5_bestPost at hf
  refine lv_iconst (v := (-1)) hx hb dX5_bestPost_0 (by decide) ?_
  refine lv_istore_n (lv' := [(2, .int (-1)), (0, .ref a_o), (1, .ref a_q1)]) hx hb dX5_bestPost_1 rfl hl (by decide) rfl (fun ls hl => ?_)
  refine lv_iconst (v := 0) hx hb dX5_bestPost_2 (by decide) ?_
  refine lv_istore_n (lv' := [(3, .int 0), (2, .int (-1)), (0, .ref a_o), (1, .ref a_q1)]) hx hb dX5_bestPost_3 rfl hl (by decide) rfl (fun ls hl => ?_)
  refine lv_iconst (v := 0) hx hb dX5_bestPost_4 (by decide) ?_
  refine lv_istore (lv' := [(4, .int 0), (3, .int 0), (2, .int (-1)), (0, .ref a_o), (1, .ref a_q1)]) hx hb dX5_bestPost_5 hl (by decide) rfl (fun ls hl => ?_)
  obtain ⟨e7, hit7, hf⟩ := bd hf
  refine iter_W (b := X5_bestPost_b7 F q1_streets_corners q1_happenings_many q1_happenings_cells) (P := fun st7 => ∀ (H : Heap) (locs : List Loc) (ls : Array Slot), va_P E.1 vwCl (wd_X5_bestPost E a_o a_o_worth a_q1 a_q1_streets a_q1_names a_q1_extras a_q1_happenings a_q1_watchers a_q1_weeks a_q1_streets_roads a_q1_streets_takes a_q1_streets_hours a_q1_happenings_cells q1_wage q1_delay q1_odds q1_clock q1_hasWeeks q1_streets_corners q1_happenings_many q1_happenings_cells) H → va_D A (wd_X5_bestPost E a_o a_o_worth a_q1 a_q1_streets a_q1_names a_q1_extras a_q1_happenings a_q1_watchers a_q1_weeks a_q1_streets_roads a_q1_streets_takes a_q1_streets_hours a_q1_happenings_cells q1_wage q1_delay q1_odds q1_clock q1_hasWeeks q1_streets_corners q1_happenings_many q1_happenings_cells) → va_S A s.heap H locs → lv_has ls 6 [(0, .ref a_o), (1, .ref a_q1), (2, .int st7.1), (3, .int st7.2.1), (4, .int st7.2.2)] → W p l e (rmd 3) s m aa below meth cd H locs 0 0 QQ (F0 m 7 ls [])) (G := (fun (e7 : Int32) => ∀ (H : Heap) (locs : List Loc) (ls : Array Slot), va_P E.1 vwCl (wd_X5_bestPost E a_o a_o_worth a_q1 a_q1_streets a_q1_names a_q1_extras a_q1_happenings a_q1_watchers a_q1_weeks a_q1_streets_roads a_q1_streets_takes a_q1_streets_hours a_q1_happenings_cells q1_wage q1_delay q1_odds q1_clock q1_hasWeeks q1_streets_corners q1_happenings_many q1_happenings_cells) H → va_D A (wd_X5_bestPost E a_o a_o_worth a_q1 a_q1_streets a_q1_names a_q1_extras a_q1_happenings a_q1_watchers a_q1_weeks a_q1_streets_roads a_q1_streets_takes a_q1_streets_hours a_q1_happenings_cells q1_wage q1_delay q1_odds q1_clock q1_hasWeeks q1_streets_corners q1_happenings_many q1_happenings_cells) → va_S A s.heap H locs → lv_has ls 6 [(2, .int e7)] → W p l e (rmd 3) s m aa below meth cd H locs 0 0 QQ (F0 m 51 ls []))) ?_ F ((-1), 0, 0) e7 hit7 ?_ _ _ _ hP hD hS (lv_sub hl [3, 4, 2, 1, 0] rfl)
  · intro st7 r7 hf hk7 he7 H locs ls hP hD hS hl
    have hj45 : ∀ (v2_j45 : Int32) (v3_j45 : Int32) (v4_j45 : Int32) (H : Heap) (locs : List Loc) (ls : Array Slot), X5_bestPost_j45 F q1_streets_corners q1_happenings_many q1_happenings_cells v2_j45 v3_j45 v4_j45 = some r7 → va_P E.1 vwCl (wd_X5_bestPost E a_o a_o_worth a_q1 a_q1_streets a_q1_names a_q1_extras a_q1_happenings a_q1_watchers a_q1_weeks a_q1_streets_roads a_q1_streets_takes a_q1_streets_hours a_q1_happenings_cells q1_wage q1_delay q1_odds q1_clock q1_hasWeeks q1_streets_corners q1_happenings_many q1_happenings_cells) H → va_D A (wd_X5_bestPost E a_o a_o_worth a_q1 a_q1_streets a_q1_names a_q1_extras a_q1_happenings a_q1_watchers a_q1_weeks a_q1_streets_roads a_q1_streets_takes a_q1_streets_hours a_q1_happenings_cells q1_wage q1_delay q1_odds q1_clock q1_hasWeeks q1_streets_corners q1_happenings_many q1_happenings_cells) → va_S A s.heap H locs → lv_has ls 6 [(0, .ref a_o), (1, .ref a_q1), (2, .int v2_j45), (3, .int v3_j45), (4, .int v4_j45)] → W p l e (rmd 3) s m aa below meth cd H locs 0 0 QQ (F0 m 45 ls []) := by
      intro v2_j45 v3_j45 v4_j45 H locs ls hf hP hD hS hl
      unfold X5_bestPost_j45 at hf
      refine lv_iinc (v := (v4_j45 + 1)) (lv' := [(4, .int (v4_j45 + 1)), (0, .ref a_o), (1, .ref a_q1), (2, .int v2_j45), (3, .int v3_j45)]) hx hb dX5_bestPost_45 hl (k := 4) rfl rfl (by decide) rfl (fun ls hl => ?_)
      refine lv_goto (tgt := 7) hx hb dX5_bestPost_48 (by decide) ?_
      exact hk7 _ (Option.some.inj hf).symm _ _ _ hP hD hS (lv_sub hl [1, 2, 3, 4, 0] rfl)
    have hj39 : ∀ (v4_j39 : Int32) (v5_j39 : Int32) (H : Heap) (locs : List Loc) (ls : Array Slot), X5_bestPost_j39 F q1_streets_corners q1_happenings_many q1_happenings_cells v4_j39 v5_j39 = some r7 → va_P E.1 vwCl (wd_X5_bestPost E a_o a_o_worth a_q1 a_q1_streets a_q1_names a_q1_extras a_q1_happenings a_q1_watchers a_q1_weeks a_q1_streets_roads a_q1_streets_takes a_q1_streets_hours a_q1_happenings_cells q1_wage q1_delay q1_odds q1_clock q1_hasWeeks q1_streets_corners q1_happenings_many q1_happenings_cells) H → va_D A (wd_X5_bestPost E a_o a_o_worth a_q1 a_q1_streets a_q1_names a_q1_extras a_q1_happenings a_q1_watchers a_q1_weeks a_q1_streets_roads a_q1_streets_takes a_q1_streets_hours a_q1_happenings_cells q1_wage q1_delay q1_odds q1_clock q1_hasWeeks q1_streets_corners q1_happenings_many q1_happenings_cells) → va_S A s.heap H locs → lv_has ls 6 [(0, .ref a_o), (1, .ref a_q1), (4, .int v4_j39), (5, .int v5_j39)] → W p l e (rmd 3) s m aa below meth cd H locs 0 0 QQ (F0 m 39 ls []) := by
      intro v4_j39 v5_j39 H locs ls hf hP hD hS hl
      unfold X5_bestPost_j39 at hf
      refine lv_iload hx hb dX5_bestPost_39 (lv_at hl 2 rfl) ?_
      refine lv_istore_n (lv' := [(2, .int v4_j39), (0, .ref a_o), (1, .ref a_q1), (4, .int v4_j39), (5, .int v5_j39)]) hx hb dX5_bestPost_41 rfl hl (by decide) rfl (fun ls hl => ?_)
      refine lv_iload hx hb dX5_bestPost_42 (lv_at hl 4 rfl) ?_
      refine lv_istore_n (lv' := [(3, .int v5_j39), (2, .int v4_j39), (0, .ref a_o), (1, .ref a_q1), (4, .int v4_j39), (5, .int v5_j39)]) hx hb dX5_bestPost_44 rfl hl (by decide) rfl (fun ls hl => ?_)
      exact hj45 _ _ _ _ _ _ hf hP hD hS (lv_sub hl [2, 3, 1, 0, 4] rfl)
    unfold X5_bestPost_b7 at hf
    refine lv_iload hx hb dX5_bestPost_7 (lv_at hl 4 rfl) ?_
    refine lv_aload_n hx hb dX5_bestPost_9 rfl (lv_at hl 1 rfl) ?_
    refine va_get (D := E.1) (ci := 0) (v := .ref a_q1_streets) (C := RX0) (T := TX0) (N := 11) hx hb hts inX0 hown hK hP 1 rfl rfl 5 (by decide) (hts _ fl_X5_42) (fun _ h9 => h9) rfl dX5_bestPost_10 ?_
    refine va_get (D := E.1) (ci := 6) (v := .int q1_streets_corners) (C := RX6) (T := TX6) (N := 4) hx hb hts inX6 hown hK hP 2 rfl rfl 0 (by decide) (hts _ fl_X5_46) (fun _ h9 => h9) rfl dX5_bestPost_13 ?_
    refine lv_icmp_ge (tgt := 51) hx hb dX5_bestPost_16 (by decide) (fun hc => ?_) (fun hc => ?_)
    · have hf := it_t hc hf
      exact he7 _ (Option.some.inj hf).symm _ _ _ hP hD hS (lv_sub hl [2] rfl)
    · have hf := it_f hc hf
      refine lv_aload_n hx hb dX5_bestPost_19 rfl (lv_at hl 0 rfl) ?_
      refine lv_aload_n hx hb dX5_bestPost_20 rfl (lv_at hl 1 rfl) ?_
      refine lv_iload hx hb dX5_bestPost_21 (lv_at hl 4 rfl) ?_
      obtain ⟨u23, hu23, hf⟩ := bd hf
      refine keepVI (ct_X5_greatestBut l E F a_o a_o_worth a_q1 a_q1_streets a_q1_names a_q1_extras a_q1_happenings a_q1_watchers a_q1_weeks a_q1_happenings_cells q1_wage q1_delay q1_odds q1_clock q1_hasWeeks q1_happenings_many q1_happenings_cells st7.2.2 u23 hu23) [0, 1, 3, 4] cal_X5_greatestBut cav_X5_greatestBut lk_X5_49 cx hP hD hS hl dX5_bestPost_23 rfl rfl rfl rfl (Nat.le_of_ble_eq_true rfl) ⟨Nat.le_of_ble_eq_true rfl, Nat.le_of_ble_eq_true rfl⟩ rfl (by decide) (fun H locs hP hS => ?_)
      refine lv_istore (lv' := [(5, .int u23), (0, .ref a_o), (1, .ref a_q1), (2, .int st7.1), (3, .int st7.2.1), (4, .int st7.2.2)]) hx hb dX5_bestPost_26 hl (by decide) rfl (fun ls hl => ?_)
      refine lv_iload_n hx hb dX5_bestPost_28 rfl (lv_at hl 3 rfl) ?_
      refine lv_iconst (v := (-1)) hx hb dX5_bestPost_29 (by decide) ?_
      refine lv_icmp_eq (tgt := 39) hx hb dX5_bestPost_30 (by decide) (fun hc => ?_) (fun hc => ?_)
      · have hf := it_t hc hf
        exact hj39 _ _ _ _ _ hf hP hD hS (lv_sub hl [1, 2, 5, 0] rfl)
      · have hf := it_f hc hf
        refine lv_iload hx hb dX5_bestPost_33 (lv_at hl 0 rfl) ?_
        refine lv_iload_n hx hb dX5_bestPost_35 rfl (lv_at hl 4 rfl) ?_
        refine lv_icmp_ge (tgt := 45) hx hb dX5_bestPost_36 (by decide) (fun hc => ?_) (fun hc => ?_)
        · have hf := it_t hc hf
          exact hj45 _ _ _ _ _ _ hf hP hD hS (lv_sub hl [1, 2, 3, 4, 5] rfl)
        · have hf := it_f hc hf
          exact hj39 _ _ _ _ _ hf hP hD hS (lv_sub hl [1, 2, 5, 0] rfl)
  · refine fun H locs ls hP hD hS hl => ?_
    refine lv_iload_n hx hb dX5_bestPost_51 rfl (lv_at hl 0 rfl) ?_
    obtain rfl := Option.some.inj hf
    subst hq
    exact retI cx hP hD hS dX5_bestPost_52
def X5_forget_b2 (F : Nat) (st2 : Int32 × (Nat → Int32)) : Option ((Int32 × (Nat → Int32)) ⊕ (((Nat → Int32)))) :=
  if (4096 : Int32) ≤ st2.1 then
  some (.inr st2.2)
  else
  if ix st2.1 4096 then
  some (.inl ((st2.1 + 1), (jput st2.2 st2.1 (-1))))
  else none
def X5_forget (F : Nat) (o_worth : Nat → Int32) : Option ((Nat → Int32)) :=
  (iter (X5_forget_b2 F) F (0, o_worth)).bind (fun (e2 : (Nat → Int32)) =>
    some e2)
abbrev wd_X5_forget (E : vE) (a_o a_o_worth : Nat) (o_worth : Nat → Int32) : va_W := [(a_o, .inr (5, [.ref a_o_worth])), (a_o_worth, .inl (E.2.1, 4096, .inl o_worth))]
set_option maxHeartbeats 4000000 in
set_option maxRecDepth 100000 in
theorem ct_X5_forget (l : Launch) (E : vE) (F : Nat) (a_o a_o_worth : Nat) (o_worth : Nat → Int32) (u : (Nat → Int32)) (hf : X5_forget F o_worth = some u) :
    CtV l yX5_forget cX5_forget 2 none 0 E [.ref a_o] (wd_X5_forget E a_o a_o_worth o_worth) (wd_X5_forget E a_o a_o_worth u) := by
  refine ctV (by decide) (Nat.le_of_ble_eq_true rfl) ?_
  intro p e s m below meth cd A ls aa QQ hq cx hP hD hS hl
  obtain ⟨⟨hx, hb, hml, hown, hts⟩, hr, hlocks, hK, hA, hX⟩ := id cx
  have hl : lv_has ls 2 [(0, .ref a_o)] := hl
  unfold X5_forget at hf
  refine lv_iconst (v := 0) hx hb dX5_forget_0 (by decide) ?_
  refine lv_istore_n (lv' := [(1, .int 0), (0, .ref a_o)]) hx hb dX5_forget_1 rfl hl (by decide) rfl (fun ls hl => ?_)
  obtain ⟨e2, hit2, hf⟩ := bd hf
  refine iter_W (b := X5_forget_b2 F) (P := fun st2 => ∀ (H : Heap) (locs : List Loc) (ls : Array Slot), va_P E.1 vwCl (wd_X5_forget E a_o a_o_worth st2.2) H → va_D A (wd_X5_forget E a_o a_o_worth st2.2) → va_S A s.heap H locs → lv_has ls 2 [(0, .ref a_o), (1, .int st2.1)] → W p l e (rmd 0) s m aa below meth cd H locs 0 0 QQ (F0 m 2 ls [])) (G := (fun (e2 : (Nat → Int32)) => ∀ (H : Heap) (locs : List Loc) (ls : Array Slot), va_P E.1 vwCl (wd_X5_forget E a_o a_o_worth e2) H → va_D A (wd_X5_forget E a_o a_o_worth e2) → va_S A s.heap H locs → lv_has ls 2 [] → W p l e (rmd 0) s m aa below meth cd H locs 0 0 QQ (F0 m 24 ls []))) ?_ F (0, o_worth) e2 hit2 ?_ _ _ _ hP hD hS (lv_sub hl [1, 0] rfl)
  · intro st2 r2 hf hk2 he2 H locs ls hP hD hS hl
    unfold X5_forget_b2 at hf
    refine lv_iload_n hx hb dX5_forget_2 rfl (lv_at hl 1 rfl) ?_
    refine lv_aload_n hx hb dX5_forget_3 rfl (lv_at hl 0 rfl) ?_
    refine va_get (D := E.1) (ci := 5) (v := .ref a_o_worth) (C := RX5) (T := TX5) (N := 1) hx hb hts inX5 hown hK hP 0 rfl rfl 0 (by decide) (hts _ fl_X5_13) (fun _ h9 => h9) rfl dX5_forget_4 ?_
    refine va_alen (v := 4096) hx hb hK hP 1 0 rfl rfl (show Int32.ofNat 4096 = 4096 from by decide) dX5_forget_7 ?_
    refine lv_icmp_ge (tgt := 24) hx hb dX5_forget_8 (by decide) (fun hc => ?_) (fun hc => ?_)
    · have hf := it_t hc hf
      exact he2 _ (Option.some.inj hf).symm _ _ _ hP hD hS (lv_sub hl [] rfl)
    · have hf := it_f hc hf
      refine lv_aload_n hx hb dX5_forget_11 rfl (lv_at hl 0 rfl) ?_
      refine va_get (D := E.1) (ci := 5) (v := .ref a_o_worth) (C := RX5) (T := TX5) (N := 1) hx hb hts inX5 hown hK hP 0 rfl rfl 0 (by decide) (hts _ fl_X5_13) (fun _ h9 => h9) rfl dX5_forget_12 ?_
      refine lv_iload_n hx hb dX5_forget_15 rfl (lv_at hl 1 rfl) ?_
      refine lv_iconst (v := (-1)) hx hb dX5_forget_16 (by decide) ?_
      obtain ⟨hi, hf⟩ := ck hf
      refine r_iast 1 cx hP hD hS rfl hi dX5_forget_17 (fun H locs hP hD hS => ?_)
      have hP : va_P E.1 vwCl (wd_X5_forget E a_o a_o_worth (jput st2.2 st2.1 (-1))) H := hP
      have hD : va_D A (wd_X5_forget E a_o a_o_worth (jput st2.2 st2.1 (-1))) := hD
      refine lv_iinc (v := (st2.1 + 1)) (lv' := [(1, .int (st2.1 + 1)), (0, .ref a_o)]) hx hb dX5_forget_18 hl (k := 1) rfl rfl (by decide) rfl (fun ls hl => ?_)
      refine lv_goto (tgt := 2) hx hb dX5_forget_21 (by decide) ?_
      exact hk2 _ (Option.some.inj hf).symm _ _ _ hP hD hS (lv_sub hl [1, 0] rfl)
  · refine fun H locs ls hP hD hS hl => ?_
    obtain rfl := Option.some.inj hf
    subst hq
    exact retV cx hP hD hS dX5_forget_24
def X5_canMove_j17 (q0_streets_takes : Nat → Int32) : Option (Int32) :=
  some 1
def X5_canMove (q0_streets_takes : Nat → Int32) (v1 : Int32) (v2 : Int32) : Option (Int32) :=
  if v1 = v2 then
  X5_canMove_j17 q0_streets_takes
  else
  (X6_takesBetween q0_streets_takes v1 v2).bind fun u11 =>
  if u11 ≤ 0 then
  some 0
  else
  X5_canMove_j17 q0_streets_takes
abbrev wd_X5_canMove (E : vE) (a_q0 a_q0_streets a_q0_names a_q0_extras a_q0_happenings a_q0_watchers a_q0_weeks a_q0_streets_roads a_q0_streets_takes a_q0_streets_hours : Nat) (q0_wage : Int32) (q0_delay : Int32) (q0_odds : Int32) (q0_clock : Int32) (q0_hasWeeks : Int32) (q0_streets_corners : Int32) (q0_streets_takes : Nat → Int32) : va_W := [(a_q0, .inr (0, [.int q0_wage, .int q0_delay, .int q0_odds, .int q0_clock, .int q0_hasWeeks, .ref a_q0_streets, .ref a_q0_names, .ref a_q0_extras, .ref a_q0_happenings, .ref a_q0_watchers, .ref a_q0_weeks])), (a_q0_streets, .inr (6, [.int q0_streets_corners, .ref a_q0_streets_roads, .ref a_q0_streets_takes, .ref a_q0_streets_hours])), (a_q0_streets_takes, .inl (E.2.1, 64, .inl q0_streets_takes))]
set_option maxHeartbeats 4000000 in
set_option maxRecDepth 100000 in
theorem ct_X5_canMove (l : Launch) (E : vE) (a_q0 a_q0_streets a_q0_names a_q0_extras a_q0_happenings a_q0_watchers a_q0_weeks a_q0_streets_roads a_q0_streets_takes a_q0_streets_hours : Nat) (q0_wage : Int32) (q0_delay : Int32) (q0_odds : Int32) (q0_clock : Int32) (q0_hasWeeks : Int32) (q0_streets_corners : Int32) (q0_streets_takes : Nat → Int32) (v1 : Int32) (v2 : Int32) (u : Int32) (hf : X5_canMove q0_streets_takes v1 v2 = some u) :
    CtI l yX5_canMove cX5_canMove 3 (some .boolean) 2 E [.ref a_q0, .int v1, .int v2] (wd_X5_canMove E a_q0 a_q0_streets a_q0_names a_q0_extras a_q0_happenings a_q0_watchers a_q0_weeks a_q0_streets_roads a_q0_streets_takes a_q0_streets_hours q0_wage q0_delay q0_odds q0_clock q0_hasWeeks q0_streets_corners q0_streets_takes) (wd_X5_canMove E a_q0 a_q0_streets a_q0_names a_q0_extras a_q0_happenings a_q0_watchers a_q0_weeks a_q0_streets_roads a_q0_streets_takes a_q0_streets_hours q0_wage q0_delay q0_odds q0_clock q0_hasWeeks q0_streets_corners q0_streets_takes) u := by
  refine ctI (by decide) (Nat.le_of_ble_eq_true rfl) ?_
  intro p e s m below meth cd A ls aa QQ hq cx hP hD hS hl
  obtain ⟨⟨hx, hb, hml, hown, hts⟩, hr, hlocks, hK, hA, hX⟩ := id cx
  have hl : lv_has ls 3 [(0, .ref a_q0), (1, .int v1), (2, .int v2)] := hl
  have hj17 : ∀ (H : Heap) (locs : List Loc) (ls : Array Slot), X5_canMove_j17 q0_streets_takes = some u → va_P E.1 vwCl (wd_X5_canMove E a_q0 a_q0_streets a_q0_names a_q0_extras a_q0_happenings a_q0_watchers a_q0_weeks a_q0_streets_roads a_q0_streets_takes a_q0_streets_hours q0_wage q0_delay q0_odds q0_clock q0_hasWeeks q0_streets_corners q0_streets_takes) H → va_D A (wd_X5_canMove E a_q0 a_q0_streets a_q0_names a_q0_extras a_q0_happenings a_q0_watchers a_q0_weeks a_q0_streets_roads a_q0_streets_takes a_q0_streets_hours q0_wage q0_delay q0_odds q0_clock q0_hasWeeks q0_streets_corners q0_streets_takes) → va_S A s.heap H locs → lv_has ls 3 [] → W p l e (rmd 2) s m aa below meth cd H locs 0 0 QQ (F0 m 17 ls []) := by
    intro H locs ls hf hP hD hS hl
    unfold X5_canMove_j17 at hf
    refine lv_iconst (v := 1) hx hb dX5_canMove_17 (by decide) ?_
    refine lv_goto (tgt := 22) hx hb dX5_canMove_18 (by decide) ?_
    obtain rfl := Option.some.inj hf
    subst hq
    exact retZ cx rfl hP hD hS dX5_canMove_22
  unfold X5_canMove at hf
  refine lv_iload_n hx hb dX5_canMove_0 rfl (lv_at hl 1 rfl) ?_
  refine lv_iload_n hx hb dX5_canMove_1 rfl (lv_at hl 2 rfl) ?_
  refine lv_icmp_eq (tgt := 17) hx hb dX5_canMove_2 (by decide) (fun hc => ?_) (fun hc => ?_)
  · have hf := it_t hc hf
    exact hj17  _ _ _ hf hP hD hS (lv_sub hl [] rfl)
  · have hf := it_f hc hf
    refine lv_aload_n hx hb dX5_canMove_5 rfl (lv_at hl 0 rfl) ?_
    refine va_get (D := E.1) (ci := 0) (v := .ref a_q0_streets) (C := RX0) (T := TX0) (N := 11) hx hb hts inX0 hown hK hP 0 rfl rfl 5 (by decide) (hts _ fl_X5_42) (fun _ h9 => h9) rfl dX5_canMove_6 ?_
    refine lv_iload_n hx hb dX5_canMove_9 rfl (lv_at hl 1 rfl) ?_
    refine lv_iload_n hx hb dX5_canMove_10 rfl (lv_at hl 2 rfl) ?_
    obtain ⟨u11, hu11, hf⟩ := bd hf
    refine keepVI (ct_X6_takesBetween l E a_q0_streets a_q0_streets_roads a_q0_streets_takes a_q0_streets_hours q0_streets_corners q0_streets_takes v1 v2 u11 hu11) [1, 2] cal_X6_takesBetween cav_X6_takesBetween lk_X5_67 cx hP hD hS hl dX5_canMove_11 rfl rfl rfl rfl (Nat.le_of_ble_eq_true rfl) ⟨Nat.le_of_ble_eq_true rfl, Nat.le_of_ble_eq_true rfl⟩ rfl (by decide) (fun H locs hP hS => ?_)
    refine lv_if_le (tgt := 21) hx hb dX5_canMove_14 (by decide) (fun hc => ?_) (fun hc => ?_)
    · have hf := it_t hc hf
      refine lv_iconst (v := 0) hx hb dX5_canMove_21 (by decide) ?_
      obtain rfl := Option.some.inj hf
      subst hq
      exact retZ cx rfl hP hD hS dX5_canMove_22
    · have hf := it_f hc hf
      exact hj17  _ _ _ hf hP hD hS (lv_sub hl [] rfl)
abbrev wd_X5_leastWorth (E : vE) (a_o a_o_worth a_q1 a_q1_streets a_q1_names a_q1_extras a_q1_happenings a_q1_watchers a_q1_weeks a_q1_streets_roads a_q1_streets_takes a_q1_streets_hours a_q1_happenings_cells : Nat) (o_worth : Nat → Int32) (q1_wage : Int32) (q1_delay : Int32) (q1_odds : Int32) (q1_clock : Int32) (q1_hasWeeks : Int32) (q1_streets_corners : Int32) (q1_streets_takes : Nat → Int32) (q1_happenings_many : Int32) (q1_happenings_cells : Nat → Int32) : va_W := [(a_o, .inr (5, [.ref a_o_worth])), (a_o_worth, .inl (E.2.1, 4096, .inl o_worth)), (a_q1, .inr (0, [.int q1_wage, .int q1_delay, .int q1_odds, .int q1_clock, .int q1_hasWeeks, .ref a_q1_streets, .ref a_q1_names, .ref a_q1_extras, .ref a_q1_happenings, .ref a_q1_watchers, .ref a_q1_weeks])), (a_q1_streets, .inr (6, [.int q1_streets_corners, .ref a_q1_streets_roads, .ref a_q1_streets_takes, .ref a_q1_streets_hours])), (a_q1_streets_takes, .inl (E.2.1, 64, .inl q1_streets_takes)), (a_q1_happenings, .inr (7, [.int 5, .ref a_q1_happenings_cells, .int q1_happenings_many])), (a_q1_happenings_cells, .inl (E.2.1, 40, .inl q1_happenings_cells))]
abbrev wd_X5_mostWorth (E : vE) (a_o a_o_worth a_q1 a_q1_streets a_q1_names a_q1_extras a_q1_happenings a_q1_watchers a_q1_weeks a_q1_streets_roads a_q1_streets_takes a_q1_streets_hours a_q1_happenings_cells : Nat) (o_worth : Nat → Int32) (q1_wage : Int32) (q1_delay : Int32) (q1_odds : Int32) (q1_clock : Int32) (q1_hasWeeks : Int32) (q1_streets_corners : Int32) (q1_streets_takes : Nat → Int32) (q1_happenings_many : Int32) (q1_happenings_cells : Nat → Int32) : va_W := [(a_o, .inr (5, [.ref a_o_worth])), (a_o_worth, .inl (E.2.1, 4096, .inl o_worth)), (a_q1, .inr (0, [.int q1_wage, .int q1_delay, .int q1_odds, .int q1_clock, .int q1_hasWeeks, .ref a_q1_streets, .ref a_q1_names, .ref a_q1_extras, .ref a_q1_happenings, .ref a_q1_watchers, .ref a_q1_weeks])), (a_q1_streets, .inr (6, [.int q1_streets_corners, .ref a_q1_streets_roads, .ref a_q1_streets_takes, .ref a_q1_streets_hours])), (a_q1_streets_takes, .inl (E.2.1, 64, .inl q1_streets_takes)), (a_q1_happenings, .inr (7, [.int 5, .ref a_q1_happenings_cells, .int q1_happenings_many])), (a_q1_happenings_cells, .inl (E.2.1, 40, .inl q1_happenings_cells))]
def X5_leastWorth_s_j135 (g : (Nat → Int32) → Int32 → (Nat → Int32) → Int32 → (Nat → Int32) → Int32 → Int32 → Int32 → Option (Int32 × (Nat → Int32))) (F : Nat) (o_worth : Nat → Int32) (q1_streets_corners : Int32) (q1_streets_takes : Nat → Int32) (q1_happenings_many : Int32) (q1_happenings_cells : Nat → Int32) (v2 : Int32) (v3 : Int32) (v4 : Int32) (v5 : Int32) (v6 : Int32) (v7 : Int32) (v8 : Int32) : Option ((Int32 × Int32 × (Nat → Int32)) ⊕ ((Int32 × (Nat → Int32)))) :=
  some (.inl (v7, (v8 + 1), o_worth))
def X5_leastWorth_s_j133 (g : (Nat → Int32) → Int32 → (Nat → Int32) → Int32 → (Nat → Int32) → Int32 → Int32 → Int32 → Option (Int32 × (Nat → Int32))) (F : Nat) (o_worth : Nat → Int32) (q1_streets_corners : Int32) (q1_streets_takes : Nat → Int32) (q1_happenings_many : Int32) (q1_happenings_cells : Nat → Int32) (v2 : Int32) (v3 : Int32) (v4 : Int32) (v5 : Int32) (v6 : Int32) (v8 : Int32) (k0 : Int32) : Option ((Int32 × Int32 × (Nat → Int32)) ⊕ ((Int32 × (Nat → Int32)))) :=
  X5_leastWorth_s_j135 g F o_worth q1_streets_corners q1_streets_takes q1_happenings_many q1_happenings_cells v2 v3 v4 v5 v6 k0 v8
def X5_leastWorth_s_b81 (g : (Nat → Int32) → Int32 → (Nat → Int32) → Int32 → (Nat → Int32) → Int32 → Int32 → Int32 → Option (Int32 × (Nat → Int32))) (F : Nat) (q1_streets_corners : Int32) (q1_streets_takes : Nat → Int32) (q1_happenings_many : Int32) (q1_happenings_cells : Nat → Int32) (v2 : Int32) (v3 : Int32) (v4 : Int32) (v5 : Int32) (v6 : Int32) (st81 : Int32 × Int32 × (Nat → Int32)) : Option ((Int32 × Int32 × (Nat → Int32)) ⊕ ((Int32 × (Nat → Int32)))) :=
  if q1_streets_corners ≤ st81.2.1 then
  some (.inr (st81.1, st81.2.2))
  else
  (X5_canMove q1_streets_takes v2 st81.2.1).bind fun u97 =>
  if u97 = 0 then
  X5_leastWorth_s_j135 g F st81.2.2 q1_streets_corners q1_streets_takes q1_happenings_many q1_happenings_cells v2 v3 v4 v5 v6 st81.1 st81.2.1
  else
  (g st81.2.2 q1_streets_corners q1_streets_takes q1_happenings_many q1_happenings_cells st81.2.1 v3 v4).bind fun u110 =>
  if st81.1 = (-1) then
  X5_leastWorth_s_j133 g F u110.2 q1_streets_corners q1_streets_takes q1_happenings_many q1_happenings_cells v2 v3 v4 v5 v6 st81.2.1 u110.1
  else
  X5_leastWorth_s_j133 g F u110.2 q1_streets_corners q1_streets_takes q1_happenings_many q1_happenings_cells v2 v3 v4 v5 v6 st81.2.1 (jmin st81.1 u110.1)
def X5_leastWorth_s_j75 (g : (Nat → Int32) → Int32 → (Nat → Int32) → Int32 → (Nat → Int32) → Int32 → Int32 → Int32 → Option (Int32 × (Nat → Int32))) (F : Nat) (o_worth : Nat → Int32) (q1_streets_corners : Int32) (q1_streets_takes : Nat → Int32) (q1_happenings_many : Int32) (q1_happenings_cells : Nat → Int32) (v2 : Int32) (v3 : Int32) (v4 : Int32) (v5 : Int32) (v6 : Int32) : Option (Int32 × (Nat → Int32)) :=
  (iter (X5_leastWorth_s_b81 g F q1_streets_corners q1_streets_takes q1_happenings_many q1_happenings_cells v2 v3 v4 v5 v6) F ((-1), 0, o_worth)).bind (fun (e81 : Int32 × (Nat → Int32)) =>
    if v6 = 0 then
  some (e81.1, e81.2)
  else
  if ix v5 4096 then
  some (e81.1, (jput e81.2 v5 e81.1))
  else none)
def X5_leastWorth_s_j49 (g : (Nat → Int32) → Int32 → (Nat → Int32) → Int32 → (Nat → Int32) → Int32 → Int32 → Int32 → Option (Int32 × (Nat → Int32))) (F : Nat) (o_worth : Nat → Int32) (q1_streets_corners : Int32) (q1_streets_takes : Nat → Int32) (q1_happenings_many : Int32) (q1_happenings_cells : Nat → Int32) (v2 : Int32) (v3 : Int32) (v4 : Int32) (v5 : Int32) (k0 : Int32) : Option (Int32 × (Nat → Int32)) :=
  if k0 = 0 then
  X5_leastWorth_s_j75 g F o_worth q1_streets_corners q1_streets_takes q1_happenings_many q1_happenings_cells v2 v3 v4 v5 k0
  else
  if ix v5 4096 then
  if (jat o_worth v5) = (-1) then
  X5_leastWorth_s_j75 g F o_worth q1_streets_corners q1_streets_takes q1_happenings_many q1_happenings_cells v2 v3 v4 v5 k0
  else
  if ix v5 4096 then
  some ((jat o_worth v5), o_worth)
  else none
  else none
def X5_leastWorth_s_j48 (g : (Nat → Int32) → Int32 → (Nat → Int32) → Int32 → (Nat → Int32) → Int32 → Int32 → Int32 → Option (Int32 × (Nat → Int32))) (F : Nat) (o_worth : Nat → Int32) (q1_streets_corners : Int32) (q1_streets_takes : Nat → Int32) (q1_happenings_many : Int32) (q1_happenings_cells : Nat → Int32) (v2 : Int32) (v3 : Int32) (v4 : Int32) (v5 : Int32) : Option (Int32 × (Nat → Int32)) :=
  X5_leastWorth_s_j49 g F o_worth q1_streets_corners q1_streets_takes q1_happenings_many q1_happenings_cells v2 v3 v4 v5 0
def X5_leastWorth_s (g : (Nat → Int32) → Int32 → (Nat → Int32) → Int32 → (Nat → Int32) → Int32 → Int32 → Int32 → Option (Int32 × (Nat → Int32))) (F : Nat) (o_worth : Nat → Int32) (q1_streets_corners : Int32) (q1_streets_takes : Nat → Int32) (q1_happenings_many : Int32) (q1_happenings_cells : Nat → Int32) (v2 : Int32) (v3 : Int32) (v4 : Int32) : Option (Int32 × (Nat → Int32)) :=
  if v3 < 1 then
  some (0, o_worth)
  else
  if v3 ≤ 3 then
  if (((((v3 - 1) * 256) + v4) * 8) + v2) < 0 then
  X5_leastWorth_s_j48 g F o_worth q1_streets_corners q1_streets_takes q1_happenings_many q1_happenings_cells v2 v3 v4 (((((v3 - 1) * 256) + v4) * 8) + v2)
  else
  if (4096 : Int32) ≤ (((((v3 - 1) * 256) + v4) * 8) + v2) then
  X5_leastWorth_s_j48 g F o_worth q1_streets_corners q1_streets_takes q1_happenings_many q1_happenings_cells v2 v3 v4 (((((v3 - 1) * 256) + v4) * 8) + v2)
  else
  X5_leastWorth_s_j49 g F o_worth q1_streets_corners q1_streets_takes q1_happenings_many q1_happenings_cells v2 v3 v4 (((((v3 - 1) * 256) + v4) * 8) + v2) 1
  else
  some (0, o_worth)
set_option maxHeartbeats 4000000 in
set_option maxRecDepth 100000 in
theorem ct_X5_leastWorth_s (l : Launch) (E : vE) (F : Nat) (a_o a_o_worth a_q1 a_q1_streets a_q1_names a_q1_extras a_q1_happenings a_q1_watchers a_q1_weeks a_q1_streets_roads a_q1_streets_takes a_q1_streets_hours a_q1_happenings_cells : Nat) (g : (Nat → Int32) → Int32 → (Nat → Int32) → Int32 → (Nat → Int32) → Int32 → Int32 → Int32 → Option (Int32 × (Nat → Int32))) (dm : Nat) (hdm : 3 ≤ dm) (hg : ∀ (o_worth : Nat → Int32) (q1_wage : Int32) (q1_delay : Int32) (q1_odds : Int32) (q1_clock : Int32) (q1_hasWeeks : Int32) (q1_streets_corners : Int32) (q1_streets_takes : Nat → Int32) (q1_happenings_many : Int32) (q1_happenings_cells : Nat → Int32) (v2 : Int32) (v3 : Int32) (v4 : Int32) (u : Int32 × (Nat → Int32)), g o_worth q1_streets_corners q1_streets_takes q1_happenings_many q1_happenings_cells v2 v3 v4 = some u → CtI l yX5_mostWorth cX5_mostWorth 9 (some .int) dm E [.ref a_o, .ref a_q1, .int v2, .int v3, .int v4] (wd_X5_mostWorth E a_o a_o_worth a_q1 a_q1_streets a_q1_names a_q1_extras a_q1_happenings a_q1_watchers a_q1_weeks a_q1_streets_roads a_q1_streets_takes a_q1_streets_hours a_q1_happenings_cells o_worth q1_wage q1_delay q1_odds q1_clock q1_hasWeeks q1_streets_corners q1_streets_takes q1_happenings_many q1_happenings_cells) (wd_X5_mostWorth E a_o a_o_worth a_q1 a_q1_streets a_q1_names a_q1_extras a_q1_happenings a_q1_watchers a_q1_weeks a_q1_streets_roads a_q1_streets_takes a_q1_streets_hours a_q1_happenings_cells u.2 q1_wage q1_delay q1_odds q1_clock q1_hasWeeks q1_streets_corners q1_streets_takes q1_happenings_many q1_happenings_cells) u.1) (o_worth : Nat → Int32) (q1_wage : Int32) (q1_delay : Int32) (q1_odds : Int32) (q1_clock : Int32) (q1_hasWeeks : Int32) (q1_streets_corners : Int32) (q1_streets_takes : Nat → Int32) (q1_happenings_many : Int32) (q1_happenings_cells : Nat → Int32) (v2 : Int32) (v3 : Int32) (v4 : Int32) (u : Int32 × (Nat → Int32)) (hf : X5_leastWorth_s g F o_worth q1_streets_corners q1_streets_takes q1_happenings_many q1_happenings_cells v2 v3 v4 = some u) :
    CtI l yX5_leastWorth cX5_leastWorth 10 (some .int) (dm + 1) E [.ref a_o, .ref a_q1, .int v2, .int v3, .int v4] (wd_X5_leastWorth E a_o a_o_worth a_q1 a_q1_streets a_q1_names a_q1_extras a_q1_happenings a_q1_watchers a_q1_weeks a_q1_streets_roads a_q1_streets_takes a_q1_streets_hours a_q1_happenings_cells o_worth q1_wage q1_delay q1_odds q1_clock q1_hasWeeks q1_streets_corners q1_streets_takes q1_happenings_many q1_happenings_cells) (wd_X5_leastWorth E a_o a_o_worth a_q1 a_q1_streets a_q1_names a_q1_extras a_q1_happenings a_q1_watchers a_q1_weeks a_q1_streets_roads a_q1_streets_takes a_q1_streets_hours a_q1_happenings_cells u.2 q1_wage q1_delay q1_odds q1_clock q1_hasWeeks q1_streets_corners q1_streets_takes q1_happenings_many q1_happenings_cells) u.1 := by
  refine ctI (by decide) (Nat.le_of_ble_eq_true rfl) ?_
  intro p e s m below meth cd A ls aa QQ hq cx hP hD hS hl
  obtain ⟨⟨hx, hb, hml, hown, hts⟩, hr, hlocks, hK, hA, hX⟩ := id cx
  have hl : lv_has ls 10 [(0, .ref a_o), (1, .ref a_q1), (2, .int v2), (3, .int v3), (4, .int v4)] := hl
  have hj75 : ∀ (v5_j75 : Int32) (v6_j75 : Int32) (o_worth_j75 : Nat → Int32) (H : Heap) (locs : List Loc) (ls : Array Slot), X5_leastWorth_s_j75 g F o_worth_j75 q1_streets_corners q1_streets_takes q1_happenings_many q1_happenings_cells v2 v3 v4 v5_j75 v6_j75 = some u → va_P E.1 vwCl (wd_X5_leastWorth E a_o a_o_worth a_q1 a_q1_streets a_q1_names a_q1_extras a_q1_happenings a_q1_watchers a_q1_weeks a_q1_streets_roads a_q1_streets_takes a_q1_streets_hours a_q1_happenings_cells o_worth_j75 q1_wage q1_delay q1_odds q1_clock q1_hasWeeks q1_streets_corners q1_streets_takes q1_happenings_many q1_happenings_cells) H → va_D A (wd_X5_leastWorth E a_o a_o_worth a_q1 a_q1_streets a_q1_names a_q1_extras a_q1_happenings a_q1_watchers a_q1_weeks a_q1_streets_roads a_q1_streets_takes a_q1_streets_hours a_q1_happenings_cells o_worth_j75 q1_wage q1_delay q1_odds q1_clock q1_hasWeeks q1_streets_corners q1_streets_takes q1_happenings_many q1_happenings_cells) → va_S A s.heap H locs → lv_has ls 10 [(0, .ref a_o), (1, .ref a_q1), (2, .int v2), (3, .int v3), (4, .int v4), (5, .int v5_j75), (6, .int v6_j75)] → W p l e (rmd (dm + 1)) s m aa below meth cd H locs 0 0 QQ (F0 m 75 ls []) := by
    intro v5_j75 v6_j75 o_worth_j75 H locs ls hf hP hD hS hl
    unfold X5_leastWorth_s_j75 at hf
    refine lv_iconst (v := (-1)) hx hb dX5_leastWorth_75 (by decide) ?_
    refine lv_istore (lv' := [(7, .int (-1)), (0, .ref a_o), (1, .ref a_q1), (2, .int v2), (3, .int v3), (4, .int v4), (5, .int v5_j75), (6, .int v6_j75)]) hx hb dX5_leastWorth_76 hl (by decide) rfl (fun ls hl => ?_)
    refine lv_iconst (v := 0) hx hb dX5_leastWorth_78 (by decide) ?_
    refine lv_istore (lv' := [(8, .int 0), (7, .int (-1)), (0, .ref a_o), (1, .ref a_q1), (2, .int v2), (3, .int v3), (4, .int v4), (5, .int v5_j75), (6, .int v6_j75)]) hx hb dX5_leastWorth_79 hl (by decide) rfl (fun ls hl => ?_)
    obtain ⟨e81, hit81, hf⟩ := bd hf
    refine iter_W (b := X5_leastWorth_s_b81 g F q1_streets_corners q1_streets_takes q1_happenings_many q1_happenings_cells v2 v3 v4 v5_j75 v6_j75) (P := fun st81 => ∀ (H : Heap) (locs : List Loc) (ls : Array Slot), va_P E.1 vwCl (wd_X5_leastWorth E a_o a_o_worth a_q1 a_q1_streets a_q1_names a_q1_extras a_q1_happenings a_q1_watchers a_q1_weeks a_q1_streets_roads a_q1_streets_takes a_q1_streets_hours a_q1_happenings_cells st81.2.2 q1_wage q1_delay q1_odds q1_clock q1_hasWeeks q1_streets_corners q1_streets_takes q1_happenings_many q1_happenings_cells) H → va_D A (wd_X5_leastWorth E a_o a_o_worth a_q1 a_q1_streets a_q1_names a_q1_extras a_q1_happenings a_q1_watchers a_q1_weeks a_q1_streets_roads a_q1_streets_takes a_q1_streets_hours a_q1_happenings_cells st81.2.2 q1_wage q1_delay q1_odds q1_clock q1_hasWeeks q1_streets_corners q1_streets_takes q1_happenings_many q1_happenings_cells) → va_S A s.heap H locs → lv_has ls 10 [(0, .ref a_o), (1, .ref a_q1), (2, .int v2), (3, .int v3), (4, .int v4), (5, .int v5_j75), (6, .int v6_j75), (7, .int st81.1), (8, .int st81.2.1)] → W p l e (rmd (dm + 1)) s m aa below meth cd H locs 0 0 QQ (F0 m 81 ls [])) (G := (fun (e81 : Int32 × (Nat → Int32)) => ∀ (H : Heap) (locs : List Loc) (ls : Array Slot), va_P E.1 vwCl (wd_X5_leastWorth E a_o a_o_worth a_q1 a_q1_streets a_q1_names a_q1_extras a_q1_happenings a_q1_watchers a_q1_weeks a_q1_streets_roads a_q1_streets_takes a_q1_streets_hours a_q1_happenings_cells e81.2 q1_wage q1_delay q1_odds q1_clock q1_hasWeeks q1_streets_corners q1_streets_takes q1_happenings_many q1_happenings_cells) H → va_D A (wd_X5_leastWorth E a_o a_o_worth a_q1 a_q1_streets a_q1_names a_q1_extras a_q1_happenings a_q1_watchers a_q1_weeks a_q1_streets_roads a_q1_streets_takes a_q1_streets_hours a_q1_happenings_cells e81.2 q1_wage q1_delay q1_odds q1_clock q1_hasWeeks q1_streets_corners q1_streets_takes q1_happenings_many q1_happenings_cells) → va_S A s.heap H locs → lv_has ls 10 [(0, .ref a_o), (5, .int v5_j75), (6, .int v6_j75), (7, .int e81.1)] → W p l e (rmd (dm + 1)) s m aa below meth cd H locs 0 0 QQ (F0 m 141 ls []))) ?_ F ((-1), 0, o_worth_j75) e81 hit81 ?_ _ _ _ hP hD hS (lv_sub hl [2, 3, 4, 5, 6, 7, 8, 1, 0] rfl)
    · intro st81 r81 hf hk81 he81 H locs ls hP hD hS hl
      have hj135 : ∀ (v7_j135 : Int32) (v8_j135 : Int32) (o_worth_j135 : Nat → Int32) (H : Heap) (locs : List Loc) (ls : Array Slot), X5_leastWorth_s_j135 g F o_worth_j135 q1_streets_corners q1_streets_takes q1_happenings_many q1_happenings_cells v2 v3 v4 v5_j75 v6_j75 v7_j135 v8_j135 = some r81 → va_P E.1 vwCl (wd_X5_leastWorth E a_o a_o_worth a_q1 a_q1_streets a_q1_names a_q1_extras a_q1_happenings a_q1_watchers a_q1_weeks a_q1_streets_roads a_q1_streets_takes a_q1_streets_hours a_q1_happenings_cells o_worth_j135 q1_wage q1_delay q1_odds q1_clock q1_hasWeeks q1_streets_corners q1_streets_takes q1_happenings_many q1_happenings_cells) H → va_D A (wd_X5_leastWorth E a_o a_o_worth a_q1 a_q1_streets a_q1_names a_q1_extras a_q1_happenings a_q1_watchers a_q1_weeks a_q1_streets_roads a_q1_streets_takes a_q1_streets_hours a_q1_happenings_cells o_worth_j135 q1_wage q1_delay q1_odds q1_clock q1_hasWeeks q1_streets_corners q1_streets_takes q1_happenings_many q1_happenings_cells) → va_S A s.heap H locs → lv_has ls 10 [(0, .ref a_o), (1, .ref a_q1), (2, .int v2), (3, .int v3), (4, .int v4), (5, .int v5_j75), (6, .int v6_j75), (7, .int v7_j135), (8, .int v8_j135)] → W p l e (rmd (dm + 1)) s m aa below meth cd H locs 0 0 QQ (F0 m 135 ls []) := by
        intro v7_j135 v8_j135 o_worth_j135 H locs ls hf hP hD hS hl
        unfold X5_leastWorth_s_j135 at hf
        refine lv_iinc (v := (v8_j135 + 1)) (lv' := [(8, .int (v8_j135 + 1)), (0, .ref a_o), (1, .ref a_q1), (2, .int v2), (3, .int v3), (4, .int v4), (5, .int v5_j75), (6, .int v6_j75), (7, .int v7_j135)]) hx hb dX5_leastWorth_135 hl (k := 8) rfl rfl (by decide) rfl (fun ls hl => ?_)
        refine lv_goto (tgt := 81) hx hb dX5_leastWorth_138 (by decide) ?_
        exact hk81 _ (Option.some.inj hf).symm _ _ _ hP hD hS (lv_sub hl [1, 2, 3, 4, 5, 6, 7, 8, 0] rfl)
      have hj133 : ∀ (v8_j133 : Int32) (o_worth_j133 : Nat → Int32) (k0_j133 : Int32) (H : Heap) (locs : List Loc) (ls : Array Slot), X5_leastWorth_s_j133 g F o_worth_j133 q1_streets_corners q1_streets_takes q1_happenings_many q1_happenings_cells v2 v3 v4 v5_j75 v6_j75 v8_j133 k0_j133 = some r81 → va_P E.1 vwCl (wd_X5_leastWorth E a_o a_o_worth a_q1 a_q1_streets a_q1_names a_q1_extras a_q1_happenings a_q1_watchers a_q1_weeks a_q1_streets_roads a_q1_streets_takes a_q1_streets_hours a_q1_happenings_cells o_worth_j133 q1_wage q1_delay q1_odds q1_clock q1_hasWeeks q1_streets_corners q1_streets_takes q1_happenings_many q1_happenings_cells) H → va_D A (wd_X5_leastWorth E a_o a_o_worth a_q1 a_q1_streets a_q1_names a_q1_extras a_q1_happenings a_q1_watchers a_q1_weeks a_q1_streets_roads a_q1_streets_takes a_q1_streets_hours a_q1_happenings_cells o_worth_j133 q1_wage q1_delay q1_odds q1_clock q1_hasWeeks q1_streets_corners q1_streets_takes q1_happenings_many q1_happenings_cells) → va_S A s.heap H locs → lv_has ls 10 [(0, .ref a_o), (1, .ref a_q1), (2, .int v2), (3, .int v3), (4, .int v4), (5, .int v5_j75), (6, .int v6_j75), (8, .int v8_j133)] → W p l e (rmd (dm + 1)) s m aa below meth cd H locs 0 0 QQ (F0 m 133 ls [.int k0_j133]) := by
        intro v8_j133 o_worth_j133 k0_j133 H locs ls hf hP hD hS hl
        unfold X5_leastWorth_s_j133 at hf
        refine lv_istore (lv' := [(7, .int k0_j133), (0, .ref a_o), (1, .ref a_q1), (2, .int v2), (3, .int v3), (4, .int v4), (5, .int v5_j75), (6, .int v6_j75), (8, .int v8_j133)]) hx hb dX5_leastWorth_133 hl (by decide) rfl (fun ls hl => ?_)
        exact hj135 _ _ _ _ _ _ hf hP hD hS (lv_sub hl [1, 2, 3, 4, 5, 6, 7, 0, 8] rfl)
      unfold X5_leastWorth_s_b81 at hf
      refine lv_iload hx hb dX5_leastWorth_81 (lv_at hl 8 rfl) ?_
      refine lv_aload_n hx hb dX5_leastWorth_83 rfl (lv_at hl 1 rfl) ?_
      refine va_get (D := E.1) (ci := 0) (v := .ref a_q1_streets) (C := RX0) (T := TX0) (N := 11) hx hb hts inX0 hown hK hP 2 rfl rfl 5 (by decide) (hts _ fl_X5_42) (fun _ h9 => h9) rfl dX5_leastWorth_84 ?_
      refine va_get (D := E.1) (ci := 6) (v := .int q1_streets_corners) (C := RX6) (T := TX6) (N := 4) hx hb hts inX6 hown hK hP 3 rfl rfl 0 (by decide) (hts _ fl_X5_46) (fun _ h9 => h9) rfl dX5_leastWorth_87 ?_
      refine lv_icmp_ge (tgt := 141) hx hb dX5_leastWorth_90 (by decide) (fun hc => ?_) (fun hc => ?_)
      · have hf := it_t hc hf
        exact he81 _ (Option.some.inj hf).symm _ _ _ hP hD hS (lv_sub hl [0, 5, 6, 7] rfl)
      · have hf := it_f hc hf
        refine lv_aload_n hx hb dX5_leastWorth_93 rfl (lv_at hl 1 rfl) ?_
        refine lv_iload_n hx hb dX5_leastWorth_94 rfl (lv_at hl 2 rfl) ?_
        refine lv_iload hx hb dX5_leastWorth_95 (lv_at hl 8 rfl) ?_
        obtain ⟨u97, hu97, hf⟩ := bd hf
        refine keepSI (ct_X5_canMove l E a_q1 a_q1_streets a_q1_names a_q1_extras a_q1_happenings a_q1_watchers a_q1_weeks a_q1_streets_roads a_q1_streets_takes a_q1_streets_hours q1_wage q1_delay q1_odds q1_clock q1_hasWeeks q1_streets_corners q1_streets_takes v2 st81.2.1 u97 hu97) [2, 3, 4] cal_X5_canMove sta_X5_canMove lk_X5_60 cx hP hD hS hl dX5_leastWorth_97 rfl rfl (Nat.le_of_ble_eq_true rfl) ⟨show 2 + 1 ≤ dm + 1 by omega, show 8 + (3 + 11) + 64 * 2 ≤ 64 * (dm + 1) by omega⟩ rfl (by decide) (fun H locs hP hS => ?_)
        refine lv_if_eq (tgt := 135) hx hb dX5_leastWorth_100 (by decide) (fun hc => ?_) (fun hc => ?_)
        · have hf := it_t hc hf
          exact hj135 _ _ _ _ _ _ hf hP hD hS (lv_sub hl [0, 1, 2, 3, 4, 5, 6, 7, 8] rfl)
        · have hf := it_f hc hf
          refine lv_aload_n hx hb dX5_leastWorth_103 rfl (lv_at hl 0 rfl) ?_
          refine lv_aload_n hx hb dX5_leastWorth_104 rfl (lv_at hl 1 rfl) ?_
          refine lv_iload hx hb dX5_leastWorth_105 (lv_at hl 8 rfl) ?_
          refine lv_iload_n hx hb dX5_leastWorth_107 rfl (lv_at hl 3 rfl) ?_
          refine lv_iload hx hb dX5_leastWorth_108 (lv_at hl 4 rfl) ?_
          obtain ⟨u110, hu110, hf⟩ := bd hf
          refine callVI (wn := (wd_X5_leastWorth E a_o a_o_worth a_q1 a_q1_streets a_q1_names a_q1_extras a_q1_happenings a_q1_watchers a_q1_weeks a_q1_streets_roads a_q1_streets_takes a_q1_streets_hours a_q1_happenings_cells u110.2 q1_wage q1_delay q1_odds q1_clock q1_hasWeeks q1_streets_corners q1_streets_takes q1_happenings_many q1_happenings_cells)) (n1 := 7) (hg st81.2.2 q1_wage q1_delay q1_odds q1_clock q1_hasWeeks q1_streets_corners q1_streets_takes q1_happenings_many q1_happenings_cells st81.2.1 v3 v4 u110 hu110) [0, 1, 2, 3, 4, 5, 6] cal_X5_mostWorth cav_X5_mostWorth lk_X5_64 cx hP hD hS hl dX5_leastWorth_110 rfl rfl rfl rfl (Nat.le_of_ble_eq_true rfl) ⟨show dm + 1 ≤ dm + 1 by omega, show 8 + (9 + 11) + 64 * dm ≤ 64 * (dm + 1) by omega⟩ rfl (by decide +kernel) rfl [some 0, some 1, some 2, some 3, some 4, some 5, some 6] rfl (by decide +kernel) rfl (fun H locs hP hD hS => ?_)
          refine lv_istore (lv' := [(9, .int u110.1), (0, .ref a_o), (1, .ref a_q1), (2, .int v2), (3, .int v3), (4, .int v4), (5, .int v5_j75), (6, .int v6_j75), (7, .int st81.1), (8, .int st81.2.1)]) hx hb dX5_leastWorth_113 hl (by decide) rfl (fun ls hl => ?_)
          refine lv_iload hx hb dX5_leastWorth_115 (lv_at hl 8 rfl) ?_
          refine lv_iconst (v := (-1)) hx hb dX5_leastWorth_117 (by decide) ?_
          refine lv_icmp_ne (tgt := 126) hx hb dX5_leastWorth_118 (by decide) (fun hc => ?_) (fun hc => ?_)
          · have hf := it_f hc hf
            refine lv_iload hx hb dX5_leastWorth_126 (lv_at hl 8 rfl) ?_
            refine lv_iload hx hb dX5_leastWorth_128 (lv_at hl 0 rfl) ?_
            refine r_mmin cx hl lk_X5_70 mt_min (show 1 ≤ dm + 1 by omega) (Nat.le_trans (m := 64) (Nat.le_of_ble_eq_true rfl) (show 64 ≤ 64 * (dm + 1) by omega)) dX5_leastWorth_130 ?_
            exact hj133 _ _ _ _ _ _ hf hP hD hS (lv_sub hl [1, 2, 3, 4, 5, 6, 7, 9] rfl)
          · have hf := it_t hc hf
            refine lv_iload hx hb dX5_leastWorth_121 (lv_at hl 0 rfl) ?_
            refine lv_goto (tgt := 133) hx hb dX5_leastWorth_123 (by decide) ?_
            exact hj133 _ _ _ _ _ _ hf hP hD hS (lv_sub hl [1, 2, 3, 4, 5, 6, 7, 9] rfl)
    · refine fun H locs ls hP hD hS hl => ?_
      refine lv_iload hx hb dX5_leastWorth_141 (lv_at hl 2 rfl) ?_
      refine lv_if_eq (tgt := 155) hx hb dX5_leastWorth_143 (by decide) (fun hc => ?_) (fun hc => ?_)
      · have hf := it_t hc hf
        refine lv_iload hx hb dX5_leastWorth_155 (lv_at hl 3 rfl) ?_
        obtain rfl := Option.some.inj hf
        subst hq
        exact retI cx hP hD hS dX5_leastWorth_157
      · have hf := it_f hc hf
        refine lv_aload_n hx hb dX5_leastWorth_146 rfl (lv_at hl 0 rfl) ?_
        refine va_get (D := E.1) (ci := 5) (v := .ref a_o_worth) (C := RX5) (T := TX5) (N := 1) hx hb hts inX5 hown hK hP 0 rfl rfl 0 (by decide) (hts _ fl_X5_13) (fun _ h9 => h9) rfl dX5_leastWorth_147 ?_
        refine lv_iload hx hb dX5_leastWorth_150 (lv_at hl 1 rfl) ?_
        refine lv_iload hx hb dX5_leastWorth_152 (lv_at hl 3 rfl) ?_
        obtain ⟨hi, hf⟩ := ck hf
        refine r_iast 1 cx hP hD hS rfl hi dX5_leastWorth_154 (fun H locs hP hD hS => ?_)
        have hP : va_P E.1 vwCl (wd_X5_leastWorth E a_o a_o_worth a_q1 a_q1_streets a_q1_names a_q1_extras a_q1_happenings a_q1_watchers a_q1_weeks a_q1_streets_roads a_q1_streets_takes a_q1_streets_hours a_q1_happenings_cells (jput e81.2 v5_j75 e81.1) q1_wage q1_delay q1_odds q1_clock q1_hasWeeks q1_streets_corners q1_streets_takes q1_happenings_many q1_happenings_cells) H := hP
        have hD : va_D A (wd_X5_leastWorth E a_o a_o_worth a_q1 a_q1_streets a_q1_names a_q1_extras a_q1_happenings a_q1_watchers a_q1_weeks a_q1_streets_roads a_q1_streets_takes a_q1_streets_hours a_q1_happenings_cells (jput e81.2 v5_j75 e81.1) q1_wage q1_delay q1_odds q1_clock q1_hasWeeks q1_streets_corners q1_streets_takes q1_happenings_many q1_happenings_cells) := hD
        refine lv_iload hx hb dX5_leastWorth_155 (lv_at hl 3 rfl) ?_
        obtain rfl := Option.some.inj hf
        subst hq
        exact retI cx hP hD hS dX5_leastWorth_157
  have hj49 : ∀ (v5_j49 : Int32) (o_worth_j49 : Nat → Int32) (k0_j49 : Int32) (H : Heap) (locs : List Loc) (ls : Array Slot), X5_leastWorth_s_j49 g F o_worth_j49 q1_streets_corners q1_streets_takes q1_happenings_many q1_happenings_cells v2 v3 v4 v5_j49 k0_j49 = some u → va_P E.1 vwCl (wd_X5_leastWorth E a_o a_o_worth a_q1 a_q1_streets a_q1_names a_q1_extras a_q1_happenings a_q1_watchers a_q1_weeks a_q1_streets_roads a_q1_streets_takes a_q1_streets_hours a_q1_happenings_cells o_worth_j49 q1_wage q1_delay q1_odds q1_clock q1_hasWeeks q1_streets_corners q1_streets_takes q1_happenings_many q1_happenings_cells) H → va_D A (wd_X5_leastWorth E a_o a_o_worth a_q1 a_q1_streets a_q1_names a_q1_extras a_q1_happenings a_q1_watchers a_q1_weeks a_q1_streets_roads a_q1_streets_takes a_q1_streets_hours a_q1_happenings_cells o_worth_j49 q1_wage q1_delay q1_odds q1_clock q1_hasWeeks q1_streets_corners q1_streets_takes q1_happenings_many q1_happenings_cells) → va_S A s.heap H locs → lv_has ls 10 [(0, .ref a_o), (1, .ref a_q1), (2, .int v2), (3, .int v3), (4, .int v4), (5, .int v5_j49)] → W p l e (rmd (dm + 1)) s m aa below meth cd H locs 0 0 QQ (F0 m 49 ls [.int k0_j49]) := by
    intro v5_j49 o_worth_j49 k0_j49 H locs ls hf hP hD hS hl
    unfold X5_leastWorth_s_j49 at hf
    refine lv_istore (lv' := [(6, .int k0_j49), (0, .ref a_o), (1, .ref a_q1), (2, .int v2), (3, .int v3), (4, .int v4), (5, .int v5_j49)]) hx hb dX5_leastWorth_49 hl (by decide) rfl (fun ls hl => ?_)
    refine lv_iload hx hb dX5_leastWorth_51 (lv_at hl 0 rfl) ?_
    refine lv_if_eq (tgt := 75) hx hb dX5_leastWorth_53 (by decide) (fun hc => ?_) (fun hc => ?_)
    · have hf := it_t hc hf
      exact hj75 _ _ _ _ _ _ hf hP hD hS (lv_sub hl [1, 2, 3, 4, 5, 6, 0] rfl)
    · have hf := it_f hc hf
      refine lv_aload_n hx hb dX5_leastWorth_56 rfl (lv_at hl 1 rfl) ?_
      refine va_get (D := E.1) (ci := 5) (v := .ref a_o_worth) (C := RX5) (T := TX5) (N := 1) hx hb hts inX5 hown hK hP 0 rfl rfl 0 (by decide) (hts _ fl_X5_13) (fun _ h9 => h9) rfl dX5_leastWorth_57 ?_
      refine lv_iload hx hb dX5_leastWorth_60 (lv_at hl 6 rfl) ?_
      obtain ⟨hi, hf⟩ := ck hf
      refine r_iald 1 cx hP rfl hi dX5_leastWorth_62 ?_
      refine lv_iconst (v := (-1)) hx hb dX5_leastWorth_63 (by decide) ?_
      refine lv_icmp_eq (tgt := 75) hx hb dX5_leastWorth_64 (by decide) (fun hc => ?_) (fun hc => ?_)
      · have hf := it_t hc hf
        exact hj75 _ _ _ _ _ _ hf hP hD hS (lv_sub hl [1, 2, 3, 4, 5, 6, 0] rfl)
      · have hf := it_f hc hf
        refine lv_aload_n hx hb dX5_leastWorth_67 rfl (lv_at hl 1 rfl) ?_
        refine va_get (D := E.1) (ci := 5) (v := .ref a_o_worth) (C := RX5) (T := TX5) (N := 1) hx hb hts inX5 hown hK hP 0 rfl rfl 0 (by decide) (hts _ fl_X5_13) (fun _ h9 => h9) rfl dX5_leastWorth_68 ?_
        refine lv_iload hx hb dX5_leastWorth_71 (lv_at hl 6 rfl) ?_
        obtain ⟨hi, hf⟩ := ck hf
        refine r_iald 1 cx hP rfl hi dX5_leastWorth_73 ?_
        obtain rfl := Option.some.inj hf
        subst hq
        exact retI cx hP hD hS dX5_leastWorth_74
  have hj48 : ∀ (v5_j48 : Int32) (o_worth_j48 : Nat → Int32) (H : Heap) (locs : List Loc) (ls : Array Slot), X5_leastWorth_s_j48 g F o_worth_j48 q1_streets_corners q1_streets_takes q1_happenings_many q1_happenings_cells v2 v3 v4 v5_j48 = some u → va_P E.1 vwCl (wd_X5_leastWorth E a_o a_o_worth a_q1 a_q1_streets a_q1_names a_q1_extras a_q1_happenings a_q1_watchers a_q1_weeks a_q1_streets_roads a_q1_streets_takes a_q1_streets_hours a_q1_happenings_cells o_worth_j48 q1_wage q1_delay q1_odds q1_clock q1_hasWeeks q1_streets_corners q1_streets_takes q1_happenings_many q1_happenings_cells) H → va_D A (wd_X5_leastWorth E a_o a_o_worth a_q1 a_q1_streets a_q1_names a_q1_extras a_q1_happenings a_q1_watchers a_q1_weeks a_q1_streets_roads a_q1_streets_takes a_q1_streets_hours a_q1_happenings_cells o_worth_j48 q1_wage q1_delay q1_odds q1_clock q1_hasWeeks q1_streets_corners q1_streets_takes q1_happenings_many q1_happenings_cells) → va_S A s.heap H locs → lv_has ls 10 [(0, .ref a_o), (1, .ref a_q1), (2, .int v2), (3, .int v3), (4, .int v4), (5, .int v5_j48)] → W p l e (rmd (dm + 1)) s m aa below meth cd H locs 0 0 QQ (F0 m 48 ls []) := by
    intro v5_j48 o_worth_j48 H locs ls hf hP hD hS hl
    unfold X5_leastWorth_s_j48 at hf
    refine lv_iconst (v := 0) hx hb dX5_leastWorth_48 (by decide) ?_
    exact hj49 _ _ _ _ _ _ hf hP hD hS (lv_sub hl [0, 1, 2, 3, 4, 5] rfl)
  unfold X5_leastWorth_s at hf
  refine lv_iload_n hx hb dX5_leastWorth_0 rfl (lv_at hl 3 rfl) ?_
  refine lv_iconst (v := 1) hx hb dX5_leastWorth_1 (by decide) ?_
  refine lv_icmp_lt (tgt := 10) hx hb dX5_leastWorth_2 (by decide) (fun hc => ?_) (fun hc => ?_)
  · have hf := it_t hc hf
    refine lv_iconst (v := 0) hx hb dX5_leastWorth_10 (by decide) ?_
    obtain rfl := Option.some.inj hf
    subst hq
    exact retI cx hP hD hS dX5_leastWorth_11
  · have hf := it_f hc hf
    refine lv_iload_n hx hb dX5_leastWorth_5 rfl (lv_at hl 3 rfl) ?_
    refine lv_iconst (v := 3) hx hb dX5_leastWorth_6 (by decide) ?_
    refine lv_icmp_le (tgt := 12) hx hb dX5_leastWorth_7 (by decide) (fun hc => ?_) (fun hc => ?_)
    · have hf := it_t hc hf
      refine lv_iload_n hx hb dX5_leastWorth_12 rfl (lv_at hl 3 rfl) ?_
      refine lv_iconst (v := 1) hx hb dX5_leastWorth_13 (by decide) ?_
      refine lv_isub hx hb dX5_leastWorth_14 ?_
      refine lv_sipush (v := 256) hx hb dX5_leastWorth_15 (by decide) ?_
      refine lv_imul hx hb dX5_leastWorth_18 ?_
      refine lv_iload hx hb dX5_leastWorth_19 (lv_at hl 4 rfl) ?_
      refine lv_iadd hx hb dX5_leastWorth_21 ?_
      refine lv_bipush (v := 8) hx hb dX5_leastWorth_22 (by decide) ?_
      refine lv_imul hx hb dX5_leastWorth_24 ?_
      refine lv_iload_n hx hb dX5_leastWorth_25 rfl (lv_at hl 2 rfl) ?_
      refine lv_iadd hx hb dX5_leastWorth_26 ?_
      refine lv_istore (lv' := [(5, .int (((((v3 - 1) * 256) + v4) * 8) + v2)), (0, .ref a_o), (1, .ref a_q1), (2, .int v2), (3, .int v3), (4, .int v4)]) hx hb dX5_leastWorth_27 hl (by decide) rfl (fun ls hl => ?_)
      refine lv_iload hx hb dX5_leastWorth_29 (lv_at hl 0 rfl) ?_
      refine lv_if_lt (tgt := 48) hx hb dX5_leastWorth_31 (by decide) (fun hc => ?_) (fun hc => ?_)
      · have hf := it_t hc hf
        exact hj48 _ _ _ _ _ hf hP hD hS (lv_sub hl [1, 2, 3, 4, 5, 0] rfl)
      · have hf := it_f hc hf
        refine lv_iload hx hb dX5_leastWorth_34 (lv_at hl 0 rfl) ?_
        refine lv_aload_n hx hb dX5_leastWorth_36 rfl (lv_at hl 1 rfl) ?_
        refine va_get (D := E.1) (ci := 5) (v := .ref a_o_worth) (C := RX5) (T := TX5) (N := 1) hx hb hts inX5 hown hK hP 0 rfl rfl 0 (by decide) (hts _ fl_X5_13) (fun _ h9 => h9) rfl dX5_leastWorth_37 ?_
        refine va_alen (v := 4096) hx hb hK hP 1 0 rfl rfl (show Int32.ofNat 4096 = 4096 from by decide) dX5_leastWorth_40 ?_
        refine lv_icmp_ge (tgt := 48) hx hb dX5_leastWorth_41 (by decide) (fun hc => ?_) (fun hc => ?_)
        · have hf := it_t hc hf
          exact hj48 _ _ _ _ _ hf hP hD hS (lv_sub hl [1, 2, 3, 4, 5, 0] rfl)
        · have hf := it_f hc hf
          refine lv_iconst (v := 1) hx hb dX5_leastWorth_44 (by decide) ?_
          refine lv_goto (tgt := 49) hx hb dX5_leastWorth_45 (by decide) ?_
          exact hj49 _ _ _ _ _ _ hf hP hD hS (lv_sub hl [1, 2, 3, 4, 5, 0] rfl)
    · have hf := it_f hc hf
      refine lv_iconst (v := 0) hx hb dX5_leastWorth_10 (by decide) ?_
      obtain rfl := Option.some.inj hf
      subst hq
      exact retI cx hP hD hS dX5_leastWorth_11
def X5_mostWorth_s_j119 (g : (Nat → Int32) → Int32 → (Nat → Int32) → Int32 → (Nat → Int32) → Int32 → Int32 → Int32 → Option (Int32 × (Nat → Int32))) (F : Nat) (o_worth : Nat → Int32) (q1_streets_corners : Int32) (q1_streets_takes : Nat → Int32) (q1_happenings_many : Int32) (q1_happenings_cells : Nat → Int32) (v2 : Int32) (v3 : Int32) (v4 : Int32) (v5 : Int32) (v6 : Int32) : Option ((Int32 × Int32 × (Nat → Int32)) ⊕ ((Int32 × (Nat → Int32)))) :=
  some (.inl (v5, (v6 + 1), o_worth))
def X5_mostWorth_s_j91 (g : (Nat → Int32) → Int32 → (Nat → Int32) → Int32 → (Nat → Int32) → Int32 → Int32 → Int32 → Option (Int32 × (Nat → Int32))) (F : Nat) (o_worth : Nat → Int32) (q1_streets_corners : Int32) (q1_streets_takes : Nat → Int32) (q1_happenings_many : Int32) (q1_happenings_cells : Nat → Int32) (v2 : Int32) (v3 : Int32) (v4 : Int32) (v5 : Int32) (v6 : Int32) (k0 : Int32) : Option ((Int32 × Int32 × (Nat → Int32)) ⊕ ((Int32 × (Nat → Int32)))) :=
  (g o_worth q1_streets_corners q1_streets_takes q1_happenings_many q1_happenings_cells v2 (v3 - 1) (v4 ||| (jshl 1 v6))).bind fun u110 =>
  X5_mostWorth_s_j119 g F u110.2 q1_streets_corners q1_streets_takes q1_happenings_many q1_happenings_cells v2 v3 v4 (jmax v5 (k0 + u110.1)) v6
def X5_mostWorth_s_j70 (g : (Nat → Int32) → Int32 → (Nat → Int32) → Int32 → (Nat → Int32) → Int32 → Int32 → Int32 → Option (Int32 × (Nat → Int32))) (F : Nat) (o_worth : Nat → Int32) (q1_streets_corners : Int32) (q1_streets_takes : Nat → Int32) (q1_happenings_many : Int32) (q1_happenings_cells : Nat → Int32) (v2 : Int32) (v3 : Int32) (v4 : Int32) (v5 : Int32) (v6 : Int32) (k0 : Int32) : Option ((Int32 × Int32 × (Nat → Int32)) ⊕ ((Int32 × (Nat → Int32)))) :=
  if k0 = 0 then
  X5_mostWorth_s_j91 g F o_worth q1_streets_corners q1_streets_takes q1_happenings_many q1_happenings_cells v2 v3 v4 v5 v6 0
  else
  (X7_get 40 5 q1_happenings_many q1_happenings_cells v6 (2 : Int32)).bind fun u84 =>
  X5_mostWorth_s_j91 g F o_worth q1_streets_corners q1_streets_takes q1_happenings_many q1_happenings_cells v2 v3 v4 v5 v6 u84
def X5_mostWorth_s_b16 (g : (Nat → Int32) → Int32 → (Nat → Int32) → Int32 → (Nat → Int32) → Int32 → Int32 → Int32 → Option (Int32 × (Nat → Int32))) (F : Nat) (q1_streets_corners : Int32) (q1_streets_takes : Nat → Int32) (q1_happenings_many : Int32) (q1_happenings_cells : Nat → Int32) (v2 : Int32) (v3 : Int32) (v4 : Int32) (st16 : Int32 × Int32 × (Nat → Int32)) : Option ((Int32 × Int32 × (Nat → Int32)) ⊕ ((Int32 × (Nat → Int32)))) :=
  if q1_happenings_many ≤ st16.2.1 then
  some (.inr (st16.1, st16.2.2))
  else
  if ((jshr v4 st16.2.1) &&& 1) = 1 then
  X5_mostWorth_s_j119 g F st16.2.2 q1_streets_corners q1_streets_takes q1_happenings_many q1_happenings_cells v2 v3 v4 st16.1 st16.2.1
  else
  (X0_isToCome q1_happenings_many q1_happenings_cells st16.2.1).bind fun u42 =>
  if u42 = 0 then
  X5_mostWorth_s_j119 g F st16.2.2 q1_streets_corners q1_streets_takes q1_happenings_many q1_happenings_cells v2 v3 v4 st16.1 st16.2.1
  else
  (X7_get 40 5 q1_happenings_many q1_happenings_cells st16.2.1 (0 : Int32)).bind fun u58 =>
  if u58 = v2 then
  X5_mostWorth_s_j70 g F st16.2.2 q1_streets_corners q1_streets_takes q1_happenings_many q1_happenings_cells v2 v3 v4 st16.1 st16.2.1 0
  else
  X5_mostWorth_s_j70 g F st16.2.2 q1_streets_corners q1_streets_takes q1_happenings_many q1_happenings_cells v2 v3 v4 st16.1 st16.2.1 1
def X5_mostWorth_s (g : (Nat → Int32) → Int32 → (Nat → Int32) → Int32 → (Nat → Int32) → Int32 → Int32 → Int32 → Option (Int32 × (Nat → Int32))) (F : Nat) (o_worth : Nat → Int32) (q1_streets_corners : Int32) (q1_streets_takes : Nat → Int32) (q1_happenings_many : Int32) (q1_happenings_cells : Nat → Int32) (v2 : Int32) (v3 : Int32) (v4 : Int32) : Option (Int32 × (Nat → Int32)) :=
  (g o_worth q1_streets_corners q1_streets_takes q1_happenings_many q1_happenings_cells v2 (v3 - 1) v4).bind fun u8 =>
  (iter (X5_mostWorth_s_b16 g F q1_streets_corners q1_streets_takes q1_happenings_many q1_happenings_cells v2 v3 v4) F (u8.1, 0, u8.2)).bind (fun (e16 : Int32 × (Nat → Int32)) =>
    some (e16.1, e16.2))
set_option maxHeartbeats 4000000 in
set_option maxRecDepth 100000 in
theorem ct_X5_mostWorth_s (l : Launch) (E : vE) (F : Nat) (a_o a_o_worth a_q1 a_q1_streets a_q1_names a_q1_extras a_q1_happenings a_q1_watchers a_q1_weeks a_q1_streets_roads a_q1_streets_takes a_q1_streets_hours a_q1_happenings_cells : Nat) (g : (Nat → Int32) → Int32 → (Nat → Int32) → Int32 → (Nat → Int32) → Int32 → Int32 → Int32 → Option (Int32 × (Nat → Int32))) (dm : Nat) (hdm : 3 ≤ dm) (hg : ∀ (o_worth : Nat → Int32) (q1_wage : Int32) (q1_delay : Int32) (q1_odds : Int32) (q1_clock : Int32) (q1_hasWeeks : Int32) (q1_streets_corners : Int32) (q1_streets_takes : Nat → Int32) (q1_happenings_many : Int32) (q1_happenings_cells : Nat → Int32) (v2 : Int32) (v3 : Int32) (v4 : Int32) (u : Int32 × (Nat → Int32)), g o_worth q1_streets_corners q1_streets_takes q1_happenings_many q1_happenings_cells v2 v3 v4 = some u → CtI l yX5_leastWorth cX5_leastWorth 10 (some .int) dm E [.ref a_o, .ref a_q1, .int v2, .int v3, .int v4] (wd_X5_leastWorth E a_o a_o_worth a_q1 a_q1_streets a_q1_names a_q1_extras a_q1_happenings a_q1_watchers a_q1_weeks a_q1_streets_roads a_q1_streets_takes a_q1_streets_hours a_q1_happenings_cells o_worth q1_wage q1_delay q1_odds q1_clock q1_hasWeeks q1_streets_corners q1_streets_takes q1_happenings_many q1_happenings_cells) (wd_X5_leastWorth E a_o a_o_worth a_q1 a_q1_streets a_q1_names a_q1_extras a_q1_happenings a_q1_watchers a_q1_weeks a_q1_streets_roads a_q1_streets_takes a_q1_streets_hours a_q1_happenings_cells u.2 q1_wage q1_delay q1_odds q1_clock q1_hasWeeks q1_streets_corners q1_streets_takes q1_happenings_many q1_happenings_cells) u.1) (o_worth : Nat → Int32) (q1_wage : Int32) (q1_delay : Int32) (q1_odds : Int32) (q1_clock : Int32) (q1_hasWeeks : Int32) (q1_streets_corners : Int32) (q1_streets_takes : Nat → Int32) (q1_happenings_many : Int32) (q1_happenings_cells : Nat → Int32) (v2 : Int32) (v3 : Int32) (v4 : Int32) (u : Int32 × (Nat → Int32)) (hf : X5_mostWorth_s g F o_worth q1_streets_corners q1_streets_takes q1_happenings_many q1_happenings_cells v2 v3 v4 = some u) :
    CtI l yX5_mostWorth cX5_mostWorth 9 (some .int) (dm + 1) E [.ref a_o, .ref a_q1, .int v2, .int v3, .int v4] (wd_X5_mostWorth E a_o a_o_worth a_q1 a_q1_streets a_q1_names a_q1_extras a_q1_happenings a_q1_watchers a_q1_weeks a_q1_streets_roads a_q1_streets_takes a_q1_streets_hours a_q1_happenings_cells o_worth q1_wage q1_delay q1_odds q1_clock q1_hasWeeks q1_streets_corners q1_streets_takes q1_happenings_many q1_happenings_cells) (wd_X5_mostWorth E a_o a_o_worth a_q1 a_q1_streets a_q1_names a_q1_extras a_q1_happenings a_q1_watchers a_q1_weeks a_q1_streets_roads a_q1_streets_takes a_q1_streets_hours a_q1_happenings_cells u.2 q1_wage q1_delay q1_odds q1_clock q1_hasWeeks q1_streets_corners q1_streets_takes q1_happenings_many q1_happenings_cells) u.1 := by
  refine ctI (by decide) (Nat.le_of_ble_eq_true rfl) ?_
  intro p e s m below meth cd A ls aa QQ hq cx hP hD hS hl
  obtain ⟨⟨hx, hb, hml, hown, hts⟩, hr, hlocks, hK, hA, hX⟩ := id cx
  have hl : lv_has ls 9 [(0, .ref a_o), (1, .ref a_q1), (2, .int v2), (3, .int v3), (4, .int v4)] := hl
  unfold X5_mostWorth_s at hf
  refine lv_aload_n hx hb dX5_mostWorth_0 rfl (lv_at hl 0 rfl) ?_
  refine lv_aload_n hx hb dX5_mostWorth_1 rfl (lv_at hl 1 rfl) ?_
  refine lv_iload_n hx hb dX5_mostWorth_2 rfl (lv_at hl 2 rfl) ?_
  refine lv_iload_n hx hb dX5_mostWorth_3 rfl (lv_at hl 3 rfl) ?_
  refine lv_iconst (v := 1) hx hb dX5_mostWorth_4 (by decide) ?_
  refine lv_isub hx hb dX5_mostWorth_5 ?_
  refine lv_iload hx hb dX5_mostWorth_6 (lv_at hl 4 rfl) ?_
  obtain ⟨u8, hu8, hf⟩ := bd hf
  refine callVI (wn := (wd_X5_mostWorth E a_o a_o_worth a_q1 a_q1_streets a_q1_names a_q1_extras a_q1_happenings a_q1_watchers a_q1_weeks a_q1_streets_roads a_q1_streets_takes a_q1_streets_hours a_q1_happenings_cells u8.2 q1_wage q1_delay q1_odds q1_clock q1_hasWeeks q1_streets_corners q1_streets_takes q1_happenings_many q1_happenings_cells)) (n1 := 7) (hg o_worth q1_wage q1_delay q1_odds q1_clock q1_hasWeeks q1_streets_corners q1_streets_takes q1_happenings_many q1_happenings_cells v2 (v3 - 1) v4 u8 hu8) [0, 1, 2, 3, 4, 5, 6] cal_X5_leastWorth cav_X5_leastWorth lk_X5_56 cx hP hD hS hl dX5_mostWorth_8 rfl rfl rfl rfl (Nat.le_of_ble_eq_true rfl) ⟨show dm + 1 ≤ dm + 1 by omega, show 8 + (10 + 11) + 64 * dm ≤ 64 * (dm + 1) by omega⟩ rfl (by decide +kernel) rfl [some 0, some 1, some 2, some 3, some 4, some 5, some 6] rfl (by decide +kernel) rfl (fun H locs hP hD hS => ?_)
  refine lv_istore (lv' := [(5, .int u8.1), (0, .ref a_o), (1, .ref a_q1), (2, .int v2), (3, .int v3), (4, .int v4)]) hx hb dX5_mostWorth_11 hl (by decide) rfl (fun ls hl => ?_)
  refine lv_iconst (v := 0) hx hb dX5_mostWorth_13 (by decide) ?_
  refine lv_istore (lv' := [(6, .int 0), (5, .int u8.1), (0, .ref a_o), (1, .ref a_q1), (2, .int v2), (3, .int v3), (4, .int v4)]) hx hb dX5_mostWorth_14 hl (by decide) rfl (fun ls hl => ?_)
  obtain ⟨e16, hit16, hf⟩ := bd hf
  refine iter_W (b := X5_mostWorth_s_b16 g F q1_streets_corners q1_streets_takes q1_happenings_many q1_happenings_cells v2 v3 v4) (P := fun st16 => ∀ (H : Heap) (locs : List Loc) (ls : Array Slot), va_P E.1 vwCl (wd_X5_mostWorth E a_o a_o_worth a_q1 a_q1_streets a_q1_names a_q1_extras a_q1_happenings a_q1_watchers a_q1_weeks a_q1_streets_roads a_q1_streets_takes a_q1_streets_hours a_q1_happenings_cells st16.2.2 q1_wage q1_delay q1_odds q1_clock q1_hasWeeks q1_streets_corners q1_streets_takes q1_happenings_many q1_happenings_cells) H → va_D A (wd_X5_mostWorth E a_o a_o_worth a_q1 a_q1_streets a_q1_names a_q1_extras a_q1_happenings a_q1_watchers a_q1_weeks a_q1_streets_roads a_q1_streets_takes a_q1_streets_hours a_q1_happenings_cells st16.2.2 q1_wage q1_delay q1_odds q1_clock q1_hasWeeks q1_streets_corners q1_streets_takes q1_happenings_many q1_happenings_cells) → va_S A s.heap H locs → lv_has ls 9 [(0, .ref a_o), (1, .ref a_q1), (2, .int v2), (3, .int v3), (4, .int v4), (5, .int st16.1), (6, .int st16.2.1)] → W p l e (rmd (dm + 1)) s m aa below meth cd H locs 0 0 QQ (F0 m 16 ls [])) (G := (fun (e16 : Int32 × (Nat → Int32)) => ∀ (H : Heap) (locs : List Loc) (ls : Array Slot), va_P E.1 vwCl (wd_X5_mostWorth E a_o a_o_worth a_q1 a_q1_streets a_q1_names a_q1_extras a_q1_happenings a_q1_watchers a_q1_weeks a_q1_streets_roads a_q1_streets_takes a_q1_streets_hours a_q1_happenings_cells e16.2 q1_wage q1_delay q1_odds q1_clock q1_hasWeeks q1_streets_corners q1_streets_takes q1_happenings_many q1_happenings_cells) H → va_D A (wd_X5_mostWorth E a_o a_o_worth a_q1 a_q1_streets a_q1_names a_q1_extras a_q1_happenings a_q1_watchers a_q1_weeks a_q1_streets_roads a_q1_streets_takes a_q1_streets_hours a_q1_happenings_cells e16.2 q1_wage q1_delay q1_odds q1_clock q1_hasWeeks q1_streets_corners q1_streets_takes q1_happenings_many q1_happenings_cells) → va_S A s.heap H locs → lv_has ls 9 [(5, .int e16.1)] → W p l e (rmd (dm + 1)) s m aa below meth cd H locs 0 0 QQ (F0 m 125 ls []))) ?_ F (u8.1, 0, u8.2) e16 hit16 ?_ _ _ _ hP hD hS (lv_sub hl [2, 3, 4, 5, 6, 1, 0] rfl)
  · intro st16 r16 hf hk16 he16 H locs ls hP hD hS hl
    have hj119 : ∀ (v5_j119 : Int32) (v6_j119 : Int32) (o_worth_j119 : Nat → Int32) (H : Heap) (locs : List Loc) (ls : Array Slot), X5_mostWorth_s_j119 g F o_worth_j119 q1_streets_corners q1_streets_takes q1_happenings_many q1_happenings_cells v2 v3 v4 v5_j119 v6_j119 = some r16 → va_P E.1 vwCl (wd_X5_mostWorth E a_o a_o_worth a_q1 a_q1_streets a_q1_names a_q1_extras a_q1_happenings a_q1_watchers a_q1_weeks a_q1_streets_roads a_q1_streets_takes a_q1_streets_hours a_q1_happenings_cells o_worth_j119 q1_wage q1_delay q1_odds q1_clock q1_hasWeeks q1_streets_corners q1_streets_takes q1_happenings_many q1_happenings_cells) H → va_D A (wd_X5_mostWorth E a_o a_o_worth a_q1 a_q1_streets a_q1_names a_q1_extras a_q1_happenings a_q1_watchers a_q1_weeks a_q1_streets_roads a_q1_streets_takes a_q1_streets_hours a_q1_happenings_cells o_worth_j119 q1_wage q1_delay q1_odds q1_clock q1_hasWeeks q1_streets_corners q1_streets_takes q1_happenings_many q1_happenings_cells) → va_S A s.heap H locs → lv_has ls 9 [(0, .ref a_o), (1, .ref a_q1), (2, .int v2), (3, .int v3), (4, .int v4), (5, .int v5_j119), (6, .int v6_j119)] → W p l e (rmd (dm + 1)) s m aa below meth cd H locs 0 0 QQ (F0 m 119 ls []) := by
      intro v5_j119 v6_j119 o_worth_j119 H locs ls hf hP hD hS hl
      unfold X5_mostWorth_s_j119 at hf
      refine lv_iinc (v := (v6_j119 + 1)) (lv' := [(6, .int (v6_j119 + 1)), (0, .ref a_o), (1, .ref a_q1), (2, .int v2), (3, .int v3), (4, .int v4), (5, .int v5_j119)]) hx hb dX5_mostWorth_119 hl (k := 6) rfl rfl (by decide) rfl (fun ls hl => ?_)
      refine lv_goto (tgt := 16) hx hb dX5_mostWorth_122 (by decide) ?_
      exact hk16 _ (Option.some.inj hf).symm _ _ _ hP hD hS (lv_sub hl [1, 2, 3, 4, 5, 6, 0] rfl)
    have hj91 : ∀ (v5_j91 : Int32) (v6_j91 : Int32) (o_worth_j91 : Nat → Int32) (k0_j91 : Int32) (H : Heap) (locs : List Loc) (ls : Array Slot), X5_mostWorth_s_j91 g F o_worth_j91 q1_streets_corners q1_streets_takes q1_happenings_many q1_happenings_cells v2 v3 v4 v5_j91 v6_j91 k0_j91 = some r16 → va_P E.1 vwCl (wd_X5_mostWorth E a_o a_o_worth a_q1 a_q1_streets a_q1_names a_q1_extras a_q1_happenings a_q1_watchers a_q1_weeks a_q1_streets_roads a_q1_streets_takes a_q1_streets_hours a_q1_happenings_cells o_worth_j91 q1_wage q1_delay q1_odds q1_clock q1_hasWeeks q1_streets_corners q1_streets_takes q1_happenings_many q1_happenings_cells) H → va_D A (wd_X5_mostWorth E a_o a_o_worth a_q1 a_q1_streets a_q1_names a_q1_extras a_q1_happenings a_q1_watchers a_q1_weeks a_q1_streets_roads a_q1_streets_takes a_q1_streets_hours a_q1_happenings_cells o_worth_j91 q1_wage q1_delay q1_odds q1_clock q1_hasWeeks q1_streets_corners q1_streets_takes q1_happenings_many q1_happenings_cells) → va_S A s.heap H locs → lv_has ls 9 [(0, .ref a_o), (1, .ref a_q1), (2, .int v2), (3, .int v3), (4, .int v4), (5, .int v5_j91), (6, .int v6_j91)] → W p l e (rmd (dm + 1)) s m aa below meth cd H locs 0 0 QQ (F0 m 91 ls [.int k0_j91]) := by
      intro v5_j91 v6_j91 o_worth_j91 k0_j91 H locs ls hf hP hD hS hl
      unfold X5_mostWorth_s_j91 at hf
      refine lv_istore (lv' := [(8, .int k0_j91), (0, .ref a_o), (1, .ref a_q1), (2, .int v2), (3, .int v3), (4, .int v4), (5, .int v5_j91), (6, .int v6_j91)]) hx hb dX5_mostWorth_91 hl (by decide) rfl (fun ls hl => ?_)
      refine lv_iload hx hb dX5_mostWorth_93 (lv_at hl 6 rfl) ?_
      refine lv_iload hx hb dX5_mostWorth_95 (lv_at hl 0 rfl) ?_
      refine lv_aload_n hx hb dX5_mostWorth_97 rfl (lv_at hl 1 rfl) ?_
      refine lv_aload_n hx hb dX5_mostWorth_98 rfl (lv_at hl 2 rfl) ?_
      refine lv_iload_n hx hb dX5_mostWorth_99 rfl (lv_at hl 3 rfl) ?_
      refine lv_iload_n hx hb dX5_mostWorth_100 rfl (lv_at hl 4 rfl) ?_
      refine lv_iconst (v := 1) hx hb dX5_mostWorth_101 (by decide) ?_
      refine lv_isub hx hb dX5_mostWorth_102 ?_
      refine lv_iload hx hb dX5_mostWorth_103 (lv_at hl 5 rfl) ?_
      refine lv_iconst (v := 1) hx hb dX5_mostWorth_105 (by decide) ?_
      refine lv_iload hx hb dX5_mostWorth_106 (lv_at hl 7 rfl) ?_
      refine r_ishl hx hb dX5_mostWorth_108 ?_
      refine lv_ior hx hb dX5_mostWorth_109 ?_
      obtain ⟨u110, hu110, hf⟩ := bd hf
      refine callVI (wn := (wd_X5_mostWorth E a_o a_o_worth a_q1 a_q1_streets a_q1_names a_q1_extras a_q1_happenings a_q1_watchers a_q1_weeks a_q1_streets_roads a_q1_streets_takes a_q1_streets_hours a_q1_happenings_cells u110.2 q1_wage q1_delay q1_odds q1_clock q1_hasWeeks q1_streets_corners q1_streets_takes q1_happenings_many q1_happenings_cells)) (n1 := 7) (hg o_worth_j91 q1_wage q1_delay q1_odds q1_clock q1_hasWeeks q1_streets_corners q1_streets_takes q1_happenings_many q1_happenings_cells v2 (v3 - 1) (v4 ||| (jshl 1 v6_j91)) u110 hu110) [0, 1, 2, 3, 4, 5, 6] cal_X5_leastWorth cav_X5_leastWorth lk_X5_56 cx hP hD hS hl dX5_mostWorth_110 rfl rfl rfl rfl (Nat.le_of_ble_eq_true rfl) ⟨show dm + 1 ≤ dm + 1 by omega, show 8 + (10 + 11) + 64 * dm ≤ 64 * (dm + 1) by omega⟩ rfl (by decide +kernel) rfl [some 0, some 1, some 2, some 3, some 4, some 5, some 6] rfl (by decide +kernel) rfl (fun H locs hP hD hS => ?_)
      refine lv_iadd hx hb dX5_mostWorth_113 ?_
      refine r_mmax cx hl lk_X5_37 mt_max (show 1 ≤ dm + 1 by omega) (Nat.le_trans (m := 64) (Nat.le_of_ble_eq_true rfl) (show 64 ≤ 64 * (dm + 1) by omega)) dX5_mostWorth_114 ?_
      refine lv_istore (lv' := [(5, .int (jmax v5_j91 (k0_j91 + u110.1))), (8, .int k0_j91), (0, .ref a_o), (1, .ref a_q1), (2, .int v2), (3, .int v3), (4, .int v4), (6, .int v6_j91)]) hx hb dX5_mostWorth_117 hl (by decide) rfl (fun ls hl => ?_)
      exact hj119 _ _ _ _ _ _ hf hP hD hS (lv_sub hl [2, 3, 4, 5, 6, 0, 7] rfl)
    have hj70 : ∀ (v5_j70 : Int32) (v6_j70 : Int32) (o_worth_j70 : Nat → Int32) (k0_j70 : Int32) (H : Heap) (locs : List Loc) (ls : Array Slot), X5_mostWorth_s_j70 g F o_worth_j70 q1_streets_corners q1_streets_takes q1_happenings_many q1_happenings_cells v2 v3 v4 v5_j70 v6_j70 k0_j70 = some r16 → va_P E.1 vwCl (wd_X5_mostWorth E a_o a_o_worth a_q1 a_q1_streets a_q1_names a_q1_extras a_q1_happenings a_q1_watchers a_q1_weeks a_q1_streets_roads a_q1_streets_takes a_q1_streets_hours a_q1_happenings_cells o_worth_j70 q1_wage q1_delay q1_odds q1_clock q1_hasWeeks q1_streets_corners q1_streets_takes q1_happenings_many q1_happenings_cells) H → va_D A (wd_X5_mostWorth E a_o a_o_worth a_q1 a_q1_streets a_q1_names a_q1_extras a_q1_happenings a_q1_watchers a_q1_weeks a_q1_streets_roads a_q1_streets_takes a_q1_streets_hours a_q1_happenings_cells o_worth_j70 q1_wage q1_delay q1_odds q1_clock q1_hasWeeks q1_streets_corners q1_streets_takes q1_happenings_many q1_happenings_cells) → va_S A s.heap H locs → lv_has ls 9 [(0, .ref a_o), (1, .ref a_q1), (2, .int v2), (3, .int v3), (4, .int v4), (5, .int v5_j70), (6, .int v6_j70)] → W p l e (rmd (dm + 1)) s m aa below meth cd H locs 0 0 QQ (F0 m 70 ls [.int k0_j70]) := by
      intro v5_j70 v6_j70 o_worth_j70 k0_j70 H locs ls hf hP hD hS hl
      unfold X5_mostWorth_s_j70 at hf
      refine lv_istore (lv' := [(7, .int k0_j70), (0, .ref a_o), (1, .ref a_q1), (2, .int v2), (3, .int v3), (4, .int v4), (5, .int v5_j70), (6, .int v6_j70)]) hx hb dX5_mostWorth_70 hl (by decide) rfl (fun ls hl => ?_)
      refine lv_iload hx hb dX5_mostWorth_72 (lv_at hl 0 rfl) ?_
      refine lv_if_eq (tgt := 90) hx hb dX5_mostWorth_74 (by decide) (fun hc => ?_) (fun hc => ?_)
      · have hf := it_t hc hf
        refine lv_iconst (v := 0) hx hb dX5_mostWorth_90 (by decide) ?_
        exact hj91 _ _ _ _ _ _ _ hf hP hD hS (lv_sub hl [1, 2, 3, 4, 5, 6, 7] rfl)
      · have hf := it_f hc hf
        refine lv_aload_n hx hb dX5_mostWorth_77 rfl (lv_at hl 2 rfl) ?_
        refine va_get (D := E.1) (ci := 0) (v := .ref a_q1_happenings) (C := RX0) (T := TX0) (N := 11) hx hb hts inX0 hown hK hP 2 rfl rfl 8 (by decide) (hts _ fl_X5_17) (fun _ h9 => h9) rfl dX5_mostWorth_78 ?_
        refine lv_iload hx hb dX5_mostWorth_81 (lv_at hl 7 rfl) ?_
        refine lv_iconst (v := 2) hx hb dX5_mostWorth_83 (by decide) ?_
        obtain ⟨u84, hu84, hf⟩ := bd hf
        refine keepVI (ct_X7_get l E a_q1_happenings a_q1_happenings_cells 40 5 q1_happenings_many q1_happenings_cells v6_j70 (2 : Int32) u84 hu84) [5, 6] cal_X7_get cav_X7_get lk_X5_33 cx hP hD hS hl dX5_mostWorth_84 rfl rfl rfl rfl (Nat.le_of_ble_eq_true rfl) ⟨show 0 + 1 ≤ dm + 1 by omega, show 8 + (4 + 11) + 64 * 0 ≤ 64 * (dm + 1) by omega⟩ rfl (by decide) (fun H locs hP hS => ?_)
        refine lv_goto (tgt := 91) hx hb dX5_mostWorth_87 (by decide) ?_
        exact hj91 _ _ _ _ _ _ _ hf hP hD hS (lv_sub hl [1, 2, 3, 4, 5, 6, 7] rfl)
    unfold X5_mostWorth_s_b16 at hf
    refine lv_iload hx hb dX5_mostWorth_16 (lv_at hl 6 rfl) ?_
    refine lv_aload_n hx hb dX5_mostWorth_18 rfl (lv_at hl 1 rfl) ?_
    refine va_get (D := E.1) (ci := 0) (v := .ref a_q1_happenings) (C := RX0) (T := TX0) (N := 11) hx hb hts inX0 hown hK hP 2 rfl rfl 8 (by decide) (hts _ fl_X5_17) (fun _ h9 => h9) rfl dX5_mostWorth_19 ?_
    refine va_get (D := E.1) (ci := 7) (v := .int q1_happenings_many) (C := RX7) (T := TX7) (N := 3) hx hb hts inX7 hown hK hP 5 rfl rfl 2 (by decide) (hts _ fl_X5_23) (fun _ h9 => h9) rfl dX5_mostWorth_22 ?_
    refine lv_icmp_ge (tgt := 125) hx hb dX5_mostWorth_25 (by decide) (fun hc => ?_) (fun hc => ?_)
    · have hf := it_t hc hf
      exact he16 _ (Option.some.inj hf).symm _ _ _ hP hD hS (lv_sub hl [5] rfl)
    · have hf := it_f hc hf
      refine lv_iload hx hb dX5_mostWorth_28 (lv_at hl 4 rfl) ?_
      refine lv_iload hx hb dX5_mostWorth_30 (lv_at hl 6 rfl) ?_
      refine r_ishr hx hb dX5_mostWorth_32 ?_
      refine lv_iconst (v := 1) hx hb dX5_mostWorth_33 (by decide) ?_
      refine lv_iand hx hb dX5_mostWorth_34 ?_
      refine lv_iconst (v := 1) hx hb dX5_mostWorth_35 (by decide) ?_
      refine lv_icmp_eq (tgt := 119) hx hb dX5_mostWorth_36 (by decide) (fun hc => ?_) (fun hc => ?_)
      · have hf := it_t hc hf
        exact hj119 _ _ _ _ _ _ hf hP hD hS (lv_sub hl [0, 1, 2, 3, 4, 5, 6] rfl)
      · have hf := it_f hc hf
        refine lv_aload_n hx hb dX5_mostWorth_39 rfl (lv_at hl 1 rfl) ?_
        refine lv_iload hx hb dX5_mostWorth_40 (lv_at hl 6 rfl) ?_
        obtain ⟨u42, hu42, hf⟩ := bd hf
        refine keepVI (ct_X0_isToCome l E a_q1 a_q1_streets a_q1_names a_q1_extras a_q1_happenings a_q1_watchers a_q1_weeks a_q1_happenings_cells q1_wage q1_delay q1_odds q1_clock q1_hasWeeks q1_happenings_many q1_happenings_cells st16.2.1 u42 hu42) [2, 5, 6] cal_X0_isToCome cav_X0_isToCome lk_X5_29 cx hP hD hS hl dX5_mostWorth_42 rfl rfl rfl rfl (Nat.le_of_ble_eq_true rfl) ⟨show 1 + 1 ≤ dm + 1 by omega, show 8 + (2 + 11) + 64 * 1 ≤ 64 * (dm + 1) by omega⟩ rfl (by decide) (fun H locs hP hS => ?_)
        refine lv_if_ne (tgt := 51) hx hb dX5_mostWorth_45 (by decide) (fun hc => ?_) (fun hc => ?_)
        · have hf := it_f hc hf
          refine lv_aload_n hx hb dX5_mostWorth_51 rfl (lv_at hl 1 rfl) ?_
          refine va_get (D := E.1) (ci := 0) (v := .ref a_q1_happenings) (C := RX0) (T := TX0) (N := 11) hx hb hts inX0 hown hK hP 2 rfl rfl 8 (by decide) (hts _ fl_X5_17) (fun _ h9 => h9) rfl dX5_mostWorth_52 ?_
          refine lv_iload hx hb dX5_mostWorth_55 (lv_at hl 6 rfl) ?_
          refine lv_iconst (v := 0) hx hb dX5_mostWorth_57 (by decide) ?_
          obtain ⟨u58, hu58, hf⟩ := bd hf
          refine keepVI (ct_X7_get l E a_q1_happenings a_q1_happenings_cells 40 5 q1_happenings_many q1_happenings_cells st16.2.1 (0 : Int32) u58 hu58) [5, 6] cal_X7_get cav_X7_get lk_X5_33 cx hP hD hS hl dX5_mostWorth_58 rfl rfl rfl rfl (Nat.le_of_ble_eq_true rfl) ⟨show 0 + 1 ≤ dm + 1 by omega, show 8 + (4 + 11) + 64 * 0 ≤ 64 * (dm + 1) by omega⟩ rfl (by decide) (fun H locs hP hS => ?_)
          refine lv_iload_n hx hb dX5_mostWorth_61 rfl (lv_at hl 2 rfl) ?_
          refine lv_icmp_eq (tgt := 69) hx hb dX5_mostWorth_62 (by decide) (fun hc => ?_) (fun hc => ?_)
          · have hf := it_t hc hf
            refine lv_iconst (v := 0) hx hb dX5_mostWorth_69 (by decide) ?_
            exact hj70 _ _ _ _ _ _ _ hf hP hD hS (lv_sub hl [0, 1, 2, 3, 4, 5, 6] rfl)
          · have hf := it_f hc hf
            refine lv_iconst (v := 1) hx hb dX5_mostWorth_65 (by decide) ?_
            refine lv_goto (tgt := 70) hx hb dX5_mostWorth_66 (by decide) ?_
            exact hj70 _ _ _ _ _ _ _ hf hP hD hS (lv_sub hl [0, 1, 2, 3, 4, 5, 6] rfl)
        · have hf := it_t hc hf
          refine lv_goto (tgt := 119) hx hb dX5_mostWorth_48 (by decide) ?_
          exact hj119 _ _ _ _ _ _ hf hP hD hS (lv_sub hl [0, 1, 2, 3, 4, 5, 6] rfl)
  · refine fun H locs ls hP hD hS hl => ?_
    refine lv_iload hx hb dX5_mostWorth_125 (lv_at hl 0 rfl) ?_
    obtain rfl := Option.some.inj hf
    subst hq
    exact retI cx hP hD hS dX5_mostWorth_127
def X5_leastWorth_r (F : Nat) : Nat → ((Nat → Int32) → Int32 → (Nat → Int32) → Int32 → (Nat → Int32) → Int32 → Int32 → Int32 → Option (Int32 × (Nat → Int32)))
  | 0 => fun _ _ _ _ _ _ _ _ => none
  | G + 1 => X5_leastWorth_s (X5_mostWorth_s (X5_leastWorth_r F G) F) F
def X5_leastWorth_r_d : Nat → Nat
  | 0 => 3
  | G + 1 => X5_leastWorth_r_d G + 1 + 1
theorem X5_leastWorth_r_db : ∀ G, 3 ≤ X5_leastWorth_r_d G
  | 0 => Nat.le_refl _
  | G + 1 => Nat.le_trans (X5_leastWorth_r_db G) (Nat.le_trans (Nat.le_succ _) (Nat.le_succ _))
theorem ct_X5_leastWorth_r (l : Launch) (E : vE) (F : Nat) (a_o a_o_worth a_q1 a_q1_streets a_q1_names a_q1_extras a_q1_happenings a_q1_watchers a_q1_weeks a_q1_streets_roads a_q1_streets_takes a_q1_streets_hours a_q1_happenings_cells : Nat) : ∀ (G : Nat) (o_worth : Nat → Int32) (q1_wage : Int32) (q1_delay : Int32) (q1_odds : Int32) (q1_clock : Int32) (q1_hasWeeks : Int32) (q1_streets_corners : Int32) (q1_streets_takes : Nat → Int32) (q1_happenings_many : Int32) (q1_happenings_cells : Nat → Int32) (v2 : Int32) (v3 : Int32) (v4 : Int32) (u : Int32 × (Nat → Int32)), X5_leastWorth_r F G o_worth q1_streets_corners q1_streets_takes q1_happenings_many q1_happenings_cells v2 v3 v4 = some u → CtI l yX5_leastWorth cX5_leastWorth 10 (some .int) (X5_leastWorth_r_d G) E [.ref a_o, .ref a_q1, .int v2, .int v3, .int v4] (wd_X5_leastWorth E a_o a_o_worth a_q1 a_q1_streets a_q1_names a_q1_extras a_q1_happenings a_q1_watchers a_q1_weeks a_q1_streets_roads a_q1_streets_takes a_q1_streets_hours a_q1_happenings_cells o_worth q1_wage q1_delay q1_odds q1_clock q1_hasWeeks q1_streets_corners q1_streets_takes q1_happenings_many q1_happenings_cells) (wd_X5_leastWorth E a_o a_o_worth a_q1 a_q1_streets a_q1_names a_q1_extras a_q1_happenings a_q1_watchers a_q1_weeks a_q1_streets_roads a_q1_streets_takes a_q1_streets_hours a_q1_happenings_cells u.2 q1_wage q1_delay q1_odds q1_clock q1_hasWeeks q1_streets_corners q1_streets_takes q1_happenings_many q1_happenings_cells) u.1 := by
  intro G
  induction G with
  | zero => intro o_worth q1_wage q1_delay q1_odds q1_clock q1_hasWeeks q1_streets_corners q1_streets_takes q1_happenings_many q1_happenings_cells v2 v3 v4 u h; cases h
  | succ G ih =>
    intro o_worth q1_wage q1_delay q1_odds q1_clock q1_hasWeeks q1_streets_corners q1_streets_takes q1_happenings_many q1_happenings_cells v2 v3 v4 u h
    exact ct_X5_leastWorth_s l E F a_o a_o_worth a_q1 a_q1_streets a_q1_names a_q1_extras a_q1_happenings a_q1_watchers a_q1_weeks a_q1_streets_roads a_q1_streets_takes a_q1_streets_hours a_q1_happenings_cells (X5_mostWorth_s (X5_leastWorth_r F G) F) (X5_leastWorth_r_d G + 1) (Nat.le_trans (X5_leastWorth_r_db G) (Nat.le_succ _)) (fun o_worth q1_wage q1_delay q1_odds q1_clock q1_hasWeeks q1_streets_corners q1_streets_takes q1_happenings_many q1_happenings_cells v2 v3 v4 u h => ct_X5_mostWorth_s l E F a_o a_o_worth a_q1 a_q1_streets a_q1_names a_q1_extras a_q1_happenings a_q1_watchers a_q1_weeks a_q1_streets_roads a_q1_streets_takes a_q1_streets_hours a_q1_happenings_cells (X5_leastWorth_r F G) (X5_leastWorth_r_d G) (X5_leastWorth_r_db G) ih o_worth q1_wage q1_delay q1_odds q1_clock q1_hasWeeks q1_streets_corners q1_streets_takes q1_happenings_many q1_happenings_cells v2 v3 v4 u h) o_worth q1_wage q1_delay q1_odds q1_clock q1_hasWeeks q1_streets_corners q1_streets_takes q1_happenings_many q1_happenings_cells v2 v3 v4 u h
def X5_leastWorth (F : Nat) (o_worth : Nat → Int32) (q1_streets_corners : Int32) (q1_streets_takes : Nat → Int32) (q1_happenings_many : Int32) (q1_happenings_cells : Nat → Int32) (v2 : Int32) (v3 : Int32) (v4 : Int32) : Option (Int32 × (Nat → Int32)) := X5_leastWorth_r F 5 o_worth q1_streets_corners q1_streets_takes q1_happenings_many q1_happenings_cells v2 v3 v4
def X5_mostWorth (F : Nat) (o_worth : Nat → Int32) (q1_streets_corners : Int32) (q1_streets_takes : Nat → Int32) (q1_happenings_many : Int32) (q1_happenings_cells : Nat → Int32) (v2 : Int32) (v3 : Int32) (v4 : Int32) : Option (Int32 × (Nat → Int32)) := X5_mostWorth_s (X5_leastWorth_r F 5) F o_worth q1_streets_corners q1_streets_takes q1_happenings_many q1_happenings_cells v2 v3 v4
theorem ct_X5_leastWorth (l : Launch) (E : vE) (F : Nat) (a_o a_o_worth a_q1 a_q1_streets a_q1_names a_q1_extras a_q1_happenings a_q1_watchers a_q1_weeks a_q1_streets_roads a_q1_streets_takes a_q1_streets_hours a_q1_happenings_cells : Nat) (o_worth : Nat → Int32) (q1_wage : Int32) (q1_delay : Int32) (q1_odds : Int32) (q1_clock : Int32) (q1_hasWeeks : Int32) (q1_streets_corners : Int32) (q1_streets_takes : Nat → Int32) (q1_happenings_many : Int32) (q1_happenings_cells : Nat → Int32) (v2 : Int32) (v3 : Int32) (v4 : Int32) (u : Int32 × (Nat → Int32)) (hf : X5_leastWorth F o_worth q1_streets_corners q1_streets_takes q1_happenings_many q1_happenings_cells v2 v3 v4 = some u) : CtI l yX5_leastWorth cX5_leastWorth 10 (some .int) 13 E [.ref a_o, .ref a_q1, .int v2, .int v3, .int v4] (wd_X5_leastWorth E a_o a_o_worth a_q1 a_q1_streets a_q1_names a_q1_extras a_q1_happenings a_q1_watchers a_q1_weeks a_q1_streets_roads a_q1_streets_takes a_q1_streets_hours a_q1_happenings_cells o_worth q1_wage q1_delay q1_odds q1_clock q1_hasWeeks q1_streets_corners q1_streets_takes q1_happenings_many q1_happenings_cells) (wd_X5_leastWorth E a_o a_o_worth a_q1 a_q1_streets a_q1_names a_q1_extras a_q1_happenings a_q1_watchers a_q1_weeks a_q1_streets_roads a_q1_streets_takes a_q1_streets_hours a_q1_happenings_cells u.2 q1_wage q1_delay q1_odds q1_clock q1_hasWeeks q1_streets_corners q1_streets_takes q1_happenings_many q1_happenings_cells) u.1 := ct_X5_leastWorth_r l E F a_o a_o_worth a_q1 a_q1_streets a_q1_names a_q1_extras a_q1_happenings a_q1_watchers a_q1_weeks a_q1_streets_roads a_q1_streets_takes a_q1_streets_hours a_q1_happenings_cells 5 o_worth q1_wage q1_delay q1_odds q1_clock q1_hasWeeks q1_streets_corners q1_streets_takes q1_happenings_many q1_happenings_cells v2 v3 v4 u hf
theorem ct_X5_mostWorth (l : Launch) (E : vE) (F : Nat) (a_o a_o_worth a_q1 a_q1_streets a_q1_names a_q1_extras a_q1_happenings a_q1_watchers a_q1_weeks a_q1_streets_roads a_q1_streets_takes a_q1_streets_hours a_q1_happenings_cells : Nat) (o_worth : Nat → Int32) (q1_wage : Int32) (q1_delay : Int32) (q1_odds : Int32) (q1_clock : Int32) (q1_hasWeeks : Int32) (q1_streets_corners : Int32) (q1_streets_takes : Nat → Int32) (q1_happenings_many : Int32) (q1_happenings_cells : Nat → Int32) (v2 : Int32) (v3 : Int32) (v4 : Int32) (u : Int32 × (Nat → Int32)) (hf : X5_mostWorth F o_worth q1_streets_corners q1_streets_takes q1_happenings_many q1_happenings_cells v2 v3 v4 = some u) : CtI l yX5_mostWorth cX5_mostWorth 9 (some .int) 14 E [.ref a_o, .ref a_q1, .int v2, .int v3, .int v4] (wd_X5_mostWorth E a_o a_o_worth a_q1 a_q1_streets a_q1_names a_q1_extras a_q1_happenings a_q1_watchers a_q1_weeks a_q1_streets_roads a_q1_streets_takes a_q1_streets_hours a_q1_happenings_cells o_worth q1_wage q1_delay q1_odds q1_clock q1_hasWeeks q1_streets_corners q1_streets_takes q1_happenings_many q1_happenings_cells) (wd_X5_mostWorth E a_o a_o_worth a_q1 a_q1_streets a_q1_names a_q1_extras a_q1_happenings a_q1_watchers a_q1_weeks a_q1_streets_roads a_q1_streets_takes a_q1_streets_hours a_q1_happenings_cells u.2 q1_wage q1_delay q1_odds q1_clock q1_hasWeeks q1_streets_corners q1_streets_takes q1_happenings_many q1_happenings_cells) u.1 := ct_X5_mostWorth_s l E F a_o a_o_worth a_q1 a_q1_streets a_q1_names a_q1_extras a_q1_happenings a_q1_watchers a_q1_weeks a_q1_streets_roads a_q1_streets_takes a_q1_streets_hours a_q1_happenings_cells (X5_leastWorth_r F 5) (X5_leastWorth_r_d 5) (X5_leastWorth_r_db 5) (ct_X5_leastWorth_r l E F a_o a_o_worth a_q1 a_q1_streets a_q1_names a_q1_extras a_q1_happenings a_q1_watchers a_q1_weeks a_q1_streets_roads a_q1_streets_takes a_q1_streets_hours a_q1_happenings_cells 5) o_worth q1_wage q1_delay q1_odds q1_clock q1_hasWeeks q1_streets_corners q1_streets_takes q1_happenings_many q1_happenings_cells v2 v3 v4 u hf
def X5_worthOf (F : Nat) (o_worth : Nat → Int32) (q1_streets_corners : Int32) (q1_streets_takes : Nat → Int32) (q1_happenings_many : Int32) (q1_happenings_cells : Nat → Int32) (v2 : Int32) (v3 : Int32) : Option (Int32 × (Nat → Int32)) :=
  (X5_forget F o_worth).bind fun u1 =>
  (X5_leastWorth F u1 q1_streets_corners q1_streets_takes q1_happenings_many q1_happenings_cells v2 v3 (0 : Int32)).bind fun u9 =>
  some (u9.1, u9.2)
abbrev wd_X5_worthOf (E : vE) (a_o a_o_worth a_q1 a_q1_streets a_q1_names a_q1_extras a_q1_happenings a_q1_watchers a_q1_weeks a_q1_streets_roads a_q1_streets_takes a_q1_streets_hours a_q1_happenings_cells : Nat) (o_worth : Nat → Int32) (q1_wage : Int32) (q1_delay : Int32) (q1_odds : Int32) (q1_clock : Int32) (q1_hasWeeks : Int32) (q1_streets_corners : Int32) (q1_streets_takes : Nat → Int32) (q1_happenings_many : Int32) (q1_happenings_cells : Nat → Int32) : va_W := [(a_o, .inr (5, [.ref a_o_worth])), (a_o_worth, .inl (E.2.1, 4096, .inl o_worth)), (a_q1, .inr (0, [.int q1_wage, .int q1_delay, .int q1_odds, .int q1_clock, .int q1_hasWeeks, .ref a_q1_streets, .ref a_q1_names, .ref a_q1_extras, .ref a_q1_happenings, .ref a_q1_watchers, .ref a_q1_weeks])), (a_q1_streets, .inr (6, [.int q1_streets_corners, .ref a_q1_streets_roads, .ref a_q1_streets_takes, .ref a_q1_streets_hours])), (a_q1_streets_takes, .inl (E.2.1, 64, .inl q1_streets_takes)), (a_q1_happenings, .inr (7, [.int 5, .ref a_q1_happenings_cells, .int q1_happenings_many])), (a_q1_happenings_cells, .inl (E.2.1, 40, .inl q1_happenings_cells))]
set_option maxHeartbeats 4000000 in
set_option maxRecDepth 100000 in
theorem ct_X5_worthOf (l : Launch) (E : vE) (F : Nat) (a_o a_o_worth a_q1 a_q1_streets a_q1_names a_q1_extras a_q1_happenings a_q1_watchers a_q1_weeks a_q1_streets_roads a_q1_streets_takes a_q1_streets_hours a_q1_happenings_cells : Nat) (o_worth : Nat → Int32) (q1_wage : Int32) (q1_delay : Int32) (q1_odds : Int32) (q1_clock : Int32) (q1_hasWeeks : Int32) (q1_streets_corners : Int32) (q1_streets_takes : Nat → Int32) (q1_happenings_many : Int32) (q1_happenings_cells : Nat → Int32) (v2 : Int32) (v3 : Int32) (u : Int32 × (Nat → Int32)) (hf : X5_worthOf F o_worth q1_streets_corners q1_streets_takes q1_happenings_many q1_happenings_cells v2 v3 = some u) :
    CtI l yX5_worthOf cX5_worthOf 4 (some .int) 14 E [.ref a_o, .ref a_q1, .int v2, .int v3] (wd_X5_worthOf E a_o a_o_worth a_q1 a_q1_streets a_q1_names a_q1_extras a_q1_happenings a_q1_watchers a_q1_weeks a_q1_streets_roads a_q1_streets_takes a_q1_streets_hours a_q1_happenings_cells o_worth q1_wage q1_delay q1_odds q1_clock q1_hasWeeks q1_streets_corners q1_streets_takes q1_happenings_many q1_happenings_cells) (wd_X5_worthOf E a_o a_o_worth a_q1 a_q1_streets a_q1_names a_q1_extras a_q1_happenings a_q1_watchers a_q1_weeks a_q1_streets_roads a_q1_streets_takes a_q1_streets_hours a_q1_happenings_cells u.2 q1_wage q1_delay q1_odds q1_clock q1_hasWeeks q1_streets_corners q1_streets_takes q1_happenings_many q1_happenings_cells) u.1 := by
  refine ctI (by decide) (Nat.le_of_ble_eq_true rfl) ?_
  intro p e s m below meth cd A ls aa QQ hq cx hP hD hS hl
  obtain ⟨⟨hx, hb, hml, hown, hts⟩, hr, hlocks, hK, hA, hX⟩ := id cx
  have hl : lv_has ls 4 [(0, .ref a_o), (1, .ref a_q1), (2, .int v2), (3, .int v3)] := hl
  unfold X5_worthOf at hf
  refine lv_aload_n hx hb dX5_worthOf_0 rfl (lv_at hl 0 rfl) ?_
  obtain ⟨u1, hu1, hf⟩ := bd hf
  refine callVV (wn := (wd_X5_worthOf E a_o a_o_worth a_q1 a_q1_streets a_q1_names a_q1_extras a_q1_happenings a_q1_watchers a_q1_weeks a_q1_streets_roads a_q1_streets_takes a_q1_streets_hours a_q1_happenings_cells u1 q1_wage q1_delay q1_odds q1_clock q1_hasWeeks q1_streets_corners q1_streets_takes q1_happenings_many q1_happenings_cells)) (n1 := 7) (ct_X5_forget l E F a_o a_o_worth o_worth u1 hu1) [0, 1] cal_X5_forget cav_X5_forget lk_X5_53 cx hP hD hS hl dX5_worthOf_1 rfl rfl rfl rfl (Nat.le_of_ble_eq_true rfl) ⟨Nat.le_of_ble_eq_true rfl, Nat.le_of_ble_eq_true rfl⟩ rfl (by decide +kernel) rfl [some 0, some 1, none, none, none, none, none] rfl (by decide +kernel) rfl (fun H locs hP hD hS => ?_)
  refine lv_aload_n hx hb dX5_worthOf_4 rfl (lv_at hl 0 rfl) ?_
  refine lv_aload_n hx hb dX5_worthOf_5 rfl (lv_at hl 1 rfl) ?_
  refine lv_iload_n hx hb dX5_worthOf_6 rfl (lv_at hl 2 rfl) ?_
  refine lv_iload_n hx hb dX5_worthOf_7 rfl (lv_at hl 3 rfl) ?_
  refine lv_iconst (v := 0) hx hb dX5_worthOf_8 (by decide) ?_
  obtain ⟨u9, hu9, hf⟩ := bd hf
  refine callVI (wn := (wd_X5_worthOf E a_o a_o_worth a_q1 a_q1_streets a_q1_names a_q1_extras a_q1_happenings a_q1_watchers a_q1_weeks a_q1_streets_roads a_q1_streets_takes a_q1_streets_hours a_q1_happenings_cells u9.2 q1_wage q1_delay q1_odds q1_clock q1_hasWeeks q1_streets_corners q1_streets_takes q1_happenings_many q1_happenings_cells)) (n1 := 7) (ct_X5_leastWorth l E F a_o a_o_worth a_q1 a_q1_streets a_q1_names a_q1_extras a_q1_happenings a_q1_watchers a_q1_weeks a_q1_streets_roads a_q1_streets_takes a_q1_streets_hours a_q1_happenings_cells u1 q1_wage q1_delay q1_odds q1_clock q1_hasWeeks q1_streets_corners q1_streets_takes q1_happenings_many q1_happenings_cells v2 v3 (0 : Int32) u9 hu9) [0, 1, 2, 3, 4, 5, 6] cal_X5_leastWorth cav_X5_leastWorth lk_X5_56 cx hP hD hS hl dX5_worthOf_9 rfl rfl rfl rfl (Nat.le_of_ble_eq_true rfl) ⟨Nat.le_of_ble_eq_true rfl, Nat.le_of_ble_eq_true rfl⟩ rfl (by decide +kernel) rfl [some 0, some 1, some 2, some 3, some 4, some 5, some 6] rfl (by decide +kernel) rfl (fun H locs hP hD hS => ?_)
  obtain rfl := Option.some.inj hf
  subst hq
  exact retI cx hP hD hS dX5_worthOf_12
def X5_firstMove_j70 (F : Nat) (o_worth : Nat → Int32) (q1_streets_corners : Int32) (q1_streets_takes : Nat → Int32) (q1_happenings_many : Int32) (q1_happenings_cells : Nat → Int32) (v2 : Int32) (v3 : Int32) (v4 : Int32) (v5 : Int32) (v6 : Int32) : Option ((Int32 × Int32 × Int32 × (Nat → Int32)) ⊕ ((Int32 × (Nat → Int32)))) :=
  some (.inl (v4, v5, (v6 + 1), o_worth))
def X5_firstMove_j62 (F : Nat) (o_worth : Nat → Int32) (q1_streets_corners : Int32) (q1_streets_takes : Nat → Int32) (q1_happenings_many : Int32) (q1_happenings_cells : Nat → Int32) (v2 : Int32) (v3 : Int32) (v6 : Int32) (v7 : Int32) : Option ((Int32 × Int32 × Int32 × (Nat → Int32)) ⊕ ((Int32 × (Nat → Int32)))) :=
  X5_firstMove_j70 F o_worth q1_streets_corners q1_streets_takes q1_happenings_many q1_happenings_cells v2 v3 v6 v7 v6
def X5_firstMove_b13 (F : Nat) (q1_streets_corners : Int32) (q1_streets_takes : Nat → Int32) (q1_happenings_many : Int32) (q1_happenings_cells : Nat → Int32) (v2 : Int32) (v3 : Int32) (st13 : Int32 × Int32 × Int32 × (Nat → Int32)) : Option ((Int32 × Int32 × Int32 × (Nat → Int32)) ⊕ ((Int32 × (Nat → Int32)))) :=
  if q1_streets_corners ≤ st13.2.2.1 then
  some (.inr (st13.1, st13.2.2.2))
  else
  (X5_canMove q1_streets_takes v2 st13.2.2.1).bind fun u29 =>
  if u29 = 0 then
  X5_firstMove_j70 F st13.2.2.2 q1_streets_corners q1_streets_takes q1_happenings_many q1_happenings_cells v2 v3 st13.1 st13.2.1 st13.2.2.1
  else
  (X5_mostWorth F st13.2.2.2 q1_streets_corners q1_streets_takes q1_happenings_many q1_happenings_cells st13.2.2.1 v3 (0 : Int32)).bind fun u44 =>
  if st13.2.1 = (-1) then
  X5_firstMove_j62 F u44.2 q1_streets_corners q1_streets_takes q1_happenings_many q1_happenings_cells v2 v3 st13.2.2.1 u44.1
  else
  if st13.2.1 ≤ u44.1 then
  X5_firstMove_j70 F u44.2 q1_streets_corners q1_streets_takes q1_happenings_many q1_happenings_cells v2 v3 st13.1 st13.2.1 st13.2.2.1
  else
  X5_firstMove_j62 F u44.2 q1_streets_corners q1_streets_takes q1_happenings_many q1_happenings_cells v2 v3 st13.2.2.1 u44.1
def X5_firstMove (F : Nat) (o_worth : Nat → Int32) (q1_streets_corners : Int32) (q1_streets_takes : Nat → Int32) (q1_happenings_many : Int32) (q1_happenings_cells : Nat → Int32) (v2 : Int32) (v3 : Int32) : Option (Int32 × (Nat → Int32)) :=
  (X5_forget F o_worth).bind fun u1 =>
  (iter (X5_firstMove_b13 F q1_streets_corners q1_streets_takes q1_happenings_many q1_happenings_cells v2 v3) F (v2, (-1), 0, u1)).bind (fun (e13 : Int32 × (Nat → Int32)) =>
    some (e13.1, e13.2))
abbrev wd_X5_firstMove (E : vE) (a_o a_o_worth a_q1 a_q1_streets a_q1_names a_q1_extras a_q1_happenings a_q1_watchers a_q1_weeks a_q1_streets_roads a_q1_streets_takes a_q1_streets_hours a_q1_happenings_cells : Nat) (o_worth : Nat → Int32) (q1_wage : Int32) (q1_delay : Int32) (q1_odds : Int32) (q1_clock : Int32) (q1_hasWeeks : Int32) (q1_streets_corners : Int32) (q1_streets_takes : Nat → Int32) (q1_happenings_many : Int32) (q1_happenings_cells : Nat → Int32) : va_W := [(a_o, .inr (5, [.ref a_o_worth])), (a_o_worth, .inl (E.2.1, 4096, .inl o_worth)), (a_q1, .inr (0, [.int q1_wage, .int q1_delay, .int q1_odds, .int q1_clock, .int q1_hasWeeks, .ref a_q1_streets, .ref a_q1_names, .ref a_q1_extras, .ref a_q1_happenings, .ref a_q1_watchers, .ref a_q1_weeks])), (a_q1_streets, .inr (6, [.int q1_streets_corners, .ref a_q1_streets_roads, .ref a_q1_streets_takes, .ref a_q1_streets_hours])), (a_q1_streets_takes, .inl (E.2.1, 64, .inl q1_streets_takes)), (a_q1_happenings, .inr (7, [.int 5, .ref a_q1_happenings_cells, .int q1_happenings_many])), (a_q1_happenings_cells, .inl (E.2.1, 40, .inl q1_happenings_cells))]
set_option maxHeartbeats 4000000 in
set_option maxRecDepth 100000 in
theorem ct_X5_firstMove (l : Launch) (E : vE) (F : Nat) (a_o a_o_worth a_q1 a_q1_streets a_q1_names a_q1_extras a_q1_happenings a_q1_watchers a_q1_weeks a_q1_streets_roads a_q1_streets_takes a_q1_streets_hours a_q1_happenings_cells : Nat) (o_worth : Nat → Int32) (q1_wage : Int32) (q1_delay : Int32) (q1_odds : Int32) (q1_clock : Int32) (q1_hasWeeks : Int32) (q1_streets_corners : Int32) (q1_streets_takes : Nat → Int32) (q1_happenings_many : Int32) (q1_happenings_cells : Nat → Int32) (v2 : Int32) (v3 : Int32) (u : Int32 × (Nat → Int32)) (hf : X5_firstMove F o_worth q1_streets_corners q1_streets_takes q1_happenings_many q1_happenings_cells v2 v3 = some u) :
    CtI l yX5_firstMove cX5_firstMove 8 (some .int) 15 E [.ref a_o, .ref a_q1, .int v2, .int v3] (wd_X5_firstMove E a_o a_o_worth a_q1 a_q1_streets a_q1_names a_q1_extras a_q1_happenings a_q1_watchers a_q1_weeks a_q1_streets_roads a_q1_streets_takes a_q1_streets_hours a_q1_happenings_cells o_worth q1_wage q1_delay q1_odds q1_clock q1_hasWeeks q1_streets_corners q1_streets_takes q1_happenings_many q1_happenings_cells) (wd_X5_firstMove E a_o a_o_worth a_q1 a_q1_streets a_q1_names a_q1_extras a_q1_happenings a_q1_watchers a_q1_weeks a_q1_streets_roads a_q1_streets_takes a_q1_streets_hours a_q1_happenings_cells u.2 q1_wage q1_delay q1_odds q1_clock q1_hasWeeks q1_streets_corners q1_streets_takes q1_happenings_many q1_happenings_cells) u.1 := by
  refine ctI (by decide) (Nat.le_of_ble_eq_true rfl) ?_
  intro p e s m below meth cd A ls aa QQ hq cx hP hD hS hl
  obtain ⟨⟨hx, hb, hml, hown, hts⟩, hr, hlocks, hK, hA, hX⟩ := id cx
  have hl : lv_has ls 8 [(0, .ref a_o), (1, .ref a_q1), (2, .int v2), (3, .int v3)] := hl
  unfold X5_firstMove at hf
  refine lv_aload_n hx hb dX5_firstMove_0 rfl (lv_at hl 0 rfl) ?_
  obtain ⟨u1, hu1, hf⟩ := bd hf
  refine callVV (wn := (wd_X5_firstMove E a_o a_o_worth a_q1 a_q1_streets a_q1_names a_q1_extras a_q1_happenings a_q1_watchers a_q1_weeks a_q1_streets_roads a_q1_streets_takes a_q1_streets_hours a_q1_happenings_cells u1 q1_wage q1_delay q1_odds q1_clock q1_hasWeeks q1_streets_corners q1_streets_takes q1_happenings_many q1_happenings_cells)) (n1 := 7) (ct_X5_forget l E F a_o a_o_worth o_worth u1 hu1) [0, 1] cal_X5_forget cav_X5_forget lk_X5_53 cx hP hD hS hl dX5_firstMove_1 rfl rfl rfl rfl (Nat.le_of_ble_eq_true rfl) ⟨Nat.le_of_ble_eq_true rfl, Nat.le_of_ble_eq_true rfl⟩ rfl (by decide +kernel) rfl [some 0, some 1, none, none, none, none, none] rfl (by decide +kernel) rfl (fun H locs hP hD hS => ?_)
  refine lv_iload_n hx hb dX5_firstMove_4 rfl (lv_at hl 2 rfl) ?_
  refine lv_istore (lv' := [(4, .int v2), (0, .ref a_o), (1, .ref a_q1), (2, .int v2), (3, .int v3)]) hx hb dX5_firstMove_5 hl (by decide) rfl (fun ls hl => ?_)
  refine lv_iconst (v := (-1)) hx hb dX5_firstMove_7 (by decide) ?_
  refine lv_istore (lv' := [(5, .int (-1)), (4, .int v2), (0, .ref a_o), (1, .ref a_q1), (2, .int v2), (3, .int v3)]) hx hb dX5_firstMove_8 hl (by decide) rfl (fun ls hl => ?_)
  refine lv_iconst (v := 0) hx hb dX5_firstMove_10 (by decide) ?_
  refine lv_istore (lv' := [(6, .int 0), (5, .int (-1)), (4, .int v2), (0, .ref a_o), (1, .ref a_q1), (2, .int v2), (3, .int v3)]) hx hb dX5_firstMove_11 hl (by decide) rfl (fun ls hl => ?_)
  obtain ⟨e13, hit13, hf⟩ := bd hf
  refine iter_W (b := X5_firstMove_b13 F q1_streets_corners q1_streets_takes q1_happenings_many q1_happenings_cells v2 v3) (P := fun st13 => ∀ (H : Heap) (locs : List Loc) (ls : Array Slot), va_P E.1 vwCl (wd_X5_firstMove E a_o a_o_worth a_q1 a_q1_streets a_q1_names a_q1_extras a_q1_happenings a_q1_watchers a_q1_weeks a_q1_streets_roads a_q1_streets_takes a_q1_streets_hours a_q1_happenings_cells st13.2.2.2 q1_wage q1_delay q1_odds q1_clock q1_hasWeeks q1_streets_corners q1_streets_takes q1_happenings_many q1_happenings_cells) H → va_D A (wd_X5_firstMove E a_o a_o_worth a_q1 a_q1_streets a_q1_names a_q1_extras a_q1_happenings a_q1_watchers a_q1_weeks a_q1_streets_roads a_q1_streets_takes a_q1_streets_hours a_q1_happenings_cells st13.2.2.2 q1_wage q1_delay q1_odds q1_clock q1_hasWeeks q1_streets_corners q1_streets_takes q1_happenings_many q1_happenings_cells) → va_S A s.heap H locs → lv_has ls 8 [(0, .ref a_o), (1, .ref a_q1), (2, .int v2), (3, .int v3), (4, .int st13.1), (5, .int st13.2.1), (6, .int st13.2.2.1)] → W p l e (rmd 15) s m aa below meth cd H locs 0 0 QQ (F0 m 13 ls [])) (G := (fun (e13 : Int32 × (Nat → Int32)) => ∀ (H : Heap) (locs : List Loc) (ls : Array Slot), va_P E.1 vwCl (wd_X5_firstMove E a_o a_o_worth a_q1 a_q1_streets a_q1_names a_q1_extras a_q1_happenings a_q1_watchers a_q1_weeks a_q1_streets_roads a_q1_streets_takes a_q1_streets_hours a_q1_happenings_cells e13.2 q1_wage q1_delay q1_odds q1_clock q1_hasWeeks q1_streets_corners q1_streets_takes q1_happenings_many q1_happenings_cells) H → va_D A (wd_X5_firstMove E a_o a_o_worth a_q1 a_q1_streets a_q1_names a_q1_extras a_q1_happenings a_q1_watchers a_q1_weeks a_q1_streets_roads a_q1_streets_takes a_q1_streets_hours a_q1_happenings_cells e13.2 q1_wage q1_delay q1_odds q1_clock q1_hasWeeks q1_streets_corners q1_streets_takes q1_happenings_many q1_happenings_cells) → va_S A s.heap H locs → lv_has ls 8 [(4, .int e13.1)] → W p l e (rmd 15) s m aa below meth cd H locs 0 0 QQ (F0 m 76 ls []))) ?_ F (v2, (-1), 0, u1) e13 hit13 ?_ _ _ _ hP hD hS (lv_sub hl [3, 4, 5, 6, 2, 1, 0] rfl)
  · intro st13 r13 hf hk13 he13 H locs ls hP hD hS hl
    have hj70 : ∀ (v4_j70 : Int32) (v5_j70 : Int32) (v6_j70 : Int32) (o_worth_j70 : Nat → Int32) (H : Heap) (locs : List Loc) (ls : Array Slot), X5_firstMove_j70 F o_worth_j70 q1_streets_corners q1_streets_takes q1_happenings_many q1_happenings_cells v2 v3 v4_j70 v5_j70 v6_j70 = some r13 → va_P E.1 vwCl (wd_X5_firstMove E a_o a_o_worth a_q1 a_q1_streets a_q1_names a_q1_extras a_q1_happenings a_q1_watchers a_q1_weeks a_q1_streets_roads a_q1_streets_takes a_q1_streets_hours a_q1_happenings_cells o_worth_j70 q1_wage q1_delay q1_odds q1_clock q1_hasWeeks q1_streets_corners q1_streets_takes q1_happenings_many q1_happenings_cells) H → va_D A (wd_X5_firstMove E a_o a_o_worth a_q1 a_q1_streets a_q1_names a_q1_extras a_q1_happenings a_q1_watchers a_q1_weeks a_q1_streets_roads a_q1_streets_takes a_q1_streets_hours a_q1_happenings_cells o_worth_j70 q1_wage q1_delay q1_odds q1_clock q1_hasWeeks q1_streets_corners q1_streets_takes q1_happenings_many q1_happenings_cells) → va_S A s.heap H locs → lv_has ls 8 [(0, .ref a_o), (1, .ref a_q1), (2, .int v2), (3, .int v3), (4, .int v4_j70), (5, .int v5_j70), (6, .int v6_j70)] → W p l e (rmd 15) s m aa below meth cd H locs 0 0 QQ (F0 m 70 ls []) := by
      intro v4_j70 v5_j70 v6_j70 o_worth_j70 H locs ls hf hP hD hS hl
      unfold X5_firstMove_j70 at hf
      refine lv_iinc (v := (v6_j70 + 1)) (lv' := [(6, .int (v6_j70 + 1)), (0, .ref a_o), (1, .ref a_q1), (2, .int v2), (3, .int v3), (4, .int v4_j70), (5, .int v5_j70)]) hx hb dX5_firstMove_70 hl (k := 6) rfl rfl (by decide) rfl (fun ls hl => ?_)
      refine lv_goto (tgt := 13) hx hb dX5_firstMove_73 (by decide) ?_
      exact hk13 _ (Option.some.inj hf).symm _ _ _ hP hD hS (lv_sub hl [1, 2, 3, 4, 5, 6, 0] rfl)
    have hj62 : ∀ (v6_j62 : Int32) (v7_j62 : Int32) (o_worth_j62 : Nat → Int32) (H : Heap) (locs : List Loc) (ls : Array Slot), X5_firstMove_j62 F o_worth_j62 q1_streets_corners q1_streets_takes q1_happenings_many q1_happenings_cells v2 v3 v6_j62 v7_j62 = some r13 → va_P E.1 vwCl (wd_X5_firstMove E a_o a_o_worth a_q1 a_q1_streets a_q1_names a_q1_extras a_q1_happenings a_q1_watchers a_q1_weeks a_q1_streets_roads a_q1_streets_takes a_q1_streets_hours a_q1_happenings_cells o_worth_j62 q1_wage q1_delay q1_odds q1_clock q1_hasWeeks q1_streets_corners q1_streets_takes q1_happenings_many q1_happenings_cells) H → va_D A (wd_X5_firstMove E a_o a_o_worth a_q1 a_q1_streets a_q1_names a_q1_extras a_q1_happenings a_q1_watchers a_q1_weeks a_q1_streets_roads a_q1_streets_takes a_q1_streets_hours a_q1_happenings_cells o_worth_j62 q1_wage q1_delay q1_odds q1_clock q1_hasWeeks q1_streets_corners q1_streets_takes q1_happenings_many q1_happenings_cells) → va_S A s.heap H locs → lv_has ls 8 [(0, .ref a_o), (1, .ref a_q1), (2, .int v2), (3, .int v3), (6, .int v6_j62), (7, .int v7_j62)] → W p l e (rmd 15) s m aa below meth cd H locs 0 0 QQ (F0 m 62 ls []) := by
      intro v6_j62 v7_j62 o_worth_j62 H locs ls hf hP hD hS hl
      unfold X5_firstMove_j62 at hf
      refine lv_iload hx hb dX5_firstMove_62 (lv_at hl 4 rfl) ?_
      refine lv_istore (lv' := [(4, .int v6_j62), (0, .ref a_o), (1, .ref a_q1), (2, .int v2), (3, .int v3), (6, .int v6_j62), (7, .int v7_j62)]) hx hb dX5_firstMove_64 hl (by decide) rfl (fun ls hl => ?_)
      refine lv_iload hx hb dX5_firstMove_66 (lv_at hl 6 rfl) ?_
      refine lv_istore (lv' := [(5, .int v7_j62), (4, .int v6_j62), (0, .ref a_o), (1, .ref a_q1), (2, .int v2), (3, .int v3), (6, .int v6_j62), (7, .int v7_j62)]) hx hb dX5_firstMove_68 hl (by decide) rfl (fun ls hl => ?_)
      exact hj70 _ _ _ _ _ _ _ hf hP hD hS (lv_sub hl [2, 3, 4, 5, 1, 0, 6] rfl)
    unfold X5_firstMove_b13 at hf
    refine lv_iload hx hb dX5_firstMove_13 (lv_at hl 6 rfl) ?_
    refine lv_aload_n hx hb dX5_firstMove_15 rfl (lv_at hl 1 rfl) ?_
    refine va_get (D := E.1) (ci := 0) (v := .ref a_q1_streets) (C := RX0) (T := TX0) (N := 11) hx hb hts inX0 hown hK hP 2 rfl rfl 5 (by decide) (hts _ fl_X5_42) (fun _ h9 => h9) rfl dX5_firstMove_16 ?_
    refine va_get (D := E.1) (ci := 6) (v := .int q1_streets_corners) (C := RX6) (T := TX6) (N := 4) hx hb hts inX6 hown hK hP 3 rfl rfl 0 (by decide) (hts _ fl_X5_46) (fun _ h9 => h9) rfl dX5_firstMove_19 ?_
    refine lv_icmp_ge (tgt := 76) hx hb dX5_firstMove_22 (by decide) (fun hc => ?_) (fun hc => ?_)
    · have hf := it_t hc hf
      exact he13 _ (Option.some.inj hf).symm _ _ _ hP hD hS (lv_sub hl [4] rfl)
    · have hf := it_f hc hf
      refine lv_aload_n hx hb dX5_firstMove_25 rfl (lv_at hl 1 rfl) ?_
      refine lv_iload_n hx hb dX5_firstMove_26 rfl (lv_at hl 2 rfl) ?_
      refine lv_iload hx hb dX5_firstMove_27 (lv_at hl 6 rfl) ?_
      obtain ⟨u29, hu29, hf⟩ := bd hf
      refine keepSI (ct_X5_canMove l E a_q1 a_q1_streets a_q1_names a_q1_extras a_q1_happenings a_q1_watchers a_q1_weeks a_q1_streets_roads a_q1_streets_takes a_q1_streets_hours q1_wage q1_delay q1_odds q1_clock q1_hasWeeks q1_streets_corners q1_streets_takes v2 st13.2.2.1 u29 hu29) [2, 3, 4] cal_X5_canMove sta_X5_canMove lk_X5_60 cx hP hD hS hl dX5_firstMove_29 rfl rfl (Nat.le_of_ble_eq_true rfl) ⟨Nat.le_of_ble_eq_true rfl, Nat.le_of_ble_eq_true rfl⟩ rfl (by decide) (fun H locs hP hS => ?_)
      refine lv_if_ne (tgt := 38) hx hb dX5_firstMove_32 (by decide) (fun hc => ?_) (fun hc => ?_)
      · have hf := it_f hc hf
        refine lv_aload_n hx hb dX5_firstMove_38 rfl (lv_at hl 0 rfl) ?_
        refine lv_aload_n hx hb dX5_firstMove_39 rfl (lv_at hl 1 rfl) ?_
        refine lv_iload hx hb dX5_firstMove_40 (lv_at hl 6 rfl) ?_
        refine lv_iload_n hx hb dX5_firstMove_42 rfl (lv_at hl 3 rfl) ?_
        refine lv_iconst (v := 0) hx hb dX5_firstMove_43 (by decide) ?_
        obtain ⟨u44, hu44, hf⟩ := bd hf
        refine callVI (wn := (wd_X5_firstMove E a_o a_o_worth a_q1 a_q1_streets a_q1_names a_q1_extras a_q1_happenings a_q1_watchers a_q1_weeks a_q1_streets_roads a_q1_streets_takes a_q1_streets_hours a_q1_happenings_cells u44.2 q1_wage q1_delay q1_odds q1_clock q1_hasWeeks q1_streets_corners q1_streets_takes q1_happenings_many q1_happenings_cells)) (n1 := 7) (ct_X5_mostWorth l E F a_o a_o_worth a_q1 a_q1_streets a_q1_names a_q1_extras a_q1_happenings a_q1_watchers a_q1_weeks a_q1_streets_roads a_q1_streets_takes a_q1_streets_hours a_q1_happenings_cells st13.2.2.2 q1_wage q1_delay q1_odds q1_clock q1_hasWeeks q1_streets_corners q1_streets_takes q1_happenings_many q1_happenings_cells st13.2.2.1 v3 (0 : Int32) u44 hu44) [0, 1, 2, 3, 4, 5, 6] cal_X5_mostWorth cav_X5_mostWorth lk_X5_64 cx hP hD hS hl dX5_firstMove_44 rfl rfl rfl rfl (Nat.le_of_ble_eq_true rfl) ⟨Nat.le_of_ble_eq_true rfl, Nat.le_of_ble_eq_true rfl⟩ rfl (by decide +kernel) rfl [some 0, some 1, some 2, some 3, some 4, some 5, some 6] rfl (by decide +kernel) rfl (fun H locs hP hD hS => ?_)
        refine lv_istore (lv' := [(7, .int u44.1), (0, .ref a_o), (1, .ref a_q1), (2, .int v2), (3, .int v3), (4, .int st13.1), (5, .int st13.2.1), (6, .int st13.2.2.1)]) hx hb dX5_firstMove_47 hl (by decide) rfl (fun ls hl => ?_)
        refine lv_iload hx hb dX5_firstMove_49 (lv_at hl 6 rfl) ?_
        refine lv_iconst (v := (-1)) hx hb dX5_firstMove_51 (by decide) ?_
        refine lv_icmp_eq (tgt := 62) hx hb dX5_firstMove_52 (by decide) (fun hc => ?_) (fun hc => ?_)
        · have hf := it_t hc hf
          exact hj62 _ _ _ _ _ _ hf hP hD hS (lv_sub hl [1, 2, 3, 4, 7, 0] rfl)
        · have hf := it_f hc hf
          refine lv_iload hx hb dX5_firstMove_55 (lv_at hl 0 rfl) ?_
          refine lv_iload hx hb dX5_firstMove_57 (lv_at hl 6 rfl) ?_
          refine lv_icmp_ge (tgt := 70) hx hb dX5_firstMove_59 (by decide) (fun hc => ?_) (fun hc => ?_)
          · have hf := it_t hc hf
            exact hj70 _ _ _ _ _ _ _ hf hP hD hS (lv_sub hl [1, 2, 3, 4, 5, 6, 7] rfl)
          · have hf := it_f hc hf
            exact hj62 _ _ _ _ _ _ hf hP hD hS (lv_sub hl [1, 2, 3, 4, 7, 0] rfl)
      · have hf := it_t hc hf
        refine lv_goto (tgt := 70) hx hb dX5_firstMove_35 (by decide) ?_
        exact hj70 _ _ _ _ _ _ _ hf hP hD hS (lv_sub hl [0, 1, 2, 3, 4, 5, 6] rfl)
  · refine fun H locs ls hP hD hS hl => ?_
    refine lv_iload hx hb dX5_firstMove_76 (lv_at hl 0 rfl) ?_
    obtain rfl := Option.some.inj hf
    subst hq
    exact retI cx hP hD hS dX5_firstMove_78
