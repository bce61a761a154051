def X0_walk_j162 (F : Nat) (o_streets_corners : Int32) (o_streets_takes : Nat → Int32) (o_streets_hours : Nat → Int32) (o_extras_many : Int32) (o_extras_cells : Nat → Int32) (o_happenings_many : Int32) (o_happenings_cells : Nat → Int32) (v1 : Int32) (v2 : Int32) (v3 : Int32) : Option ((Int32 × Int32 × (Nat → Int32)) ⊕ ((Int32 × (Nat → Int32)))) :=
  some (.inl (v1, (v3 + 1), o_extras_cells))
def X0_walk_j119 (F : Nat) (o_streets_corners : Int32) (o_streets_takes : Nat → Int32) (o_streets_hours : Nat → Int32) (o_extras_many : Int32) (o_extras_cells : Nat → Int32) (o_happenings_many : Int32) (o_happenings_cells : Nat → Int32) (v1 : Int32) (v2 : Int32) (v3 : Int32) (v5 : Int32) (k0 : Int32) : Option ((Int32 × Int32 × (Nat → Int32)) ⊕ ((Int32 × (Nat → Int32)))) :=
  if k0 = (-1) then
  X0_walk_j162 F o_streets_corners o_streets_takes o_streets_hours o_extras_many o_extras_cells o_happenings_many o_happenings_cells v1 v2 v3
  else
  (X6_takesBetween o_streets_takes v5 k0).bind fun u141 =>
  (X7_set 35 5 o_extras_many o_extras_cells v3 (1 : Int32) (u141 - 1)).bind fun u146 =>
  (X7_set 35 5 o_extras_many u146 v3 (0 : Int32) k0).bind fun u157 =>
  X0_walk_j162 F o_streets_corners o_streets_takes o_streets_hours o_extras_many u157 o_happenings_many o_happenings_cells 1 v2 v3
def X0_walk_b10 (F : Nat) (o_streets_corners : Int32) (o_streets_takes : Nat → Int32) (o_streets_hours : Nat → Int32) (o_extras_many : Int32) (o_happenings_many : Int32) (o_happenings_cells : Nat → Int32) (v2 : Int32) (st10 : Int32 × Int32 × (Nat → Int32)) : Option ((Int32 × Int32 × (Nat → Int32)) ⊕ ((Int32 × (Nat → Int32)))) :=
  if o_extras_many ≤ st10.2.1 then
  some (.inr (st10.1, st10.2.2))
  else
  (X7_get 35 5 o_extras_many st10.2.2 st10.2.1 (1 : Int32)).bind fun u27 =>
  if u27 ≤ 0 then
  (X7_get 35 5 o_extras_many st10.2.2 st10.2.1 (2 : Int32)).bind fun u55 =>
  (X0_soonest F o_happenings_many o_happenings_cells (u55 &&& v2)).bind fun u60 =>
  if u60 = (-1) then
  X0_walk_j162 F o_streets_corners o_streets_takes o_streets_hours o_extras_many st10.2.2 o_happenings_many o_happenings_cells st10.1 v2 st10.2.1
  else
  (X7_get 35 5 o_extras_many st10.2.2 st10.2.1 (0 : Int32)).bind fun u80 =>
  (X7_get 40 5 o_happenings_many o_happenings_cells u60 (0 : Int32)).bind fun u92 =>
  if u80 = u92 then
  X0_walk_j119 F o_streets_corners o_streets_takes o_streets_hours o_extras_many st10.2.2 o_happenings_many o_happenings_cells st10.1 v2 st10.2.1 u80 (-1)
  else
  (X6_firstCorner F o_streets_corners o_streets_takes o_streets_hours u80 u92).bind fun u116 =>
  X0_walk_j119 F o_streets_corners o_streets_takes o_streets_hours o_extras_many st10.2.2 o_happenings_many o_happenings_cells st10.1 v2 st10.2.1 u80 u116
  else
  (X7_raiseBy 35 5 o_extras_many st10.2.2 st10.2.1 (1 : Int32) (-1 : Int32)).bind fun u40 =>
  X0_walk_j162 F o_streets_corners o_streets_takes o_streets_hours o_extras_many u40 o_happenings_many o_happenings_cells 1 v2 st10.2.1
def X0_walk (F : Nat) (o_streets_corners : Int32) (o_streets_takes : Nat → Int32) (o_streets_hours : Nat → Int32) (o_extras_many : Int32) (o_extras_cells : Nat → Int32) (o_happenings_many : Int32) (o_happenings_cells : Nat → Int32) : Option (Int32 × (Nat → Int32)) :=
  (X0_withFate F o_happenings_many o_happenings_cells (0 : Int32)).bind fun u4 =>
  (iter (X0_walk_b10 F o_streets_corners o_streets_takes o_streets_hours o_extras_many o_happenings_many o_happenings_cells u4) F (0, 0, o_extras_cells)).bind (fun (e10 : Int32 × (Nat → Int32)) =>
    if isZ e10.1 then some (e10.1, e10.2) else none)
abbrev wd_X0_walk (E : vE) (a_o a_o_streets a_o_names a_o_extras a_o_happenings a_o_watchers a_o_weeks a_o_streets_roads a_o_streets_takes a_o_streets_hours a_o_extras_cells a_o_happenings_cells : Nat) (o_wage : Int32) (o_delay : Int32) (o_odds : Int32) (o_clock : Int32) (o_hasWeeks : Int32) (o_streets_corners : Int32) (o_streets_takes : Nat → Int32) (o_streets_hours : Nat → Int32) (o_extras_many : Int32) (o_extras_cells : Nat → Int32) (o_happenings_many : Int32) (o_happenings_cells : Nat → Int32) : va_W := [(a_o, .inr (0, [.int o_wage, .int o_delay, .int o_odds, .int o_clock, .int o_hasWeeks, .ref a_o_streets, .ref a_o_names, .ref a_o_extras, .ref a_o_happenings, .ref a_o_watchers, .ref a_o_weeks])), (a_o_streets, .inr (6, [.int o_streets_corners, .ref a_o_streets_roads, .ref a_o_streets_takes, .ref a_o_streets_hours])), (a_o_streets_takes, .inl (E.2.1, 64, .inl o_streets_takes)), (a_o_streets_hours, .inl (E.2.1, 64, .inl o_streets_hours)), (a_o_extras, .inr (7, [.int 5, .ref a_o_extras_cells, .int o_extras_many])), (a_o_extras_cells, .inl (E.2.1, 35, .inl o_extras_cells)), (a_o_happenings, .inr (7, [.int 5, .ref a_o_happenings_cells, .int o_happenings_many])), (a_o_happenings_cells, .inl (E.2.1, 40, .inl o_happenings_cells))]
set_option maxHeartbeats 4000000 in
set_option maxRecDepth 100000 in
theorem ct_X0_walk (l : Launch) (E : vE) (F : Nat) (a_o a_o_streets a_o_names a_o_extras a_o_happenings a_o_watchers a_o_weeks a_o_streets_roads a_o_streets_takes a_o_streets_hours a_o_extras_cells a_o_happenings_cells : Nat) (o_wage : Int32) (o_delay : Int32) (o_odds : Int32) (o_clock : Int32) (o_hasWeeks : Int32) (o_streets_corners : Int32) (o_streets_takes : Nat → Int32) (o_streets_hours : Nat → Int32) (o_extras_many : Int32) (o_extras_cells : Nat → Int32) (o_happenings_many : Int32) (o_happenings_cells : Nat → Int32) (u : Int32 × (Nat → Int32)) (hf : X0_walk F o_streets_corners o_streets_takes o_streets_hours o_extras_many o_extras_cells o_happenings_many o_happenings_cells = some u) :
    CtI l yX0_walk cX0_walk 8 (some .boolean) 3 E [.ref a_o] (wd_X0_walk E a_o a_o_streets a_o_names a_o_extras a_o_happenings a_o_watchers a_o_weeks a_o_streets_roads a_o_streets_takes a_o_streets_hours a_o_extras_cells a_o_happenings_cells o_wage o_delay o_odds o_clock o_hasWeeks o_streets_corners o_streets_takes o_streets_hours o_extras_many o_extras_cells o_happenings_many o_happenings_cells) (wd_X0_walk E a_o a_o_streets a_o_names a_o_extras a_o_happenings a_o_watchers a_o_weeks a_o_streets_roads a_o_streets_takes a_o_streets_hours a_o_extras_cells a_o_happenings_cells o_wage o_delay o_odds o_clock o_hasWeeks o_streets_corners o_streets_takes o_streets_hours o_extras_many u.2 o_happenings_many o_happenings_cells) u.1 := by
  refine ctI (by decide) (Nat.le_of_ble_eq_true rfl) ?_
  intro p e s m below meth cd A ls aa QQ hq cx hP hD hS hl
  obtain ⟨⟨hx, hb, hml, hown, hts⟩, hr, hlocks, hK, hA, hX⟩ := id cx
  have hl : lv_has ls 8 [(0, .ref a_o)] := hl
  unfold X0_walk at hf
  refine lv_iconst (v := 0) hx hb dX0_walk_0 (by decide) ?_
  refine lv_istore_n (lv' := [(1, .int 0), (0, .ref a_o)]) hx hb dX0_walk_1 rfl hl (by decide) rfl (fun ls hl => ?_)
  refine lv_aload_n hx hb dX0_walk_2 rfl (lv_at hl 1 rfl) ?_
  refine lv_iconst (v := 0) hx hb dX0_walk_3 (by decide) ?_
  obtain ⟨u4, hu4, hf⟩ := bd hf
  refine keepVI (ct_X0_withFate l E F a_o a_o_streets a_o_names a_o_extras a_o_happenings a_o_watchers a_o_weeks a_o_happenings_cells o_wage o_delay o_odds o_clock o_hasWeeks o_happenings_many o_happenings_cells (0 : Int32) u4 hu4) [0, 6, 7] cal_X0_withFate cav_X0_withFate lk_X0_110 cx hP hD hS hl dX0_walk_4 rfl rfl rfl rfl (Nat.le_of_ble_eq_true rfl) ⟨Nat.le_of_ble_eq_true rfl, Nat.le_of_ble_eq_true rfl⟩ rfl (by decide) (fun H locs hP hS => ?_)
  refine lv_istore_n (lv' := [(2, .int u4), (1, .int 0), (0, .ref a_o)]) hx hb dX0_walk_7 rfl hl (by decide) rfl (fun ls hl => ?_)
  refine lv_iconst (v := 0) hx hb dX0_walk_8 (by decide) ?_
  refine lv_istore_n (lv' := [(3, .int 0), (2, .int u4), (1, .int 0), (0, .ref a_o)]) hx hb dX0_walk_9 rfl hl (by decide) rfl (fun ls hl => ?_)
  obtain ⟨e10, hit10, hf⟩ := bd hf
  refine iter_W (b := X0_walk_b10 F o_streets_corners o_streets_takes o_streets_hours o_extras_many o_happenings_many o_happenings_cells u4) (P := fun st10 => ∀ (H : Heap) (locs : List Loc) (ls : Array Slot), va_P E.1 vwCl (wd_X0_walk E a_o a_o_streets a_o_names a_o_extras a_o_happenings a_o_watchers a_o_weeks a_o_streets_roads a_o_streets_takes a_o_streets_hours a_o_extras_cells a_o_happenings_cells o_wage o_delay o_odds o_clock o_hasWeeks o_streets_corners o_streets_takes o_streets_hours o_extras_many st10.2.2 o_happenings_many o_happenings_cells) H → va_D A (wd_X0_walk E a_o a_o_streets a_o_names a_o_extras a_o_happenings a_o_watchers a_o_weeks a_o_streets_roads a_o_streets_takes a_o_streets_hours a_o_extras_cells a_o_happenings_cells o_wage o_delay o_odds o_clock o_hasWeeks o_streets_corners o_streets_takes o_streets_hours o_extras_many st10.2.2 o_happenings_many o_happenings_cells) → va_S A s.heap H locs → lv_has ls 8 [(0, .ref a_o), (1, .int st10.1), (2, .int u4), (3, .int st10.2.1)] → W p l e (rmd 3) s m aa below meth cd H locs 0 0 QQ (F0 m 10 ls [])) (G := (fun (e10 : Int32 × (Nat → Int32)) => ∀ (H : Heap) (locs : List Loc) (ls : Array Slot), va_P E.1 vwCl (wd_X0_walk E a_o a_o_streets a_o_names a_o_extras a_o_happenings a_o_watchers a_o_weeks a_o_streets_roads a_o_streets_takes a_o_streets_hours a_o_extras_cells a_o_happenings_cells o_wage o_delay o_odds o_clock o_hasWeeks o_streets_corners o_streets_takes o_streets_hours o_extras_many e10.2 o_happenings_many o_happenings_cells) H → va_D A (wd_X0_walk E a_o a_o_streets a_o_names a_o_extras a_o_happenings a_o_watchers a_o_weeks a_o_streets_roads a_o_streets_takes a_o_streets_hours a_o_extras_cells a_o_happenings_cells o_wage o_delay o_odds o_clock o_hasWeeks o_streets_corners o_streets_takes o_streets_hours o_extras_many e10.2 o_happenings_many o_happenings_cells) → va_S A s.heap H locs → lv_has ls 8 [(1, .int e10.1)] → W p l e (rmd 3) s m aa below meth cd H locs 0 0 QQ (F0 m 168 ls []))) ?_ F (0, 0, o_extras_cells) e10 hit10 ?_ _ _ _ hP hD hS (lv_sub hl [3, 2, 1, 0] rfl)
  · intro st10 r10 hf hk10 he10 H locs ls hP hD hS hl
    have hj162 : ∀ (v1_j162 : Int32) (v3_j162 : Int32) (o_extras_cells_j162 : Nat → Int32) (H : Heap) (locs : List Loc) (ls : Array Slot), X0_walk_j162 F o_streets_corners o_streets_takes o_streets_hours o_extras_many o_extras_cells_j162 o_happenings_many o_happenings_cells v1_j162 u4 v3_j162 = some r10 → va_P E.1 vwCl (wd_X0_walk E a_o a_o_streets a_o_names a_o_extras a_o_happenings a_o_watchers a_o_weeks a_o_streets_roads a_o_streets_takes a_o_streets_hours a_o_extras_cells a_o_happenings_cells o_wage o_delay o_odds o_clock o_hasWeeks o_streets_corners o_streets_takes o_streets_hours o_extras_many o_extras_cells_j162 o_happenings_many o_happenings_cells) H → va_D A (wd_X0_walk E a_o a_o_streets a_o_names a_o_extras a_o_happenings a_o_watchers a_o_weeks a_o_streets_roads a_o_streets_takes a_o_streets_hours a_o_extras_cells a_o_happenings_cells o_wage o_delay o_odds o_clock o_hasWeeks o_streets_corners o_streets_takes o_streets_hours o_extras_many o_extras_cells_j162 o_happenings_many o_happenings_cells) → va_S A s.heap H locs → lv_has ls 8 [(0, .ref a_o), (1, .int v1_j162), (2, .int u4), (3, .int v3_j162)] → W p l e (rmd 3) s m aa below meth cd H locs 0 0 QQ (F0 m 162 ls []) := by
      intro v1_j162 v3_j162 o_extras_cells_j162 H locs ls hf hP hD hS hl
      unfold X0_walk_j162 at hf
      refine lv_iinc (v := (v3_j162 + 1)) (lv' := [(3, .int (v3_j162 + 1)), (0, .ref a_o), (1, .int v1_j162), (2, .int u4)]) hx hb dX0_walk_162 hl (k := 3) rfl rfl (by decide) rfl (fun ls hl => ?_)
      refine lv_goto (tgt := 10) hx hb dX0_walk_165 (by decide) ?_
      exact hk10 _ (Option.some.inj hf).symm _ _ _ hP hD hS (lv_sub hl [1, 2, 3, 0] rfl)
    have hj119 : ∀ (v1_j119 : Int32) (v3_j119 : Int32) (v5_j119 : Int32) (o_extras_cells_j119 : Nat → Int32) (k0_j119 : Int32) (H : Heap) (locs : List Loc) (ls : Array Slot), X0_walk_j119 F o_streets_corners o_streets_takes o_streets_hours o_extras_many o_extras_cells_j119 o_happenings_many o_happenings_cells v1_j119 u4 v3_j119 v5_j119 k0_j119 = some r10 → va_P E.1 vwCl (wd_X0_walk E a_o a_o_streets a_o_names a_o_extras a_o_happenings a_o_watchers a_o_weeks a_o_streets_roads a_o_streets_takes a_o_streets_hours a_o_extras_cells a_o_happenings_cells o_wage o_delay o_odds o_clock o_hasWeeks o_streets_corners o_streets_takes o_streets_hours o_extras_many o_extras_cells_j119 o_happenings_many o_happenings_cells) H → va_D A (wd_X0_walk E a_o a_o_streets a_o_names a_o_extras a_o_happenings a_o_watchers a_o_weeks a_o_streets_roads a_o_streets_takes a_o_streets_hours a_o_extras_cells a_o_happenings_cells o_wage o_delay o_odds o_clock o_hasWeeks o_streets_corners o_streets_takes o_streets_hours o_extras_many o_extras_cells_j119 o_happenings_many o_happenings_cells) → va_S A s.heap H locs → lv_has ls 8 [(0, .ref a_o), (1, .int v1_j119), (2, .int u4), (3, .int v3_j119), (5, .int v5_j119)] → W p l e (rmd 3) s m aa below meth cd H locs 0 0 QQ (F0 m 119 ls [.int k0_j119]) := by
      intro v1_j119 v3_j119 v5_j119 o_extras_cells_j119 k0_j119 H locs ls hf hP hD hS hl
      unfold X0_walk_j119 at hf
      refine lv_istore (lv' := [(7, .int k0_j119), (0, .ref a_o), (1, .int v1_j119), (2, .int u4), (3, .int v3_j119), (5, .int v5_j119)]) hx hb dX0_walk_119 hl (by decide) rfl (fun ls hl => ?_)
      refine lv_iload hx hb dX0_walk_121 (lv_at hl 0 rfl) ?_
      refine lv_iconst (v := (-1)) hx hb dX0_walk_123 (by decide) ?_
      refine lv_icmp_eq (tgt := 162) hx hb dX0_walk_124 (by decide) (fun hc => ?_) (fun hc => ?_)
      · have hf := it_t hc hf
        exact hj162 _ _ _ _ _ _ hf hP hD hS (lv_sub hl [1, 2, 3, 4] rfl)
      · have hf := it_f hc hf
        refine lv_aload_n hx hb dX0_walk_127 rfl (lv_at hl 1 rfl) ?_
        refine va_get (D := E.1) (ci := 0) (v := .ref a_o_extras) (C := RX0) (T := TX0) (N := 11) hx hb hts inX0 hown hK hP 0 rfl rfl 7 (by decide) (hts _ fl_X0_30) (fun _ h9 => h9) rfl dX0_walk_128 ?_
        refine lv_iload_n hx hb dX0_walk_131 rfl (lv_at hl 4 rfl) ?_
        refine lv_iconst (v := 1) hx hb dX0_walk_132 (by decide) ?_
        refine lv_aload_n hx hb dX0_walk_133 rfl (lv_at hl 1 rfl) ?_
        refine va_get (D := E.1) (ci := 0) (v := .ref a_o_streets) (C := RX0) (T := TX0) (N := 11) hx hb hts inX0 hown hK hP 0 rfl rfl 5 (by decide) (hts _ fl_X0_12) (fun _ h9 => h9) rfl dX0_walk_134 ?_
        refine lv_iload hx hb dX0_walk_137 (lv_at hl 5 rfl) ?_
        refine lv_iload hx hb dX0_walk_139 (lv_at hl 0 rfl) ?_
        obtain ⟨u141, hu141, hf⟩ := bd hf
        refine keepVI (ct_X6_takesBetween l E a_o_streets a_o_streets_roads a_o_streets_takes a_o_streets_hours o_streets_corners o_streets_takes v5_j119 k0_j119 u141 hu141) [1, 2] cal_X6_takesBetween cav_X6_takesBetween lk_X0_132 cx hP hD hS hl dX0_walk_141 rfl rfl rfl rfl (Nat.le_of_ble_eq_true rfl) ⟨Nat.le_of_ble_eq_true rfl, Nat.le_of_ble_eq_true rfl⟩ rfl (by decide) (fun H locs hP hS => ?_)
        refine lv_iconst (v := 1) hx hb dX0_walk_144 (by decide) ?_
        refine lv_isub hx hb dX0_walk_145 ?_
        obtain ⟨u146, hu146, hf⟩ := bd hf
        refine callVV (wn := (wd_X0_walk E a_o a_o_streets a_o_names a_o_extras a_o_happenings a_o_watchers a_o_weeks a_o_streets_roads a_o_streets_takes a_o_streets_hours a_o_extras_cells a_o_happenings_cells o_wage o_delay o_odds o_clock o_hasWeeks o_streets_corners o_streets_takes o_streets_hours o_extras_many u146 o_happenings_many o_happenings_cells)) (n1 := 8) (ct_X7_set l E a_o_extras a_o_extras_cells 35 5 o_extras_many o_extras_cells_j119 v3_j119 (1 : Int32) (u141 - 1) u146 hu146) [4, 5] cal_X7_set cav_X7_set lk_X0_84 cx hP hD hS hl dX0_walk_146 rfl rfl rfl rfl (Nat.le_of_ble_eq_true rfl) ⟨Nat.le_of_ble_eq_true rfl, Nat.le_of_ble_eq_true rfl⟩ rfl (by decide +kernel) rfl [none, none, none, none, some 0, some 1, none, none] rfl (by decide +kernel) rfl (fun H locs hP hD hS => ?_)
        refine lv_aload_n hx hb dX0_walk_149 rfl (lv_at hl 1 rfl) ?_
        refine va_get (D := E.1) (ci := 0) (v := .ref a_o_extras) (C := RX0) (T := TX0) (N := 11) hx hb hts inX0 hown hK hP 0 rfl rfl 7 (by decide) (hts _ fl_X0_30) (fun _ h9 => h9) rfl dX0_walk_150 ?_
        refine lv_iload_n hx hb dX0_walk_153 rfl (lv_at hl 4 rfl) ?_
        refine lv_iconst (v := 0) hx hb dX0_walk_154 (by decide) ?_
        refine lv_iload hx hb dX0_walk_155 (lv_at hl 0 rfl) ?_
        obtain ⟨u157, hu157, hf⟩ := bd hf
        refine callVV (wn := (wd_X0_walk E a_o a_o_streets a_o_names a_o_extras a_o_happenings a_o_watchers a_o_weeks a_o_streets_roads a_o_streets_takes a_o_streets_hours a_o_extras_cells a_o_happenings_cells o_wage o_delay o_odds o_clock o_hasWeeks o_streets_corners o_streets_takes o_streets_hours o_extras_many u157 o_happenings_many o_happenings_cells)) (n1 := 8) (ct_X7_set l E a_o_extras a_o_extras_cells 35 5 o_extras_many u146 v3_j119 (0 : Int32) k0_j119 u157 hu157) [4, 5] cal_X7_set cav_X7_set lk_X0_84 cx hP hD hS hl dX0_walk_157 rfl rfl rfl rfl (Nat.le_of_ble_eq_true rfl) ⟨Nat.le_of_ble_eq_true rfl, Nat.le_of_ble_eq_true rfl⟩ rfl (by decide +kernel) rfl [none, none, none, none, some 0, some 1, none, none] rfl (by decide +kernel) rfl (fun H locs hP hD hS => ?_)
        refine lv_iconst (v := 1) hx hb dX0_walk_160 (by decide) ?_
        refine lv_istore_n (lv' := [(1, .int 1), (7, .int k0_j119), (0, .ref a_o), (2, .int u4), (3, .int v3_j119), (5, .int v5_j119)]) hx hb dX0_walk_161 rfl hl (by decide) rfl (fun ls hl => ?_)
        exact hj162 _ _ _ _ _ _ hf hP hD hS (lv_sub hl [2, 0, 3, 4] rfl)
    unfold X0_walk_b10 at hf
    refine lv_iload_n hx hb dX0_walk_10 rfl (lv_at hl 3 rfl) ?_
    refine lv_aload_n hx hb dX0_walk_11 rfl (lv_at hl 0 rfl) ?_
    refine va_get (D := E.1) (ci := 0) (v := .ref a_o_extras) (C := RX0) (T := TX0) (N := 11) hx hb hts inX0 hown hK hP 0 rfl rfl 7 (by decide) (hts _ fl_X0_30) (fun _ h9 => h9) rfl dX0_walk_12 ?_
    refine va_get (D := E.1) (ci := 7) (v := .int o_extras_many) (C := RX7) (T := TX7) (N := 3) hx hb hts inX7 hown hK hP 4 rfl rfl 2 (by decide) (hts _ fl_X0_67) (fun _ h9 => h9) rfl dX0_walk_15 ?_
    refine lv_icmp_ge (tgt := 168) hx hb dX0_walk_18 (by decide) (fun hc => ?_) (fun hc => ?_)
    · have hf := it_t hc hf
      exact he10 _ (Option.some.inj hf).symm _ _ _ hP hD hS (lv_sub hl [1] rfl)
    · have hf := it_f hc hf
      refine lv_aload_n hx hb dX0_walk_21 rfl (lv_at hl 0 rfl) ?_
      refine va_get (D := E.1) (ci := 0) (v := .ref a_o_extras) (C := RX0) (T := TX0) (N := 11) hx hb hts inX0 hown hK hP 0 rfl rfl 7 (by decide) (hts _ fl_X0_30) (fun _ h9 => h9) rfl dX0_walk_22 ?_
      refine lv_iload_n hx hb dX0_walk_25 rfl (lv_at hl 3 rfl) ?_
      refine lv_iconst (v := 1) hx hb dX0_walk_26 (by decide) ?_
      obtain ⟨u27, hu27, hf⟩ := bd hf
      refine keepVI (ct_X7_get l E a_o_extras a_o_extras_cells 35 5 o_extras_many st10.2.2 st10.2.1 (1 : Int32) u27 hu27) [4, 5] cal_X7_get cav_X7_get lk_X0_92 cx hP hD hS hl dX0_walk_27 rfl rfl rfl rfl (Nat.le_of_ble_eq_true rfl) ⟨Nat.le_of_ble_eq_true rfl, Nat.le_of_ble_eq_true rfl⟩ rfl (by decide) (fun H locs hP hS => ?_)
      refine lv_if_le (tgt := 48) hx hb dX0_walk_30 (by decide) (fun hc => ?_) (fun hc => ?_)
      · have hf := it_t hc hf
        refine lv_aload_n hx hb dX0_walk_48 rfl (lv_at hl 0 rfl) ?_
        refine lv_aload_n hx hb dX0_walk_49 rfl (lv_at hl 0 rfl) ?_
        refine va_get (D := E.1) (ci := 0) (v := .ref a_o_extras) (C := RX0) (T := TX0) (N := 11) hx hb hts inX0 hown hK hP 0 rfl rfl 7 (by decide) (hts _ fl_X0_30) (fun _ h9 => h9) rfl dX0_walk_50 ?_
        refine lv_iload_n hx hb dX0_walk_53 rfl (lv_at hl 3 rfl) ?_
        refine lv_iconst (v := 2) hx hb dX0_walk_54 (by decide) ?_
        obtain ⟨u55, hu55, hf⟩ := bd hf
        refine keepVI (ct_X7_get l E a_o_extras a_o_extras_cells 35 5 o_extras_many st10.2.2 st10.2.1 (2 : Int32) u55 hu55) [4, 5] cal_X7_get cav_X7_get lk_X0_92 cx hP hD hS hl dX0_walk_55 rfl rfl rfl rfl (Nat.le_of_ble_eq_true rfl) ⟨Nat.le_of_ble_eq_true rfl, Nat.le_of_ble_eq_true rfl⟩ rfl (by decide) (fun H locs hP hS => ?_)
        refine lv_iload_n hx hb dX0_walk_58 rfl (lv_at hl 2 rfl) ?_
        refine lv_iand hx hb dX0_walk_59 ?_
        obtain ⟨u60, hu60, hf⟩ := bd hf
        refine keepVI (ct_X0_soonest l E F a_o a_o_streets a_o_names a_o_extras a_o_happenings a_o_watchers a_o_weeks a_o_happenings_cells o_wage o_delay o_odds o_clock o_hasWeeks o_happenings_many o_happenings_cells (u55 &&& u4) u60 hu60) [0, 6, 7] cal_X0_soonest cav_X0_soonest lk_X0_113 cx hP hD hS hl dX0_walk_60 rfl rfl rfl rfl (Nat.le_of_ble_eq_true rfl) ⟨Nat.le_of_ble_eq_true rfl, Nat.le_of_ble_eq_true rfl⟩ rfl (by decide) (fun H locs hP hS => ?_)
        refine lv_istore (lv' := [(4, .int u60), (0, .ref a_o), (1, .int st10.1), (2, .int u4), (3, .int st10.2.1)]) hx hb dX0_walk_63 hl (by decide) rfl (fun ls hl => ?_)
        refine lv_iload hx hb dX0_walk_65 (lv_at hl 0 rfl) ?_
        refine lv_iconst (v := (-1)) hx hb dX0_walk_67 (by decide) ?_
        refine lv_icmp_ne (tgt := 74) hx hb dX0_walk_68 (by decide) (fun hc => ?_) (fun hc => ?_)
        · have hf := it_f hc hf
          refine lv_aload_n hx hb dX0_walk_74 rfl (lv_at hl 1 rfl) ?_
          refine va_get (D := E.1) (ci := 0) (v := .ref a_o_extras) (C := RX0) (T := TX0) (N := 11) hx hb hts inX0 hown hK hP 0 rfl rfl 7 (by decide) (hts _ fl_X0_30) (fun _ h9 => h9) rfl dX0_walk_75 ?_
          refine lv_iload_n hx hb dX0_walk_78 rfl (lv_at hl 4 rfl) ?_
          refine lv_iconst (v := 0) hx hb dX0_walk_79 (by decide) ?_
          obtain ⟨u80, hu80, hf⟩ := bd hf
          refine keepVI (ct_X7_get l E a_o_extras a_o_extras_cells 35 5 o_extras_many st10.2.2 st10.2.1 (0 : Int32) u80 hu80) [4, 5] cal_X7_get cav_X7_get lk_X0_92 cx hP hD hS hl dX0_walk_80 rfl rfl rfl rfl (Nat.le_of_ble_eq_true rfl) ⟨Nat.le_of_ble_eq_true rfl, Nat.le_of_ble_eq_true rfl⟩ rfl (by decide) (fun H locs hP hS => ?_)
          refine lv_istore (lv' := [(5, .int u80), (4, .int u60), (0, .ref a_o), (1, .int st10.1), (2, .int u4), (3, .int st10.2.1)]) hx hb dX0_walk_83 hl (by decide) rfl (fun ls hl => ?_)
          refine lv_aload_n hx hb dX0_walk_85 rfl (lv_at hl 2 rfl) ?_
          refine va_get (D := E.1) (ci := 0) (v := .ref a_o_happenings) (C := RX0) (T := TX0) (N := 11) hx hb hts inX0 hown hK hP 0 rfl rfl 8 (by decide) (hts _ fl_X0_34) (fun _ h9 => h9) rfl dX0_walk_86 ?_
          refine lv_iload hx hb dX0_walk_89 (lv_at hl 1 rfl) ?_
          refine lv_iconst (v := 0) hx hb dX0_walk_91 (by decide) ?_
          obtain ⟨u92, hu92, hf⟩ := bd hf
          refine keepVI (ct_X7_get l E a_o_happenings a_o_happenings_cells 40 5 o_happenings_many o_happenings_cells u60 (0 : Int32) u92 hu92) [6, 7] cal_X7_get cav_X7_get lk_X0_92 cx hP hD hS hl dX0_walk_92 rfl rfl rfl rfl (Nat.le_of_ble_eq_true rfl) ⟨Nat.le_of_ble_eq_true rfl, Nat.le_of_ble_eq_true rfl⟩ rfl (by decide) (fun H locs hP hS => ?_)
          refine lv_istore (lv' := [(6, .int u92), (5, .int u80), (4, .int u60), (0, .ref a_o), (1, .int st10.1), (2, .int u4), (3, .int st10.2.1)]) hx hb dX0_walk_95 hl (by decide) rfl (fun ls hl => ?_)
          refine lv_iload hx hb dX0_walk_97 (lv_at hl 1 rfl) ?_
          refine lv_iload hx hb dX0_walk_99 (lv_at hl 0 rfl) ?_
          refine lv_icmp_ne (tgt := 108) hx hb dX0_walk_101 (by decide) (fun hc => ?_) (fun hc => ?_)
          · have hf := it_f hc hf
            refine lv_aload_n hx hb dX0_walk_108 rfl (lv_at hl 3 rfl) ?_
            refine va_get (D := E.1) (ci := 0) (v := .ref a_o_streets) (C := RX0) (T := TX0) (N := 11) hx hb hts inX0 hown hK hP 0 rfl rfl 5 (by decide) (hts _ fl_X0_12) (fun _ h9 => h9) rfl dX0_walk_109 ?_
            refine lv_iload hx hb dX0_walk_112 (lv_at hl 1 rfl) ?_
            refine lv_iload hx hb dX0_walk_114 (lv_at hl 0 rfl) ?_
            obtain ⟨u116, hu116, hf⟩ := bd hf
            refine keepVI (ct_X6_firstCorner l E F a_o_streets a_o_streets_roads a_o_streets_takes a_o_streets_hours o_streets_corners o_streets_takes o_streets_hours u80 u92 u116 hu116) [1, 2, 3] cal_X6_firstCorner cav_X6_firstCorner lk_X0_129 cx hP hD hS hl dX0_walk_116 rfl rfl rfl rfl (Nat.le_of_ble_eq_true rfl) ⟨Nat.le_of_ble_eq_true rfl, Nat.le_of_ble_eq_true rfl⟩ rfl (by decide) (fun H locs hP hS => ?_)
            exact hj119 _ _ _ _ _ _ _ _ hf hP hD hS (lv_sub hl [3, 4, 5, 6, 1] rfl)
          · have hf := it_t hc hf
            refine lv_iconst (v := (-1)) hx hb dX0_walk_104 (by decide) ?_
            refine lv_goto (tgt := 119) hx hb dX0_walk_105 (by decide) ?_
            exact hj119 _ _ _ _ _ _ _ _ hf hP hD hS (lv_sub hl [3, 4, 5, 6, 1] rfl)
        · have hf := it_t hc hf
          refine lv_goto (tgt := 162) hx hb dX0_walk_71 (by decide) ?_
          exact hj162 _ _ _ _ _ _ hf hP hD hS (lv_sub hl [1, 2, 3, 4] rfl)
      · have hf := it_f hc hf
        refine lv_aload_n hx hb dX0_walk_33 rfl (lv_at hl 0 rfl) ?_
        refine va_get (D := E.1) (ci := 0) (v := .ref a_o_extras) (C := RX0) (T := TX0) (N := 11) hx hb hts inX0 hown hK hP 0 rfl rfl 7 (by decide) (hts _ fl_X0_30) (fun _ h9 => h9) rfl dX0_walk_34 ?_
        refine lv_iload_n hx hb dX0_walk_37 rfl (lv_at hl 3 rfl) ?_
        refine lv_iconst (v := 1) hx hb dX0_walk_38 (by decide) ?_
        refine lv_iconst (v := (-1)) hx hb dX0_walk_39 (by decide) ?_
        obtain ⟨u40, hu40, hf⟩ := bd hf
        refine callVV (wn := (wd_X0_walk E a_o a_o_streets a_o_names a_o_extras a_o_happenings a_o_watchers a_o_weeks a_o_streets_roads a_o_streets_takes a_o_streets_hours a_o_extras_cells a_o_happenings_cells o_wage o_delay o_odds o_clock o_hasWeeks o_streets_corners o_streets_takes o_streets_hours o_extras_many u40 o_happenings_many o_happenings_cells)) (n1 := 8) (ct_X7_raiseBy l E a_o_extras a_o_extras_cells 35 5 o_extras_many st10.2.2 st10.2.1 (1 : Int32) (-1 : Int32) u40 hu40) [4, 5] cal_X7_raiseBy cav_X7_raiseBy lk_X0_103 cx hP hD hS hl dX0_walk_40 rfl rfl rfl rfl (Nat.le_of_ble_eq_true rfl) ⟨Nat.le_of_ble_eq_true rfl, Nat.le_of_ble_eq_true rfl⟩ rfl (by decide +kernel) rfl [none, none, none, none, some 0, some 1, none, none] rfl (by decide +kernel) rfl (fun H locs hP hD hS => ?_)
        refine lv_iconst (v := 1) hx hb dX0_walk_43 (by decide) ?_
        refine lv_istore_n (lv' := [(1, .int 1), (0, .ref a_o), (2, .int u4), (3, .int st10.2.1)]) hx hb dX0_walk_44 rfl hl (by decide) rfl (fun ls hl => ?_)
        refine lv_goto (tgt := 162) hx hb dX0_walk_45 (by decide) ?_
        exact hj162 _ _ _ _ _ _ hf hP hD hS (lv_sub hl [1, 0, 2, 3] rfl)
  · refine fun H locs ls hP hD hS hl => ?_
    refine lv_iload_n hx hb dX0_walk_168 rfl (lv_at hl 0 rfl) ?_
    obtain ⟨hz, hf⟩ := ck hf
    obtain rfl := Option.some.inj hf
    subst hq
    exact retZ cx hz hP hD hS dX0_walk_169
def J6_bitCount_0f7a4 (v0 : Int32) : Option (Int32) :=
  some ((((((((v0 - ((jushr v0 1) &&& 1431655765)) &&& 858993459) + ((jushr (v0 - ((jushr v0 1) &&& 1431655765)) 2) &&& 858993459)) + (jushr (((v0 - ((jushr v0 1) &&& 1431655765)) &&& 858993459) + ((jushr (v0 - ((jushr v0 1) &&& 1431655765)) 2) &&& 858993459)) 4)) &&& 252645135) + (jushr (((((v0 - ((jushr v0 1) &&& 1431655765)) &&& 858993459) + ((jushr (v0 - ((jushr v0 1) &&& 1431655765)) 2) &&& 858993459)) + (jushr (((v0 - ((jushr v0 1) &&& 1431655765)) &&& 858993459) + ((jushr (v0 - ((jushr v0 1) &&& 1431655765)) 2) &&& 858993459)) 4)) &&& 252645135) 8)) + (jushr ((((((v0 - ((jushr v0 1) &&& 1431655765)) &&& 858993459) + ((jushr (v0 - ((jushr v0 1) &&& 1431655765)) 2) &&& 858993459)) + (jushr (((v0 - ((jushr v0 1) &&& 1431655765)) &&& 858993459) + ((jushr (v0 - ((jushr v0 1) &&& 1431655765)) 2) &&& 858993459)) 4)) &&& 252645135) + (jushr (((((v0 - ((jushr v0 1) &&& 1431655765)) &&& 858993459) + ((jushr (v0 - ((jushr v0 1) &&& 1431655765)) 2) &&& 858993459)) + (jushr (((v0 - ((jushr v0 1) &&& 1431655765)) &&& 858993459) + ((jushr (v0 - ((jushr v0 1) &&& 1431655765)) 2) &&& 858993459)) 4)) &&& 252645135) 8)) 16)) &&& 63)
abbrev wd_J6_bitCount_0f7a4 (E : vE) : va_W := []
set_option maxHeartbeats 4000000 in
set_option maxRecDepth 100000 in
theorem ct_J6_bitCount_0f7a4 (l : Launch) (E : vE) (v0 : Int32) (u : Int32) (hf : J6_bitCount_0f7a4 v0 = some u) :
    CtI l yJ6_bitCount_0f7a4 cJ6_bitCount_0f7a4 1 (some .int) 0 E [.int v0] (wd_J6_bitCount_0f7a4 E) (wd_J6_bitCount_0f7a4 E) u := by
  refine ctI (by decide) (Nat.le_of_ble_eq_true rfl) ?_
  intro p e s m below meth cd A ls aa QQ hq cx hP hD hS hl
  obtain ⟨⟨hx, hb, hml, hown, hts⟩, hr, hlocks, hK, hA, hX⟩ := id cx
  have hl : lv_has ls 1 [(0, .int v0)] := hl
  unfold J6_bitCount_0f7a4 at hf
  refine lv_iload_n hx hb dJ6_bitCount_0f7a4_0 rfl (lv_at hl 0 rfl) ?_
  refine lv_iload_n hx hb dJ6_bitCount_0f7a4_1 rfl (lv_at hl 0 rfl) ?_
  refine lv_iconst (v := 1) hx hb dJ6_bitCount_0f7a4_2 (by decide) ?_
  refine lv_iushr (v := (jushr v0 1)) hx hb dJ6_bitCount_0f7a4_3 rfl ?_
  refine lv_ldcw (v := 1431655765) hx hb hown (hts _ ki_J6_265) dJ6_bitCount_0f7a4_4 ?_
  refine lv_iand hx hb dJ6_bitCount_0f7a4_7 ?_
  refine lv_isub hx hb dJ6_bitCount_0f7a4_8 ?_
  refine lv_istore_n (lv' := [(0, .int (v0 - ((jushr v0 1) &&& 1431655765)))]) hx hb dJ6_bitCount_0f7a4_9 rfl hl (by decide) rfl (fun ls hl => ?_)
  refine lv_iload_n hx hb dJ6_bitCount_0f7a4_10 rfl (lv_at hl 0 rfl) ?_
  refine lv_ldcw (v := 858993459) hx hb hown (hts _ ki_J6_266) dJ6_bitCount_0f7a4_11 ?_
  refine lv_iand hx hb dJ6_bitCount_0f7a4_14 ?_
  refine lv_iload_n hx hb dJ6_bitCount_0f7a4_15 rfl (lv_at hl 0 rfl) ?_
  refine lv_iconst (v := 2) hx hb dJ6_bitCount_0f7a4_16 (by decide) ?_
  refine lv_iushr (v := (jushr (v0 - ((jushr v0 1) &&& 1431655765)) 2)) hx hb dJ6_bitCount_0f7a4_17 rfl ?_
  refine lv_ldcw (v := 858993459) hx hb hown (hts _ ki_J6_266) dJ6_bitCount_0f7a4_18 ?_
  refine lv_iand hx hb dJ6_bitCount_0f7a4_21 ?_
  refine lv_iadd hx hb dJ6_bitCount_0f7a4_22 ?_
  refine lv_istore_n (lv' := [(0, .int (((v0 - ((jushr v0 1) &&& 1431655765)) &&& 858993459) + ((jushr (v0 - ((jushr v0 1) &&& 1431655765)) 2) &&& 858993459)))]) hx hb dJ6_bitCount_0f7a4_23 rfl hl (by decide) rfl (fun ls hl => ?_)
  refine lv_iload_n hx hb dJ6_bitCount_0f7a4_24 rfl (lv_at hl 0 rfl) ?_
  refine lv_iload_n hx hb dJ6_bitCount_0f7a4_25 rfl (lv_at hl 0 rfl) ?_
  refine lv_iconst (v := 4) hx hb dJ6_bitCount_0f7a4_26 (by decide) ?_
  refine lv_iushr (v := (jushr (((v0 - ((jushr v0 1) &&& 1431655765)) &&& 858993459) + ((jushr (v0 - ((jushr v0 1) &&& 1431655765)) 2) &&& 858993459)) 4)) hx hb dJ6_bitCount_0f7a4_27 rfl ?_
  refine lv_iadd hx hb dJ6_bitCount_0f7a4_28 ?_
  refine lv_ldcw (v := 252645135) hx hb hown (hts _ ki_J6_267) dJ6_bitCount_0f7a4_29 ?_
  refine lv_iand hx hb dJ6_bitCount_0f7a4_32 ?_
  refine lv_istore_n (lv' := [(0, .int (((((v0 - ((jushr v0 1) &&& 1431655765)) &&& 858993459) + ((jushr (v0 - ((jushr v0 1) &&& 1431655765)) 2) &&& 858993459)) + (jushr (((v0 - ((jushr v0 1) &&& 1431655765)) &&& 858993459) + ((jushr (v0 - ((jushr v0 1) &&& 1431655765)) 2) &&& 858993459)) 4)) &&& 252645135))]) hx hb dJ6_bitCount_0f7a4_33 rfl hl (by decide) rfl (fun ls hl => ?_)
  refine lv_iload_n hx hb dJ6_bitCount_0f7a4_34 rfl (lv_at hl 0 rfl) ?_
  refine lv_iload_n hx hb dJ6_bitCount_0f7a4_35 rfl (lv_at hl 0 rfl) ?_
  refine lv_bipush (v := 8) hx hb dJ6_bitCount_0f7a4_36 (by decide) ?_
  refine lv_iushr (v := (jushr (((((v0 - ((jushr v0 1) &&& 1431655765)) &&& 858993459) + ((jushr (v0 - ((jushr v0 1) &&& 1431655765)) 2) &&& 858993459)) + (jushr (((v0 - ((jushr v0 1) &&& 1431655765)) &&& 858993459) + ((jushr (v0 - ((jushr v0 1) &&& 1431655765)) 2) &&& 858993459)) 4)) &&& 252645135) 8)) hx hb dJ6_bitCount_0f7a4_38 rfl ?_
  refine lv_iadd hx hb dJ6_bitCount_0f7a4_39 ?_
  refine lv_istore_n (lv' := [(0, .int ((((((v0 - ((jushr v0 1) &&& 1431655765)) &&& 858993459) + ((jushr (v0 - ((jushr v0 1) &&& 1431655765)) 2) &&& 858993459)) + (jushr (((v0 - ((jushr v0 1) &&& 1431655765)) &&& 858993459) + ((jushr (v0 - ((jushr v0 1) &&& 1431655765)) 2) &&& 858993459)) 4)) &&& 252645135) + (jushr (((((v0 - ((jushr v0 1) &&& 1431655765)) &&& 858993459) + ((jushr (v0 - ((jushr v0 1) &&& 1431655765)) 2) &&& 858993459)) + (jushr (((v0 - ((jushr v0 1) &&& 1431655765)) &&& 858993459) + ((jushr (v0 - ((jushr v0 1) &&& 1431655765)) 2) &&& 858993459)) 4)) &&& 252645135) 8)))]) hx hb dJ6_bitCount_0f7a4_40 rfl hl (by decide) rfl (fun ls hl => ?_)
  refine lv_iload_n hx hb dJ6_bitCount_0f7a4_41 rfl (lv_at hl 0 rfl) ?_
  refine lv_iload_n hx hb dJ6_bitCount_0f7a4_42 rfl (lv_at hl 0 rfl) ?_
  refine lv_bipush (v := 16) hx hb dJ6_bitCount_0f7a4_43 (by decide) ?_
  refine lv_iushr (v := (jushr ((((((v0 - ((jushr v0 1) &&& 1431655765)) &&& 858993459) + ((jushr (v0 - ((jushr v0 1) &&& 1431655765)) 2) &&& 858993459)) + (jushr (((v0 - ((jushr v0 1) &&& 1431655765)) &&& 858993459) + ((jushr (v0 - ((jushr v0 1) &&& 1431655765)) 2) &&& 858993459)) 4)) &&& 252645135) + (jushr (((((v0 - ((jushr v0 1) &&& 1431655765)) &&& 858993459) + ((jushr (v0 - ((jushr v0 1) &&& 1431655765)) 2) &&& 858993459)) + (jushr (((v0 - ((jushr v0 1) &&& 1431655765)) &&& 858993459) + ((jushr (v0 - ((jushr v0 1) &&& 1431655765)) 2) &&& 858993459)) 4)) &&& 252645135) 8)) 16)) hx hb dJ6_bitCount_0f7a4_45 rfl ?_
  refine lv_iadd hx hb dJ6_bitCount_0f7a4_46 ?_
  refine lv_istore_n (lv' := [(0, .int (((((((v0 - ((jushr v0 1) &&& 1431655765)) &&& 858993459) + ((jushr (v0 - ((jushr v0 1) &&& 1431655765)) 2) &&& 858993459)) + (jushr (((v0 - ((jushr v0 1) &&& 1431655765)) &&& 858993459) + ((jushr (v0 - ((jushr v0 1) &&& 1431655765)) 2) &&& 858993459)) 4)) &&& 252645135) + (jushr (((((v0 - ((jushr v0 1) &&& 1431655765)) &&& 858993459) + ((jushr (v0 - ((jushr v0 1) &&& 1431655765)) 2) &&& 858993459)) + (jushr (((v0 - ((jushr v0 1) &&& 1431655765)) &&& 858993459) + ((jushr (v0 - ((jushr v0 1) &&& 1431655765)) 2) &&& 858993459)) 4)) &&& 252645135) 8)) + (jushr ((((((v0 - ((jushr v0 1) &&& 1431655765)) &&& 858993459) + ((jushr (v0 - ((jushr v0 1) &&& 1431655765)) 2) &&& 858993459)) + (jushr (((v0 - ((jushr v0 1) &&& 1431655765)) &&& 858993459) + ((jushr (v0 - ((jushr v0 1) &&& 1431655765)) 2) &&& 858993459)) 4)) &&& 252645135) + (jushr (((((v0 - ((jushr v0 1) &&& 1431655765)) &&& 858993459) + ((jushr (v0 - ((jushr v0 1) &&& 1431655765)) 2) &&& 858993459)) + (jushr (((v0 - ((jushr v0 1) &&& 1431655765)) &&& 858993459) + ((jushr (v0 - ((jushr v0 1) &&& 1431655765)) 2) &&& 858993459)) 4)) &&& 252645135) 8)) 16)))]) hx hb dJ6_bitCount_0f7a4_47 rfl hl (by decide) rfl (fun ls hl => ?_)
  refine lv_iload_n hx hb dJ6_bitCount_0f7a4_48 rfl (lv_at hl 0 rfl) ?_
  refine lv_bipush (v := 63) hx hb dJ6_bitCount_0f7a4_49 (by decide) ?_
  refine lv_iand hx hb dJ6_bitCount_0f7a4_51 ?_
  obtain rfl := Option.some.inj hf
  subst hq
  exact retI cx hP hD hS dJ6_bitCount_0f7a4_52
def X0_pay_j47 (F : Nat) (o_wage : Int32) (o_extras_many : Int32) (o_extras_cells : Nat → Int32) (v1 : Int32) (v2 : Int32) (v3 : Int32) : Option ((Int32 × (Nat → Int32)) ⊕ (((Nat → Int32)))) :=
  some (.inl ((v3 + 1), o_extras_cells))
def X0_pay_b2 (F : Nat) (o_wage : Int32) (o_extras_many : Int32) (v1 : Int32) (v2 : Int32) (st2 : Int32 × (Nat → Int32)) : Option ((Int32 × (Nat → Int32)) ⊕ (((Nat → Int32)))) :=
  if o_extras_many ≤ st2.1 then
  some (.inr st2.2)
  else
  if ((jshr v1 st2.1) &&& 1) = 1 then
  (X7_raiseBy 35 5 o_extras_many st2.2 st2.1 (3 : Int32) (o_wage * v2)).bind fun u34 =>
  (X7_raiseBy 35 5 o_extras_many u34 st2.1 (4 : Int32) (1 : Int32)).bind fun u44 =>
  X0_pay_j47 F o_wage o_extras_many u44 v1 v2 st2.1
  else
  X0_pay_j47 F o_wage o_extras_many st2.2 v1 v2 st2.1
def X0_pay (F : Nat) (o_wage : Int32) (o_extras_many : Int32) (o_extras_cells : Nat → Int32) (v1 : Int32) (v2 : Int32) : Option ((Nat → Int32)) :=
  (iter (X0_pay_b2 F o_wage o_extras_many v1 v2) F (0, o_extras_cells)).bind (fun (e2 : (Nat → Int32)) =>
    some e2)
abbrev wd_X0_pay (E : vE) (a_o a_o_streets a_o_names a_o_extras a_o_happenings a_o_watchers a_o_weeks a_o_extras_cells : Nat) (o_wage : Int32) (o_delay : Int32) (o_odds : Int32) (o_clock : Int32) (o_hasWeeks : Int32) (o_extras_many : Int32) (o_extras_cells : Nat → Int32) : va_W := [(a_o, .inr (0, [.int o_wage, .int o_delay, .int o_odds, .int o_clock, .int o_hasWeeks, .ref a_o_streets, .ref a_o_names, .ref a_o_extras, .ref a_o_happenings, .ref a_o_watchers, .ref a_o_weeks])), (a_o_extras, .inr (7, [.int 5, .ref a_o_extras_cells, .int o_extras_many])), (a_o_extras_cells, .inl (E.2.1, 35, .inl o_extras_cells))]
set_option maxHeartbeats 4000000 in
set_option maxRecDepth 100000 in
theorem ct_X0_pay (l : Launch) (E : vE) (F : Nat) (a_o a_o_streets a_o_names a_o_extras a_o_happenings a_o_watchers a_o_weeks a_o_extras_cells : Nat) (o_wage : Int32) (o_delay : Int32) (o_odds : Int32) (o_clock : Int32) (o_hasWeeks : Int32) (o_extras_many : Int32) (o_extras_cells : Nat → Int32) (v1 : Int32) (v2 : Int32) (u : (Nat → Int32)) (hf : X0_pay F o_wage o_extras_many o_extras_cells v1 v2 = some u) :
    CtV l yX0_pay cX0_pay 4 none 2 E [.ref a_o, .int v1, .int v2] (wd_X0_pay E a_o a_o_streets a_o_names a_o_extras a_o_happenings a_o_watchers a_o_weeks a_o_extras_cells o_wage o_delay o_odds o_clock o_hasWeeks o_extras_many o_extras_cells) (wd_X0_pay E a_o a_o_streets a_o_names a_o_extras a_o_happenings a_o_watchers a_o_weeks a_o_extras_cells o_wage o_delay o_odds o_clock o_hasWeeks o_extras_many u) := by
  refine ctV (by decide) (Nat.le_of_ble_eq_true rfl) ?_
  intro p e s m below meth cd A ls aa QQ hq cx hP hD hS hl
  obtain ⟨⟨hx, hb, hml, hown, hts⟩, hr, hlocks, hK, hA, hX⟩ := id cx
  have hl : lv_has ls 4 [(0, .ref a_o), (1, .int v1), (2, .int v2)] := hl
  unfold X0_pay at hf
  refine lv_iconst (v := 0) hx hb dX0_pay_0 (by decide) ?_
  refine lv_istore_n (lv' := [(3, .int 0), (0, .ref a_o), (1, .int v1), (2, .int v2)]) hx hb dX0_pay_1 rfl hl (by decide) rfl (fun ls hl => ?_)
  obtain ⟨e2, hit2, hf⟩ := bd hf
  refine iter_W (b := X0_pay_b2 F o_wage o_extras_many v1 v2) (P := fun st2 => ∀ (H : Heap) (locs : List Loc) (ls : Array Slot), va_P E.1 vwCl (wd_X0_pay E a_o a_o_streets a_o_names a_o_extras a_o_happenings a_o_watchers a_o_weeks a_o_extras_cells o_wage o_delay o_odds o_clock o_hasWeeks o_extras_many st2.2) H → va_D A (wd_X0_pay E a_o a_o_streets a_o_names a_o_extras a_o_happenings a_o_watchers a_o_weeks a_o_extras_cells o_wage o_delay o_odds o_clock o_hasWeeks o_extras_many st2.2) → va_S A s.heap H locs → lv_has ls 4 [(0, .ref a_o), (1, .int v1), (2, .int v2), (3, .int st2.1)] → W p l e (rmd 2) s m aa below meth cd H locs 0 0 QQ (F0 m 2 ls [])) (G := (fun (e2 : (Nat → Int32)) => ∀ (H : Heap) (locs : List Loc) (ls : Array Slot), va_P E.1 vwCl (wd_X0_pay E a_o a_o_streets a_o_names a_o_extras a_o_happenings a_o_watchers a_o_weeks a_o_extras_cells o_wage o_delay o_odds o_clock o_hasWeeks o_extras_many e2) H → va_D A (wd_X0_pay E a_o a_o_streets a_o_names a_o_extras a_o_happenings a_o_watchers a_o_weeks a_o_extras_cells o_wage o_delay o_odds o_clock o_hasWeeks o_extras_many e2) → va_S A s.heap H locs → lv_has ls 4 [] → W p l e (rmd 2) s m aa below meth cd H locs 0 0 QQ (F0 m 53 ls []))) ?_ F (0, o_extras_cells) e2 hit2 ?_ _ _ _ hP hD hS (lv_sub hl [1, 2, 3, 0] rfl)
  · intro st2 r2 hf hk2 he2 H locs ls hP hD hS hl
    have hj47 : ∀ (v3_j47 : Int32) (o_extras_cells_j47 : Nat → Int32) (H : Heap) (locs : List Loc) (ls : Array Slot), X0_pay_j47 F o_wage o_extras_many o_extras_cells_j47 v1 v2 v3_j47 = some r2 → va_P E.1 vwCl (wd_X0_pay E a_o a_o_streets a_o_names a_o_extras a_o_happenings a_o_watchers a_o_weeks a_o_extras_cells o_wage o_delay o_odds o_clock o_hasWeeks o_extras_many o_extras_cells_j47) H → va_D A (wd_X0_pay E a_o a_o_streets a_o_names a_o_extras a_o_happenings a_o_watchers a_o_weeks a_o_extras_cells o_wage o_delay o_odds o_clock o_hasWeeks o_extras_many o_extras_cells_j47) → va_S A s.heap H locs → lv_has ls 4 [(0, .ref a_o), (1, .int v1), (2, .int v2), (3, .int v3_j47)] → W p l e (rmd 2) s m aa below meth cd H locs 0 0 QQ (F0 m 47 ls []) := by
      intro v3_j47 o_extras_cells_j47 H locs ls hf hP hD hS hl
      unfold X0_pay_j47 at hf
      refine lv_iinc (v := (v3_j47 + 1)) (lv' := [(3, .int (v3_j47 + 1)), (0, .ref a_o), (1, .int v1), (2, .int v2)]) hx hb dX0_pay_47 hl (k := 3) rfl rfl (by decide) rfl (fun ls hl => ?_)
      refine lv_goto (tgt := 2) hx hb dX0_pay_50 (by decide) ?_
      exact hk2 _ (Option.some.inj hf).symm _ _ _ hP hD hS (lv_sub hl [1, 2, 3, 0] rfl)
    unfold X0_pay_b2 at hf
    refine lv_iload_n hx hb dX0_pay_2 rfl (lv_at hl 3 rfl) ?_
    refine lv_aload_n hx hb dX0_pay_3 rfl (lv_at hl 0 rfl) ?_
    refine va_get (D := E.1) (ci := 0) (v := .ref a_o_extras) (C := RX0) (T := TX0) (N := 11) hx hb hts inX0 hown hK hP 0 rfl rfl 7 (by decide) (hts _ fl_X0_30) (fun _ h9 => h9) rfl dX0_pay_4 ?_
    refine va_get (D := E.1) (ci := 7) (v := .int o_extras_many) (C := RX7) (T := TX7) (N := 3) hx hb hts inX7 hown hK hP 1 rfl rfl 2 (by decide) (hts _ fl_X0_67) (fun _ h9 => h9) rfl dX0_pay_7 ?_
    refine lv_icmp_ge (tgt := 53) hx hb dX0_pay_10 (by decide) (fun hc => ?_) (fun hc => ?_)
    · have hf := it_t hc hf
      exact he2 _ (Option.some.inj hf).symm _ _ _ hP hD hS (lv_sub hl [] rfl)
    · have hf := it_f hc hf
      refine lv_iload_n hx hb dX0_pay_13 rfl (lv_at hl 1 rfl) ?_
      refine lv_iload_n hx hb dX0_pay_14 rfl (lv_at hl 3 rfl) ?_
      refine r_ishr hx hb dX0_pay_15 ?_
      refine lv_iconst (v := 1) hx hb dX0_pay_16 (by decide) ?_
      refine lv_iand hx hb dX0_pay_17 ?_
      refine lv_iconst (v := 1) hx hb dX0_pay_18 (by decide) ?_
      refine lv_icmp_ne (tgt := 47) hx hb dX0_pay_19 (by decide) (fun hc => ?_) (fun hc => ?_)
      · have hf := it_f hc hf
        exact hj47 _ _ _ _ _ hf hP hD hS (lv_sub hl [0, 1, 2, 3] rfl)
      · have hf := it_t hc hf
        refine lv_aload_n hx hb dX0_pay_22 rfl (lv_at hl 0 rfl) ?_
        refine va_get (D := E.1) (ci := 0) (v := .ref a_o_extras) (C := RX0) (T := TX0) (N := 11) hx hb hts inX0 hown hK hP 0 rfl rfl 7 (by decide) (hts _ fl_X0_30) (fun _ h9 => h9) rfl dX0_pay_23 ?_
        refine lv_iload_n hx hb dX0_pay_26 rfl (lv_at hl 3 rfl) ?_
        refine lv_iconst (v := 3) hx hb dX0_pay_27 (by decide) ?_
        refine lv_aload_n hx hb dX0_pay_28 rfl (lv_at hl 0 rfl) ?_
        refine va_get (D := E.1) (ci := 0) (v := .int o_wage) (C := RX0) (T := TX0) (N := 11) hx hb hts inX0 hown hK hP 0 rfl rfl 0 (by decide) (hts _ fl_X0_48) (fun _ h9 => h9) rfl dX0_pay_29 ?_
        refine lv_iload_n hx hb dX0_pay_32 rfl (lv_at hl 2 rfl) ?_
        refine lv_imul hx hb dX0_pay_33 ?_
        obtain ⟨u34, hu34, hf⟩ := bd hf
        refine callVV (wn := (wd_X0_pay E a_o a_o_streets a_o_names a_o_extras a_o_happenings a_o_watchers a_o_weeks a_o_extras_cells o_wage o_delay o_odds o_clock o_hasWeeks o_extras_many u34)) (n1 := 3) (ct_X7_raiseBy l E a_o_extras a_o_extras_cells 35 5 o_extras_many st2.2 st2.1 (3 : Int32) (o_wage * v2) u34 hu34) [1, 2] cal_X7_raiseBy cav_X7_raiseBy lk_X0_103 cx hP hD hS hl dX0_pay_34 rfl rfl rfl rfl (Nat.le_of_ble_eq_true rfl) ⟨Nat.le_of_ble_eq_true rfl, Nat.le_of_ble_eq_true rfl⟩ rfl (by decide +kernel) rfl [none, some 0, some 1] rfl (by decide +kernel) rfl (fun H locs hP hD hS => ?_)
        refine lv_aload_n hx hb dX0_pay_37 rfl (lv_at hl 0 rfl) ?_
        refine va_get (D := E.1) (ci := 0) (v := .ref a_o_extras) (C := RX0) (T := TX0) (N := 11) hx hb hts inX0 hown hK hP 0 rfl rfl 7 (by decide) (hts _ fl_X0_30) (fun _ h9 => h9) rfl dX0_pay_38 ?_
        refine lv_iload_n hx hb dX0_pay_41 rfl (lv_at hl 3 rfl) ?_
        refine lv_iconst (v := 4) hx hb dX0_pay_42 (by decide) ?_
        refine lv_iconst (v := 1) hx hb dX0_pay_43 (by decide) ?_
        obtain ⟨u44, hu44, hf⟩ := bd hf
        refine callVV (wn := (wd_X0_pay E a_o a_o_streets a_o_names a_o_extras a_o_happenings a_o_watchers a_o_weeks a_o_extras_cells o_wage o_delay o_odds o_clock o_hasWeeks o_extras_many u44)) (n1 := 3) (ct_X7_raiseBy l E a_o_extras a_o_extras_cells 35 5 o_extras_many u34 st2.1 (4 : Int32) (1 : Int32) u44 hu44) [1, 2] cal_X7_raiseBy cav_X7_raiseBy lk_X0_103 cx hP hD hS hl dX0_pay_44 rfl rfl rfl rfl (Nat.le_of_ble_eq_true rfl) ⟨Nat.le_of_ble_eq_true rfl, Nat.le_of_ble_eq_true rfl⟩ rfl (by decide +kernel) rfl [none, some 0, some 1] rfl (by decide +kernel) rfl (fun H locs hP hD hS => ?_)
        exact hj47 _ _ _ _ _ hf hP hD hS (lv_sub hl [0, 1, 2, 3] rfl)
  · refine fun H locs ls hP hD hS hl => ?_
    obtain rfl := Option.some.inj hf
    subst hq
    exact retV cx hP hD hS dX0_pay_53
def X0_befall_j129 (F : Nat) (o_wage : Int32) (o_clock : Int32) (o_extras_many : Int32) (o_extras_cells : Nat → Int32) (o_happenings_many : Int32) (o_happenings_cells : Nat → Int32) (v1 : Int32) (v2 : Int32) : Option ((Int32 × Int32 × (Nat → Int32) × (Nat → Int32)) ⊕ ((Int32 × (Nat → Int32) × (Nat → Int32)))) :=
  some (.inl (v1, (v2 + 1), o_extras_cells, o_happenings_cells))
def X0_befall_j127 (F : Nat) (o_wage : Int32) (o_clock : Int32) (o_extras_many : Int32) (o_extras_cells : Nat → Int32) (o_happenings_many : Int32) (o_happenings_cells : Nat → Int32) (v2 : Int32) : Option ((Int32 × Int32 × (Nat → Int32) × (Nat → Int32)) ⊕ ((Int32 × (Nat → Int32) × (Nat → Int32)))) :=
  X0_befall_j129 F o_wage o_clock o_extras_many o_extras_cells o_happenings_many o_happenings_cells 1 v2
def X0_befall_j99 (F : Nat) (o_wage : Int32) (o_clock : Int32) (o_extras_many : Int32) (o_extras_cells : Nat → Int32) (o_happenings_many : Int32) (o_happenings_cells : Nat → Int32) (v2 : Int32) (v3 : Int32) (v4 : Int32) (v5 : Int32) (k0 : Int32) (k1 : Int32) (k2 : Int32) : Option ((Int32 × Int32 × (Nat → Int32) × (Nat → Int32)) ⊕ ((Int32 × (Nat → Int32) × (Nat → Int32)))) :=
  (X7_set 40 5 o_happenings_many o_happenings_cells k2 k1 k0).bind fun u99 =>
  (X7_set 40 5 o_happenings_many u99 v2 (4 : Int32) o_clock).bind fun u112 =>
  if v5 = 0 then
  X0_befall_j127 F o_wage o_clock o_extras_many o_extras_cells o_happenings_many u112 v2
  else
  (X0_pay F o_wage o_extras_many o_extras_cells v3 v4).bind fun u124 =>
  X0_befall_j127 F o_wage o_clock o_extras_many u124 o_happenings_many u112 v2
def X0_befall_j81 (F : Nat) (o_wage : Int32) (o_clock : Int32) (o_extras_many : Int32) (o_extras_cells : Nat → Int32) (o_happenings_many : Int32) (o_happenings_cells : Nat → Int32) (v2 : Int32) (v3 : Int32) (v4 : Int32) (k0 : Int32) : Option ((Int32 × Int32 × (Nat → Int32) × (Nat → Int32)) ⊕ ((Int32 × (Nat → Int32) × (Nat → Int32)))) :=
  if k0 = 0 then
  X0_befall_j99 F o_wage o_clock o_extras_many o_extras_cells o_happenings_many o_happenings_cells v2 v3 v4 k0 2 3 v2
  else
  X0_befall_j99 F o_wage o_clock o_extras_many o_extras_cells o_happenings_many o_happenings_cells v2 v3 v4 k0 1 3 v2
def X0_befall_b4 (F : Nat) (o_wage : Int32) (o_clock : Int32) (o_extras_many : Int32) (o_happenings_many : Int32) (st4 : Int32 × Int32 × (Nat → Int32) × (Nat → Int32)) : Option ((Int32 × Int32 × (Nat → Int32) × (Nat → Int32)) ⊕ ((Int32 × (Nat → Int32) × (Nat → Int32)))) :=
  if o_happenings_many ≤ st4.2.1 then
  some (.inr (st4.1, st4.2.2.1, st4.2.2.2))
  else
  (X0_isToCome o_happenings_many st4.2.2.2 st4.2.1).bind fun u17 =>
  if u17 = 0 then
  X0_befall_j129 F o_wage o_clock o_extras_many st4.2.2.1 o_happenings_many st4.2.2.2 st4.1 st4.2.1
  else
  (X7_get 40 5 o_happenings_many st4.2.2.2 st4.2.1 (1 : Int32)).bind fun u29 =>
  if u29 = o_clock then
  (X7_get 40 5 o_happenings_many st4.2.2.2 st4.2.1 (0 : Int32)).bind fun u49 =>
  (X0_behind F o_extras_many st4.2.2.1 u49).bind fun u52 =>
  (X7_get 40 5 o_happenings_many st4.2.2.2 st4.2.1 (2 : Int32)).bind fun u62 =>
  (J6_bitCount_0f7a4 u52).bind fun u68 =>
  if u68 < u62 then
  X0_befall_j81 F o_wage o_clock o_extras_many st4.2.2.1 o_happenings_many st4.2.2.2 st4.2.1 u52 u62 0
  else
  X0_befall_j81 F o_wage o_clock o_extras_many st4.2.2.1 o_happenings_many st4.2.2.2 st4.2.1 u52 u62 1
  else
  X0_befall_j129 F o_wage o_clock o_extras_many st4.2.2.1 o_happenings_many st4.2.2.2 st4.1 st4.2.1
def X0_befall (F : Nat) (o_wage : Int32) (o_clock : Int32) (o_extras_many : Int32) (o_extras_cells : Nat → Int32) (o_happenings_many : Int32) (o_happenings_cells : Nat → Int32) : Option (Int32 × (Nat → Int32) × (Nat → Int32)) :=
  (iter (X0_befall_b4 F o_wage o_clock o_extras_many o_happenings_many) F (0, 0, o_extras_cells, o_happenings_cells)).bind (fun (e4 : Int32 × (Nat → Int32) × (Nat → Int32)) =>
    if isZ e4.1 then some (e4.1, e4.2.1, e4.2.2) else none)
abbrev wd_X0_befall (E : vE) (a_o a_o_streets a_o_names a_o_extras a_o_happenings a_o_watchers a_o_weeks a_o_extras_cells a_o_happenings_cells : Nat) (o_wage : Int32) (o_delay : Int32) (o_odds : Int32) (o_clock : Int32) (o_hasWeeks : Int32) (o_extras_many : Int32) (o_extras_cells : Nat → Int32) (o_happenings_many : Int32) (o_happenings_cells : Nat → Int32) : va_W := [(a_o, .inr (0, [.int o_wage, .int o_delay, .int o_odds, .int o_clock, .int o_hasWeeks, .ref a_o_streets, .ref a_o_names, .ref a_o_extras, .ref a_o_happenings, .ref a_o_watchers, .ref a_o_weeks])), (a_o_extras, .inr (7, [.int 5, .ref a_o_extras_cells, .int o_extras_many])), (a_o_extras_cells, .inl (E.2.1, 35, .inl o_extras_cells)), (a_o_happenings, .inr (7, [.int 5, .ref a_o_happenings_cells, .int o_happenings_many])), (a_o_happenings_cells, .inl (E.2.1, 40, .inl o_happenings_cells))]
set_option maxHeartbeats 4000000 in
set_option maxRecDepth 100000 in
theorem ct_X0_befall (l : Launch) (E : vE) (F : Nat) (a_o a_o_streets a_o_names a_o_extras a_o_happenings a_o_watchers a_o_weeks a_o_extras_cells a_o_happenings_cells : Nat) (o_wage : Int32) (o_delay : Int32) (o_odds : Int32) (o_clock : Int32) (o_hasWeeks : Int32) (o_extras_many : Int32) (o_extras_cells : Nat → Int32) (o_happenings_many : Int32) (o_happenings_cells : Nat → Int32) (u : Int32 × (Nat → Int32) × (Nat → Int32)) (hf : X0_befall F o_wage o_clock o_extras_many o_extras_cells o_happenings_many o_happenings_cells = some u) :
    CtI l yX0_befall cX0_befall 6 (some .boolean) 3 E [.ref a_o] (wd_X0_befall E a_o a_o_streets a_o_names a_o_extras a_o_happenings a_o_watchers a_o_weeks a_o_extras_cells a_o_happenings_cells o_wage o_delay o_odds o_clock o_hasWeeks o_extras_many o_extras_cells o_happenings_many o_happenings_cells) (wd_X0_befall E a_o a_o_streets a_o_names a_o_extras a_o_happenings a_o_watchers a_o_weeks a_o_extras_cells a_o_happenings_cells o_wage o_delay o_odds o_clock o_hasWeeks o_extras_many u.2.1 o_happenings_many u.2.2) u.1 := by
  refine ctI (by decide) (Nat.le_of_ble_eq_true rfl) ?_
  intro p e s m below meth cd A ls aa QQ hq cx hP hD hS hl
  obtain ⟨⟨hx, hb, hml, hown, hts⟩, hr, hlocks, hK, hA, hX⟩ := id cx
  have hl : lv_has ls 6 [(0, .ref a_o)] := hl
  unfold X0_befall at hf
  refine lv_iconst (v := 0) hx hb dX0_befall_0 (by decide) ?_
  refine lv_istore_n (lv' := [(1, .int 0), (0, .ref a_o)]) hx hb dX0_befall_1 rfl hl (by decide) rfl (fun ls hl => ?_)
  refine lv_iconst (v := 0) hx hb dX0_befall_2 (by decide) ?_
  refine lv_istore_n (lv' := [(2, .int 0), (1, .int 0), (0, .ref a_o)]) hx hb dX0_befall_3 rfl hl (by decide) rfl (fun ls hl => ?_)
  obtain ⟨e4, hit4, hf⟩ := bd hf
  refine iter_W (b := X0_befall_b4 F o_wage o_clock o_extras_many o_happenings_many) (P := fun st4 => ∀ (H : Heap) (locs : List Loc) (ls : Array Slot), va_P E.1 vwCl (wd_X0_befall E a_o a_o_streets a_o_names a_o_extras a_o_happenings a_o_watchers a_o_weeks a_o_extras_cells a_o_happenings_cells o_wage o_delay o_odds o_clock o_hasWeeks o_extras_many st4.2.2.1 o_happenings_many st4.2.2.2) H → va_D A (wd_X0_befall E a_o a_o_streets a_o_names a_o_extras a_o_happenings a_o_watchers a_o_weeks a_o_extras_cells a_o_happenings_cells o_wage o_delay o_odds o_clock o_hasWeeks o_extras_many st4.2.2.1 o_happenings_many st4.2.2.2) → va_S A s.heap H locs → lv_has ls 6 [(0, .ref a_o), (1, .int st4.1), (2, .int st4.2.1)] → W p l e (rmd 3) s m aa below meth cd H locs 0 0 QQ (F0 m 4 ls [])) (G := (fun (e4 : Int32 × (Nat → Int32) × (Nat → Int32)) => ∀ (H : Heap) (locs : List Loc) (ls : Array Slot), va_P E.1 vwCl (wd_X0_befall E a_o a_o_streets a_o_names a_o_extras a_o_happenings a_o_watchers a_o_weeks a_o_extras_cells a_o_happenings_cells o_wage o_delay o_odds o_clock o_hasWeeks o_extras_many e4.2.1 o_happenings_many e4.2.2) H → va_D A (wd_X0_befall E a_o a_o_streets a_o_names a_o_extras a_o_happenings a_o_watchers a_o_weeks a_o_extras_cells a_o_happenings_cells o_wage o_delay o_odds o_clock o_hasWeeks o_extras_many e4.2.1 o_happenings_many e4.2.2) → va_S A s.heap H locs → lv_has ls 6 [(1, .int e4.1)] → W p l e (rmd 3) s m aa below meth cd H locs 0 0 QQ (F0 m 135 ls []))) ?_ F (0, 0, o_extras_cells, o_happenings_cells) e4 hit4 ?_ _ _ _ hP hD hS (lv_sub hl [2, 1, 0] rfl)
  · intro st4 r4 hf hk4 he4 H locs ls hP hD hS hl
    have hj129 : ∀ (v1_j129 : Int32) (v2_j129 : Int32) (o_extras_cells_j129 : Nat → Int32) (o_happenings_cells_j129 : Nat → Int32) (H : Heap) (locs : List Loc) (ls : Array Slot), X0_befall_j129 F o_wage o_clock o_extras_many o_extras_cells_j129 o_happenings_many o_happenings_cells_j129 v1_j129 v2_j129 = some r4 → va_P E.1 vwCl (wd_X0_befall E a_o a_o_streets a_o_names a_o_extras a_o_happenings a_o_watchers a_o_weeks a_o_extras_cells a_o_happenings_cells o_wage o_delay o_odds o_clock o_hasWeeks o_extras_many o_extras_cells_j129 o_happenings_many o_happenings_cells_j129) H → va_D A (wd_X0_befall E a_o a_o_streets a_o_names a_o_extras a_o_happenings a_o_watchers a_o_weeks a_o_extras_cells a_o_happenings_cells o_wage o_delay o_odds o_clock o_hasWeeks o_extras_many o_extras_cells_j129 o_happenings_many o_happenings_cells_j129) → va_S A s.heap H locs → lv_has ls 6 [(0, .ref a_o), (1, .int v1_j129), (2, .int v2_j129)] → W p l e (rmd 3) s m aa below meth cd H locs 0 0 QQ (F0 m 129 ls []) := by
      intro v1_j129 v2_j129 o_extras_cells_j129 o_happenings_cells_j129 H locs ls hf hP hD hS hl
      unfold X0_befall_j129 at hf
      refine lv_iinc (v := (v2_j129 + 1)) (lv' := [(2, .int (v2_j129 + 1)), (0, .ref a_o), (1, .int v1_j129)]) hx hb dX0_befall_129 hl (k := 2) rfl rfl (by decide) rfl (fun ls hl => ?_)
      refine lv_goto (tgt := 4) hx hb dX0_befall_132 (by decide) ?_
      exact hk4 _ (Option.some.inj hf).symm _ _ _ hP hD hS (lv_sub hl [1, 2, 0] rfl)
    have hj127 : ∀ (v2_j127 : Int32) (o_extras_cells_j127 : Nat → Int32) (o_happenings_cells_j127 : Nat → Int32) (H : Heap) (locs : List Loc) (ls : Array Slot), X0_befall_j127 F o_wage o_clock o_extras_many o_extras_cells_j127 o_happenings_many o_happenings_cells_j127 v2_j127 = some r4 → va_P E.1 vwCl (wd_X0_befall E a_o a_o_streets a_o_names a_o_extras a_o_happenings a_o_watchers a_o_weeks a_o_extras_cells a_o_happenings_cells o_wage o_delay o_odds o_clock o_hasWeeks o_extras_many o_extras_cells_j127 o_happenings_many o_happenings_cells_j127) H → va_D A (wd_X0_befall E a_o a_o_streets a_o_names a_o_extras a_o_happenings a_o_watchers a_o_weeks a_o_extras_cells a_o_happenings_cells o_wage o_delay o_odds o_clock o_hasWeeks o_extras_many o_extras_cells_j127 o_happenings_many o_happenings_cells_j127) → va_S A s.heap H locs → lv_has ls 6 [(0, .ref a_o), (2, .int v2_j127)] → W p l e (rmd 3) s m aa below meth cd H locs 0 0 QQ (F0 m 127 ls []) := by
      intro v2_j127 o_extras_cells_j127 o_happenings_cells_j127 H locs ls hf hP hD hS hl
      unfold X0_befall_j127 at hf
      refine lv_iconst (v := 1) hx hb dX0_befall_127 (by decide) ?_
      refine lv_istore_n (lv' := [(1, .int 1), (0, .ref a_o), (2, .int v2_j127)]) hx hb dX0_befall_128 rfl hl (by decide) rfl (fun ls hl => ?_)
      exact hj129 _ _ _ _ _ _ _ hf hP hD hS (lv_sub hl [1, 0, 2] rfl)
    have hj99 : ∀ (v2_j99 : Int32) (v3_j99 : Int32) (v4_j99 : Int32) (v5_j99 : Int32) (o_extras_cells_j99 : Nat → Int32) (o_happenings_cells_j99 : Nat → Int32) (k0_j99 : Int32) (k1_j99 : Int32) (k2_j99 : Int32) (H : Heap) (locs : List Loc) (ls : Array Slot), X0_befall_j99 F o_wage o_clock o_extras_many o_extras_cells_j99 o_happenings_many o_happenings_cells_j99 v2_j99 v3_j99 v4_j99 v5_j99 k0_j99 k1_j99 k2_j99 = some r4 → va_P E.1 vwCl (wd_X0_befall E a_o a_o_streets a_o_names a_o_extras a_o_happenings a_o_watchers a_o_weeks a_o_extras_cells a_o_happenings_cells o_wage o_delay o_odds o_clock o_hasWeeks o_extras_many o_extras_cells_j99 o_happenings_many o_happenings_cells_j99) H → va_D A (wd_X0_befall E a_o a_o_streets a_o_names a_o_extras a_o_happenings a_o_watchers a_o_weeks a_o_extras_cells a_o_happenings_cells o_wage o_delay o_odds o_clock o_hasWeeks o_extras_many o_extras_cells_j99 o_happenings_many o_happenings_cells_j99) → va_S A s.heap H locs → lv_has ls 6 [(0, .ref a_o), (2, .int v2_j99), (3, .int v3_j99), (4, .int v4_j99), (5, .int v5_j99)] → W p l e (rmd 3) s m aa below meth cd H locs 0 0 QQ (F0 m 99 ls [.int k0_j99, .int k1_j99, .int k2_j99, .ref a_o_happenings]) := by
      intro v2_j99 v3_j99 v4_j99 v5_j99 o_extras_cells_j99 o_happenings_cells_j99 k0_j99 k1_j99 k2_j99 H locs ls hf hP hD hS hl
      unfold X0_befall_j99 at hf
      obtain ⟨u99, hu99, hf⟩ := bd hf
      refine callVV (wn := (wd_X0_befall E a_o a_o_streets a_o_names a_o_extras a_o_happenings a_o_watchers a_o_weeks a_o_extras_cells a_o_happenings_cells o_wage o_delay o_odds o_clock o_hasWeeks o_extras_many o_extras_cells_j99 o_happenings_many u99)) (n1 := 5) (ct_X7_set l E a_o_happenings a_o_happenings_cells 40 5 o_happenings_many o_happenings_cells_j99 k2_j99 k1_j99 k0_j99 u99 hu99) [3, 4] cal_X7_set cav_X7_set lk_X0_84 cx hP hD hS hl dX0_befall_99 rfl rfl rfl rfl (Nat.le_of_ble_eq_true rfl) ⟨Nat.le_of_ble_eq_true rfl, Nat.le_of_ble_eq_true rfl⟩ rfl (by decide +kernel) rfl [none, none, none, some 0, some 1] rfl (by decide +kernel) rfl (fun H locs hP hD hS => ?_)
      refine lv_aload_n hx hb dX0_befall_102 rfl (lv_at hl 0 rfl) ?_
      refine va_get (D := E.1) (ci := 0) (v := .ref a_o_happenings) (C := RX0) (T := TX0) (N := 11) hx hb hts inX0 hown hK hP 0 rfl rfl 8 (by decide) (hts _ fl_X0_34) (fun _ h9 => h9) rfl dX0_befall_103 ?_
      refine lv_iload_n hx hb dX0_befall_106 rfl (lv_at hl 1 rfl) ?_
      refine lv_iconst (v := 4) hx hb dX0_befall_107 (by decide) ?_
      refine lv_aload_n hx hb dX0_befall_108 rfl (lv_at hl 0 rfl) ?_
      refine va_get (D := E.1) (ci := 0) (v := .int o_clock) (C := RX0) (T := TX0) (N := 11) hx hb hts inX0 hown hK hP 0 rfl rfl 3 (by decide) (hts _ fl_X0_58) (fun _ h9 => h9) rfl dX0_befall_109 ?_
      obtain ⟨u112, hu112, hf⟩ := bd hf
      refine callVV (wn := (wd_X0_befall E a_o a_o_streets a_o_names a_o_extras a_o_happenings a_o_watchers a_o_weeks a_o_extras_cells a_o_happenings_cells o_wage o_delay o_odds o_clock o_hasWeeks o_extras_many o_extras_cells_j99 o_happenings_many u112)) (n1 := 5) (ct_X7_set l E a_o_happenings a_o_happenings_cells 40 5 o_happenings_many u99 v2_j99 (4 : Int32) o_clock u112 hu112) [3, 4] cal_X7_set cav_X7_set lk_X0_84 cx hP hD hS hl dX0_befall_112 rfl rfl rfl rfl (Nat.le_of_ble_eq_true rfl) ⟨Nat.le_of_ble_eq_true rfl, Nat.le_of_ble_eq_true rfl⟩ rfl (by decide +kernel) rfl [none, none, none, some 0, some 1] rfl (by decide +kernel) rfl (fun H locs hP hD hS => ?_)
      refine lv_iload hx hb dX0_befall_115 (lv_at hl 4 rfl) ?_
      refine lv_if_eq (tgt := 127) hx hb dX0_befall_117 (by decide) (fun hc => ?_) (fun hc => ?_)
      · have hf := it_t hc hf
        exact hj127 _ _ _ _ _ _ hf hP hD hS (lv_sub hl [0, 1] rfl)
      · have hf := it_f hc hf
        refine lv_aload_n hx hb dX0_befall_120 rfl (lv_at hl 0 rfl) ?_
        refine lv_iload_n hx hb dX0_befall_121 rfl (lv_at hl 2 rfl) ?_
        refine lv_iload hx hb dX0_befall_122 (lv_at hl 3 rfl) ?_
        obtain ⟨u124, hu124, hf⟩ := bd hf
        refine callVV (wn := (wd_X0_befall E a_o a_o_streets a_o_names a_o_extras a_o_happenings a_o_watchers a_o_weeks a_o_extras_cells a_o_happenings_cells o_wage o_delay o_odds o_clock o_hasWeeks o_extras_many u124 o_happenings_many u112)) (n1 := 5) (ct_X0_pay l E F a_o a_o_streets a_o_names a_o_extras a_o_happenings a_o_watchers a_o_weeks a_o_extras_cells o_wage o_delay o_odds o_clock o_hasWeeks o_extras_many o_extras_cells_j99 v3_j99 v4_j99 u124 hu124) [0, 1, 2] cal_X0_pay cav_X0_pay lk_X0_143 cx hP hD hS hl dX0_befall_124 rfl rfl rfl rfl (Nat.le_of_ble_eq_true rfl) ⟨Nat.le_of_ble_eq_true rfl, Nat.le_of_ble_eq_true rfl⟩ rfl (by decide +kernel) rfl [some 0, some 1, some 2, none, none] rfl (by decide +kernel) rfl (fun H locs hP hD hS => ?_)
        exact hj127 _ _ _ _ _ _ hf hP hD hS (lv_sub hl [0, 1] rfl)
    have hj81 : ∀ (v2_j81 : Int32) (v3_j81 : Int32) (v4_j81 : Int32) (o_extras_cells_j81 : Nat → Int32) (o_happenings_cells_j81 : Nat → Int32) (k0_j81 : Int32) (H : Heap) (locs : List Loc) (ls : Array Slot), X0_befall_j81 F o_wage o_clock o_extras_many o_extras_cells_j81 o_happenings_many o_happenings_cells_j81 v2_j81 v3_j81 v4_j81 k0_j81 = some r4 → va_P E.1 vwCl (wd_X0_befall E a_o a_o_streets a_o_names a_o_extras a_o_happenings a_o_watchers a_o_weeks a_o_extras_cells a_o_happenings_cells o_wage o_delay o_odds o_clock o_hasWeeks o_extras_many o_extras_cells_j81 o_happenings_many o_happenings_cells_j81) H → va_D A (wd_X0_befall E a_o a_o_streets a_o_names a_o_extras a_o_happenings a_o_watchers a_o_weeks a_o_extras_cells a_o_happenings_cells o_wage o_delay o_odds o_clock o_hasWeeks o_extras_many o_extras_cells_j81 o_happenings_many o_happenings_cells_j81) → va_S A s.heap H locs → lv_has ls 6 [(0, .ref a_o), (2, .int v2_j81), (3, .int v3_j81), (4, .int v4_j81)] → W p l e (rmd 3) s m aa below meth cd H locs 0 0 QQ (F0 m 81 ls [.int k0_j81]) := by
      intro v2_j81 v3_j81 v4_j81 o_extras_cells_j81 o_happenings_cells_j81 k0_j81 H locs ls hf hP hD hS hl
      unfold X0_befall_j81 at hf
      refine lv_istore (lv' := [(5, .int k0_j81), (0, .ref a_o), (2, .int v2_j81), (3, .int v3_j81), (4, .int v4_j81)]) hx hb dX0_befall_81 hl (by decide) rfl (fun ls hl => ?_)
      refine lv_aload_n hx hb dX0_befall_83 rfl (lv_at hl 1 rfl) ?_
      refine va_get (D := E.1) (ci := 0) (v := .ref a_o_happenings) (C := RX0) (T := TX0) (N := 11) hx hb hts inX0 hown hK hP 0 rfl rfl 8 (by decide) (hts _ fl_X0_34) (fun _ h9 => h9) rfl dX0_befall_84 ?_
      refine lv_iload_n hx hb dX0_befall_87 rfl (lv_at hl 2 rfl) ?_
      refine lv_iconst (v := 3) hx hb dX0_befall_88 (by decide) ?_
      refine lv_iload hx hb dX0_befall_89 (lv_at hl 0 rfl) ?_
      refine lv_if_eq (tgt := 98) hx hb dX0_befall_91 (by decide) (fun hc => ?_) (fun hc => ?_)
      · have hf := it_t hc hf
        refine lv_iconst (v := 2) hx hb dX0_befall_98 (by decide) ?_
        exact hj99 _ _ _ _ _ _ _ _ _ _ _ _ hf hP hD hS (lv_sub hl [1, 2, 3, 4, 0] rfl)
      · have hf := it_f hc hf
        refine lv_iconst (v := 1) hx hb dX0_befall_94 (by decide) ?_
        refine lv_goto (tgt := 99) hx hb dX0_befall_95 (by decide) ?_
        exact hj99 _ _ _ _ _ _ _ _ _ _ _ _ hf hP hD hS (lv_sub hl [1, 2, 3, 4, 0] rfl)
    unfold X0_befall_b4 at hf
    refine lv_iload_n hx hb dX0_befall_4 rfl (lv_at hl 2 rfl) ?_
    refine lv_aload_n hx hb dX0_befall_5 rfl (lv_at hl 0 rfl) ?_
    refine va_get (D := E.1) (ci := 0) (v := .ref a_o_happenings) (C := RX0) (T := TX0) (N := 11) hx hb hts inX0 hown hK hP 0 rfl rfl 8 (by decide) (hts _ fl_X0_34) (fun _ h9 => h9) rfl dX0_befall_6 ?_
    refine va_get (D := E.1) (ci := 7) (v := .int o_happenings_many) (C := RX7) (T := TX7) (N := 3) hx hb hts inX7 hown hK hP 3 rfl rfl 2 (by decide) (hts _ fl_X0_67) (fun _ h9 => h9) rfl dX0_befall_9 ?_
    refine lv_icmp_ge (tgt := 135) hx hb dX0_befall_12 (by decide) (fun hc => ?_) (fun hc => ?_)
    · have hf := it_t hc hf
      exact he4 _ (Option.some.inj hf).symm _ _ _ hP hD hS (lv_sub hl [1] rfl)
    · have hf := it_f hc hf
      refine lv_aload_n hx hb dX0_befall_15 rfl (lv_at hl 0 rfl) ?_
      refine lv_iload_n hx hb dX0_befall_16 rfl (lv_at hl 2 rfl) ?_
      obtain ⟨u17, hu17, hf⟩ := bd hf
      refine keepVI (ct_X0_isToCome l E a_o a_o_streets a_o_names a_o_extras a_o_happenings a_o_watchers a_o_weeks a_o_happenings_cells o_wage o_delay o_odds o_clock o_hasWeeks o_happenings_many st4.2.2.2 st4.2.1 u17 hu17) [0, 3, 4] cal_X0_isToCome cav_X0_isToCome lk_X0_99 cx hP hD hS hl dX0_befall_17 rfl rfl rfl rfl (Nat.le_of_ble_eq_true rfl) ⟨Nat.le_of_ble_eq_true rfl, Nat.le_of_ble_eq_true rfl⟩ rfl (by decide) (fun H locs hP hS => ?_)
      refine lv_if_eq (tgt := 129) hx hb dX0_befall_20 (by decide) (fun hc => ?_) (fun hc => ?_)
      · have hf := it_t hc hf
        exact hj129 _ _ _ _ _ _ _ hf hP hD hS (lv_sub hl [0, 1, 2] rfl)
      · have hf := it_f hc hf
        refine lv_aload_n hx hb dX0_befall_23 rfl (lv_at hl 0 rfl) ?_
        refine va_get (D := E.1) (ci := 0) (v := .ref a_o_happenings) (C := RX0) (T := TX0) (N := 11) hx hb hts inX0 hown hK hP 0 rfl rfl 8 (by decide) (hts _ fl_X0_34) (fun _ h9 => h9) rfl dX0_befall_24 ?_
        refine lv_iload_n hx hb dX0_befall_27 rfl (lv_at hl 2 rfl) ?_
        refine lv_iconst (v := 1) hx hb dX0_befall_28 (by decide) ?_
        obtain ⟨u29, hu29, hf⟩ := bd hf
        refine keepVI (ct_X7_get l E a_o_happenings a_o_happenings_cells 40 5 o_happenings_many st4.2.2.2 st4.2.1 (1 : Int32) u29 hu29) [3, 4] cal_X7_get cav_X7_get lk_X0_92 cx hP hD hS hl dX0_befall_29 rfl rfl rfl rfl (Nat.le_of_ble_eq_true rfl) ⟨Nat.le_of_ble_eq_true rfl, Nat.le_of_ble_eq_true rfl⟩ rfl (by decide) (fun H locs hP hS => ?_)
        refine lv_aload_n hx hb dX0_befall_32 rfl (lv_at hl 0 rfl) ?_
        refine va_get (D := E.1) (ci := 0) (v := .int o_clock) (C := RX0) (T := TX0) (N := 11) hx hb hts inX0 hown hK hP 0 rfl rfl 3 (by decide) (hts _ fl_X0_58) (fun _ h9 => h9) rfl dX0_befall_33 ?_
        refine lv_icmp_eq (tgt := 42) hx hb dX0_befall_36 (by decide) (fun hc => ?_) (fun hc => ?_)
        · have hf := it_t hc hf
          refine lv_aload_n hx hb dX0_befall_42 rfl (lv_at hl 0 rfl) ?_
          refine lv_aload_n hx hb dX0_befall_43 rfl (lv_at hl 0 rfl) ?_
          refine va_get (D := E.1) (ci := 0) (v := .ref a_o_happenings) (C := RX0) (T := TX0) (N := 11) hx hb hts inX0 hown hK hP 0 rfl rfl 8 (by decide) (hts _ fl_X0_34) (fun _ h9 => h9) rfl dX0_befall_44 ?_
          refine lv_iload_n hx hb dX0_befall_47 rfl (lv_at hl 2 rfl) ?_
          refine lv_iconst (v := 0) hx hb dX0_befall_48 (by decide) ?_
          obtain ⟨u49, hu49, hf⟩ := bd hf
          refine keepVI (ct_X7_get l E a_o_happenings a_o_happenings_cells 40 5 o_happenings_many st4.2.2.2 st4.2.1 (0 : Int32) u49 hu49) [3, 4] cal_X7_get cav_X7_get lk_X0_92 cx hP hD hS hl dX0_befall_49 rfl rfl rfl rfl (Nat.le_of_ble_eq_true rfl) ⟨Nat.le_of_ble_eq_true rfl, Nat.le_of_ble_eq_true rfl⟩ rfl (by decide) (fun H locs hP hS => ?_)
          obtain ⟨u52, hu52, hf⟩ := bd hf
          refine keepVI (ct_X0_behind l E F a_o a_o_streets a_o_names a_o_extras a_o_happenings a_o_watchers a_o_weeks a_o_extras_cells o_wage o_delay o_odds o_clock o_hasWeeks o_extras_many st4.2.2.1 u49 u52 hu52) [0, 1, 2] cal_X0_behind cav_X0_behind lk_X0_135 cx hP hD hS hl dX0_befall_52 rfl rfl rfl rfl (Nat.le_of_ble_eq_true rfl) ⟨Nat.le_of_ble_eq_true rfl, Nat.le_of_ble_eq_true rfl⟩ rfl (by decide) (fun H locs hP hS => ?_)
          refine lv_istore_n (lv' := [(3, .int u52), (0, .ref a_o), (1, .int st4.1), (2, .int st4.2.1)]) hx hb dX0_befall_55 rfl hl (by decide) rfl (fun ls hl => ?_)
          refine lv_aload_n hx hb dX0_befall_56 rfl (lv_at hl 1 rfl) ?_
          refine va_get (D := E.1) (ci := 0) (v := .ref a_o_happenings) (C := RX0) (T := TX0) (N := 11) hx hb hts inX0 hown hK hP 0 rfl rfl 8 (by decide) (hts _ fl_X0_34) (fun _ h9 => h9) rfl dX0_befall_57 ?_
          refine lv_iload_n hx hb dX0_befall_60 rfl (lv_at hl 3 rfl) ?_
          refine lv_iconst (v := 2) hx hb dX0_befall_61 (by decide) ?_
          obtain ⟨u62, hu62, hf⟩ := bd hf
          refine keepVI (ct_X7_get l E a_o_happenings a_o_happenings_cells 40 5 o_happenings_many st4.2.2.2 st4.2.1 (2 : Int32) u62 hu62) [3, 4] cal_X7_get cav_X7_get lk_X0_92 cx hP hD hS hl dX0_befall_62 rfl rfl rfl rfl (Nat.le_of_ble_eq_true rfl) ⟨Nat.le_of_ble_eq_true rfl, Nat.le_of_ble_eq_true rfl⟩ rfl (by decide) (fun H locs hP hS => ?_)
          refine lv_istore (lv' := [(4, .int u62), (3, .int u52), (0, .ref a_o), (1, .int st4.1), (2, .int st4.2.1)]) hx hb dX0_befall_65 hl (by decide) rfl (fun ls hl => ?_)
          refine lv_iload_n hx hb dX0_befall_67 rfl (lv_at hl 1 rfl) ?_
          obtain ⟨u68, hu68, hf⟩ := bd hf
          refine keepSI (ct_J6_bitCount_0f7a4 l E u52 u68 hu68) [] cal_J6_bitCount_0f7a4 sta_J6_bitCount_0f7a4 lk_X0_138 cx hP hD hS hl dX0_befall_68 rfl rfl (Nat.le_of_ble_eq_true rfl) ⟨Nat.le_of_ble_eq_true rfl, Nat.le_of_ble_eq_true rfl⟩ rfl (by decide) (fun H locs hP hS => ?_)
          refine lv_iload hx hb dX0_befall_71 (lv_at hl 0 rfl) ?_
          refine lv_icmp_lt (tgt := 80) hx hb dX0_befall_73 (by decide) (fun hc => ?_) (fun hc => ?_)
          · have hf := it_t hc hf
            refine lv_iconst (v := 0) hx hb dX0_befall_80 (by decide) ?_
            exact hj81 _ _ _ _ _ _ _ _ _ hf hP hD hS (lv_sub hl [2, 4, 1, 0] rfl)
          · have hf := it_f hc hf
            refine lv_iconst (v := 1) hx hb dX0_befall_76 (by decide) ?_
            refine lv_goto (tgt := 81) hx hb dX0_befall_77 (by decide) ?_
            exact hj81 _ _ _ _ _ _ _ _ _ hf hP hD hS (lv_sub hl [2, 4, 1, 0] rfl)
        · have hf := it_f hc hf
          refine lv_goto (tgt := 129) hx hb dX0_befall_39 (by decide) ?_
          exact hj129 _ _ _ _ _ _ _ hf hP hD hS (lv_sub hl [0, 1, 2] rfl)
  · refine fun H locs ls hP hD hS hl => ?_
    refine lv_iload_n hx hb dX0_befall_135 rfl (lv_at hl 0 rfl) ?_
    obtain ⟨hz, hf⟩ := ck hf
    obtain rfl := Option.some.inj hf
    subst hq
    exact retZ cx hz hP hD hS dX0_befall_136
def X0_warn (F : Nat) (o_delay : Int32) (o_happenings_many : Int32) (o_happenings_cells : Nat → Int32) (o_watchers_many : Int32) (o_watchers_cells : Nat → Int32) (v1 : Int32) : Option ((Nat → Int32) × (Nat → Int32)) :=
  (X7_raiseBy 12 3 o_watchers_many o_watchers_cells v1 (2 : Int32) (1 : Int32)).bind fun u7 =>
  (X7_get 12 3 o_watchers_many u7 v1 (0 : Int32)).bind fun u21 =>
  (X7_withValue F 40 5 o_happenings_many o_happenings_cells (0 : Int32) u21).bind fun u24 =>
  (X7_withValue F 40 5 o_happenings_many o_happenings_cells (3 : Int32) (0 : Int32)).bind fun u36 =>
  (X0_soonest F o_happenings_many o_happenings_cells (u24 &&& u36)).bind fun u40 =>
  if u40 = (-1) then
  some (o_happenings_cells, u7)
  else
  (X7_get 40 5 o_happenings_many o_happenings_cells u40 (1 : Int32)).bind fun u61 =>
  (X7_set 40 5 o_happenings_many o_happenings_cells u40 (1 : Int32) (jmin (u61 + o_delay) (9999 : Int32))).bind fun u75 =>
  some (u75, u7)
abbrev wd_X0_warn (E : vE) (a_o a_o_streets a_o_names a_o_extras a_o_happenings a_o_watchers a_o_weeks a_o_happenings_cells a_o_watchers_cells : Nat) (o_wage : Int32) (o_delay : Int32) (o_odds : Int32) (o_clock : Int32) (o_hasWeeks : Int32) (o_happenings_many : Int32) (o_happenings_cells : Nat → Int32) (o_watchers_many : Int32) (o_watchers_cells : Nat → Int32) : va_W := [(a_o, .inr (0, [.int o_wage, .int o_delay, .int o_odds, .int o_clock, .int o_hasWeeks, .ref a_o_streets, .ref a_o_names, .ref a_o_extras, .ref a_o_happenings, .ref a_o_watchers, .ref a_o_weeks])), (a_o_happenings, .inr (7, [.int 5, .ref a_o_happenings_cells, .int o_happenings_many])), (a_o_happenings_cells, .inl (E.2.1, 40, .inl o_happenings_cells)), (a_o_watchers, .inr (7, [.int 3, .ref a_o_watchers_cells, .int o_watchers_many])), (a_o_watchers_cells, .inl (E.2.1, 12, .inl o_watchers_cells))]
set_option maxHeartbeats 4000000 in
set_option maxRecDepth 100000 in
theorem ct_X0_warn (l : Launch) (E : vE) (F : Nat) (a_o a_o_streets a_o_names a_o_extras a_o_happenings a_o_watchers a_o_weeks a_o_happenings_cells a_o_watchers_cells : Nat) (o_wage : Int32) (o_delay : Int32) (o_odds : Int32) (o_clock : Int32) (o_hasWeeks : Int32) (o_happenings_many : Int32) (o_happenings_cells : Nat → Int32) (o_watchers_many : Int32) (o_watchers_cells : Nat → Int32) (v1 : Int32) (u : (Nat → Int32) × (Nat → Int32)) (hf : X0_warn F o_delay o_happenings_many o_happenings_cells o_watchers_many o_watchers_cells v1 = some u) :
    CtV l yX0_warn cX0_warn 4 none 2 E [.ref a_o, .int v1] (wd_X0_warn E a_o a_o_streets a_o_names a_o_extras a_o_happenings a_o_watchers a_o_weeks a_o_happenings_cells a_o_watchers_cells o_wage o_delay o_odds o_clock o_hasWeeks o_happenings_many o_happenings_cells o_watchers_many o_watchers_cells) (wd_X0_warn E a_o a_o_streets a_o_names a_o_extras a_o_happenings a_o_watchers a_o_weeks a_o_happenings_cells a_o_watchers_cells o_wage o_delay o_odds o_clock o_hasWeeks o_happenings_many u.1 o_watchers_many u.2) := by
  refine ctV (by decide) (Nat.le_of_ble_eq_true rfl) ?_
  intro p e s m below meth cd A ls aa QQ hq cx hP hD hS hl
  obtain ⟨⟨hx, hb, hml, hown, hts⟩, hr, hlocks, hK, hA, hX⟩ := id cx
  have hl : lv_has ls 4 [(0, .ref a_o), (1, .int v1)] := hl
  unfold X0_warn at hf
  refine lv_aload_n hx hb dX0_warn_0 rfl (lv_at hl 0 rfl) ?_
  refine va_get (D := E.1) (ci := 0) (v := .ref a_o_watchers) (C := RX0) (T := TX0) (N := 11) hx hb hts inX0 hown hK hP 0 rfl rfl 9 (by decide) (hts _ fl_X0_37) (fun _ h9 => h9) rfl dX0_warn_1 ?_
  refine lv_iload_n hx hb dX0_warn_4 rfl (lv_at hl 1 rfl) ?_
  refine lv_iconst (v := 2) hx hb dX0_warn_5 (by decide) ?_
  refine lv_iconst (v := 1) hx hb dX0_warn_6 (by decide) ?_
  obtain ⟨u7, hu7, hf⟩ := bd hf
  refine callVV (wn := (wd_X0_warn E a_o a_o_streets a_o_names a_o_extras a_o_happenings a_o_watchers a_o_weeks a_o_happenings_cells a_o_watchers_cells o_wage o_delay o_odds o_clock o_hasWeeks o_happenings_many o_happenings_cells o_watchers_many u7)) (n1 := 5) (ct_X7_raiseBy l E a_o_watchers a_o_watchers_cells 12 3 o_watchers_many o_watchers_cells v1 (2 : Int32) (1 : Int32) u7 hu7) [3, 4] cal_X7_raiseBy cav_X7_raiseBy lk_X0_103 cx hP hD hS hl dX0_warn_7 rfl rfl rfl rfl (Nat.le_of_ble_eq_true rfl) ⟨Nat.le_of_ble_eq_true rfl, Nat.le_of_ble_eq_true rfl⟩ rfl (by decide +kernel) rfl [none, none, none, some 0, some 1] rfl (by decide +kernel) rfl (fun H locs hP hD hS => ?_)
  refine lv_aload_n hx hb dX0_warn_10 rfl (lv_at hl 0 rfl) ?_
  refine va_get (D := E.1) (ci := 0) (v := .ref a_o_happenings) (C := RX0) (T := TX0) (N := 11) hx hb hts inX0 hown hK hP 0 rfl rfl 8 (by decide) (hts _ fl_X0_34) (fun _ h9 => h9) rfl dX0_warn_11 ?_
  refine lv_iconst (v := 0) hx hb dX0_warn_14 (by decide) ?_
  refine lv_aload_n hx hb dX0_warn_15 rfl (lv_at hl 0 rfl) ?_
  refine va_get (D := E.1) (ci := 0) (v := .ref a_o_watchers) (C := RX0) (T := TX0) (N := 11) hx hb hts inX0 hown hK hP 0 rfl rfl 9 (by decide) (hts _ fl_X0_37) (fun _ h9 => h9) rfl dX0_warn_16 ?_
  refine lv_iload_n hx hb dX0_warn_19 rfl (lv_at hl 1 rfl) ?_
  refine lv_iconst (v := 0) hx hb dX0_warn_20 (by decide) ?_
  obtain ⟨u21, hu21, hf⟩ := bd hf
  refine keepVI (ct_X7_get l E a_o_watchers a_o_watchers_cells 12 3 o_watchers_many u7 v1 (0 : Int32) u21 hu21) [3, 4] cal_X7_get cav_X7_get lk_X0_92 cx hP hD hS hl dX0_warn_21 rfl rfl rfl rfl (Nat.le_of_ble_eq_true rfl) ⟨Nat.le_of_ble_eq_true rfl, Nat.le_of_ble_eq_true rfl⟩ rfl (by decide) (fun H locs hP hS => ?_)
  obtain ⟨u24, hu24, hf⟩ := bd hf
  refine keepVI (ct_X7_withValue l E F a_o_happenings a_o_happenings_cells 40 5 o_happenings_many o_happenings_cells (0 : Int32) u21 u24 hu24) [1, 2] cal_X7_withValue cav_X7_withValue lk_X0_88 cx hP hD hS hl dX0_warn_24 rfl rfl rfl rfl (Nat.le_of_ble_eq_true rfl) ⟨Nat.le_of_ble_eq_true rfl, Nat.le_of_ble_eq_true rfl⟩ rfl (by decide) (fun H locs hP hS => ?_)
  refine lv_istore_n (lv' := [(2, .int u24), (0, .ref a_o), (1, .int v1)]) hx hb dX0_warn_27 rfl hl (by decide) rfl (fun ls hl => ?_)
  refine lv_aload_n hx hb dX0_warn_28 rfl (lv_at hl 1 rfl) ?_
  refine lv_iload_n hx hb dX0_warn_29 rfl (lv_at hl 0 rfl) ?_
  refine lv_aload_n hx hb dX0_warn_30 rfl (lv_at hl 1 rfl) ?_
  refine va_get (D := E.1) (ci := 0) (v := .ref a_o_happenings) (C := RX0) (T := TX0) (N := 11) hx hb hts inX0 hown hK hP 0 rfl rfl 8 (by decide) (hts _ fl_X0_34) (fun _ h9 => h9) rfl dX0_warn_31 ?_
  refine lv_iconst (v := 3) hx hb dX0_warn_34 (by decide) ?_
  refine lv_iconst (v := 0) hx hb dX0_warn_35 (by decide) ?_
  obtain ⟨u36, hu36, hf⟩ := bd hf
  refine keepVI (ct_X7_withValue l E F a_o_happenings a_o_happenings_cells 40 5 o_happenings_many o_happenings_cells (3 : Int32) (0 : Int32) u36 hu36) [1, 2] cal_X7_withValue cav_X7_withValue lk_X0_88 cx hP hD hS hl dX0_warn_36 rfl rfl rfl rfl (Nat.le_of_ble_eq_true rfl) ⟨Nat.le_of_ble_eq_true rfl, Nat.le_of_ble_eq_true rfl⟩ rfl (by decide) (fun H locs hP hS => ?_)
  refine lv_iand hx hb dX0_warn_39 ?_
  obtain ⟨u40, hu40, hf⟩ := bd hf
  refine keepVI (ct_X0_soonest l E F a_o a_o_streets a_o_names a_o_extras a_o_happenings a_o_watchers a_o_weeks a_o_happenings_cells o_wage o_delay o_odds o_clock o_hasWeeks o_happenings_many o_happenings_cells (u24 &&& u36) u40 hu40) [0, 1, 2] cal_X0_soonest cav_X0_soonest lk_X0_113 cx hP hD hS hl dX0_warn_40 rfl rfl rfl rfl (Nat.le_of_ble_eq_true rfl) ⟨Nat.le_of_ble_eq_true rfl, Nat.le_of_ble_eq_true rfl⟩ rfl (by decide) (fun H locs hP hS => ?_)
  refine lv_istore_n (lv' := [(3, .int u40), (2, .int u24), (0, .ref a_o), (1, .int v1)]) hx hb dX0_warn_43 rfl hl (by decide) rfl (fun ls hl => ?_)
  refine lv_iload_n hx hb dX0_warn_44 rfl (lv_at hl 0 rfl) ?_
  refine lv_iconst (v := (-1)) hx hb dX0_warn_45 (by decide) ?_
  refine lv_icmp_eq (tgt := 78) hx hb dX0_warn_46 (by decide) (fun hc => ?_) (fun hc => ?_)
  · have hf := it_t hc hf
    obtain rfl := Option.some.inj hf
    subst hq
    exact retV cx hP hD hS dX0_warn_78
  · have hf := it_f hc hf
    refine lv_aload_n hx hb dX0_warn_49 rfl (lv_at hl 2 rfl) ?_
    refine va_get (D := E.1) (ci := 0) (v := .ref a_o_happenings) (C := RX0) (T := TX0) (N := 11) hx hb hts inX0 hown hK hP 0 rfl rfl 8 (by decide) (hts _ fl_X0_34) (fun _ h9 => h9) rfl dX0_warn_50 ?_
    refine lv_iload_n hx hb dX0_warn_53 rfl (lv_at hl 0 rfl) ?_
    refine lv_iconst (v := 1) hx hb dX0_warn_54 (by decide) ?_
    refine lv_aload_n hx hb dX0_warn_55 rfl (lv_at hl 2 rfl) ?_
    refine va_get (D := E.1) (ci := 0) (v := .ref a_o_happenings) (C := RX0) (T := TX0) (N := 11) hx hb hts inX0 hown hK hP 0 rfl rfl 8 (by decide) (hts _ fl_X0_34) (fun _ h9 => h9) rfl dX0_warn_56 ?_
    refine lv_iload_n hx hb dX0_warn_59 rfl (lv_at hl 0 rfl) ?_
    refine lv_iconst (v := 1) hx hb dX0_warn_60 (by decide) ?_
    obtain ⟨u61, hu61, hf⟩ := bd hf
    refine keepVI (ct_X7_get l E a_o_happenings a_o_happenings_cells 40 5 o_happenings_many o_happenings_cells u40 (1 : Int32) u61 hu61) [1, 2] cal_X7_get cav_X7_get lk_X0_92 cx hP hD hS hl dX0_warn_61 rfl rfl rfl rfl (Nat.le_of_ble_eq_true rfl) ⟨Nat.le_of_ble_eq_true rfl, Nat.le_of_ble_eq_true rfl⟩ rfl (by decide) (fun H locs hP hS => ?_)
    refine lv_aload_n hx hb dX0_warn_64 rfl (lv_at hl 2 rfl) ?_
    refine va_get (D := E.1) (ci := 0) (v := .int o_delay) (C := RX0) (T := TX0) (N := 11) hx hb hts inX0 hown hK hP 0 rfl rfl 1 (by decide) (hts _ fl_X0_52) (fun _ h9 => h9) rfl dX0_warn_65 ?_
    refine lv_iadd hx hb dX0_warn_68 ?_
    refine lv_sipush (v := 9999) hx hb dX0_warn_69 (by decide) ?_
    refine r_mmin cx hl lk_X0_150 mt_min (Nat.le_of_ble_eq_true rfl) (Nat.le_of_ble_eq_true rfl) dX0_warn_72 ?_
    obtain ⟨u75, hu75, hf⟩ := bd hf
    refine callVV (wn := (wd_X0_warn E a_o a_o_streets a_o_names a_o_extras a_o_happenings a_o_watchers a_o_weeks a_o_happenings_cells a_o_watchers_cells o_wage o_delay o_odds o_clock o_hasWeeks o_happenings_many u75 o_watchers_many u7)) (n1 := 5) (ct_X7_set l E a_o_happenings a_o_happenings_cells 40 5 o_happenings_many o_happenings_cells u40 (1 : Int32) (jmin (u61 + o_delay) (9999 : Int32)) u75 hu75) [1, 2] cal_X7_set cav_X7_set lk_X0_84 cx hP hD hS hl dX0_warn_75 rfl rfl rfl rfl (Nat.le_of_ble_eq_true rfl) ⟨Nat.le_of_ble_eq_true rfl, Nat.le_of_ble_eq_true rfl⟩ rfl (by decide +kernel) rfl [none, some 0, some 1, none, none] rfl (by decide +kernel) rfl (fun H locs hP hD hS => ?_)
    obtain rfl := Option.some.inj hf
    subst hq
    exact retV cx hP hD hS dX0_warn_78
def X0_watch_j52 (F : Nat) (o_delay : Int32) (o_extras_many : Int32) (o_extras_cells : Nat → Int32) (o_happenings_many : Int32) (o_happenings_cells : Nat → Int32) (o_watchers_many : Int32) (o_watchers_cells : Nat → Int32) (v1 : Int32) (v2 : Int32) : Option ((Int32 × Int32 × (Nat → Int32) × (Nat → Int32)) ⊕ ((Int32 × (Nat → Int32) × (Nat → Int32)))) :=
  some (.inl (v1, (v2 + 1), o_happenings_cells, o_watchers_cells))
def X0_watch_b4 (F : Nat) (o_delay : Int32) (o_extras_many : Int32) (o_extras_cells : Nat → Int32) (o_happenings_many : Int32) (o_watchers_many : Int32) (st4 : Int32 × Int32 × (Nat → Int32) × (Nat → Int32)) : Option ((Int32 × Int32 × (Nat → Int32) × (Nat → Int32)) ⊕ ((Int32 × (Nat → Int32) × (Nat → Int32)))) :=
  if o_watchers_many ≤ st4.2.1 then
  some (.inr (st4.1, st4.2.2.1, st4.2.2.2))
  else
  (X7_get 12 3 o_watchers_many st4.2.2.2 st4.2.1 (0 : Int32)).bind fun u22 =>
  (X0_behind F o_extras_many o_extras_cells u22).bind fun u25 =>
  (J6_bitCount_0f7a4 u25).bind fun u28 =>
  (X7_get 12 3 o_watchers_many st4.2.2.2 st4.2.1 (1 : Int32)).bind fun u39 =>
  if u28 < u39 then
  X0_watch_j52 F o_delay o_extras_many o_extras_cells o_happenings_many st4.2.2.1 o_watchers_many st4.2.2.2 st4.1 st4.2.1
  else
  (X0_warn F o_delay o_happenings_many st4.2.2.1 o_watchers_many st4.2.2.2 st4.2.1).bind fun u47 =>
  X0_watch_j52 F o_delay o_extras_many o_extras_cells o_happenings_many u47.1 o_watchers_many u47.2 1 st4.2.1
def X0_watch (F : Nat) (o_delay : Int32) (o_extras_many : Int32) (o_extras_cells : Nat → Int32) (o_happenings_many : Int32) (o_happenings_cells : Nat → Int32) (o_watchers_many : Int32) (o_watchers_cells : Nat → Int32) : Option (Int32 × (Nat → Int32) × (Nat → Int32)) :=
  (iter (X0_watch_b4 F o_delay o_extras_many o_extras_cells o_happenings_many o_watchers_many) F (0, 0, o_happenings_cells, o_watchers_cells)).bind (fun (e4 : Int32 × (Nat → Int32) × (Nat → Int32)) =>
    if isZ e4.1 then some (e4.1, e4.2.1, e4.2.2) else none)
abbrev wd_X0_watch (E : vE) (a_o a_o_streets a_o_names a_o_extras a_o_happenings a_o_watchers a_o_weeks a_o_extras_cells a_o_happenings_cells a_o_watchers_cells : Nat) (o_wage : Int32) (o_delay : Int32) (o_odds : Int32) (o_clock : Int32) (o_hasWeeks : Int32) (o_extras_many : Int32) (o_extras_cells : Nat → Int32) (o_happenings_many : Int32) (o_happenings_cells : Nat → Int32) (o_watchers_many : Int32) (o_watchers_cells : Nat → Int32) : va_W := [(a_o, .inr (0, [.int o_wage, .int o_delay, .int o_odds, .int o_clock, .int o_hasWeeks, .ref a_o_streets, .ref a_o_names, .ref a_o_extras, .ref a_o_happenings, .ref a_o_watchers, .ref a_o_weeks])), (a_o_extras, .inr (7, [.int 5, .ref a_o_extras_cells, .int o_extras_many])), (a_o_extras_cells, .inl (E.2.1, 35, .inl o_extras_cells)), (a_o_happenings, .inr (7, [.int 5, .ref a_o_happenings_cells, .int o_happenings_many])), (a_o_happenings_cells, .inl (E.2.1, 40, .inl o_happenings_cells)), (a_o_watchers, .inr (7, [.int 3, .ref a_o_watchers_cells, .int o_watchers_many])), (a_o_watchers_cells, .inl (E.2.1, 12, .inl o_watchers_cells))]
set_option maxHeartbeats 4000000 in
set_option maxRecDepth 100000 in
theorem ct_X0_watch (l : Launch) (E : vE) (F : Nat) (a_o a_o_streets a_o_names a_o_extras a_o_happenings a_o_watchers a_o_weeks a_o_extras_cells a_o_happenings_cells a_o_watchers_cells : Nat) (o_wage : Int32) (o_delay : Int32) (o_odds : Int32) (o_clock : Int32) (o_hasWeeks : Int32) (o_extras_many : Int32) (o_extras_cells : Nat → Int32) (o_happenings_many : Int32) (o_happenings_cells : Nat → Int32) (o_watchers_many : Int32) (o_watchers_cells : Nat → Int32) (u : Int32 × (Nat → Int32) × (Nat → Int32)) (hf : X0_watch F o_delay o_extras_many o_extras_cells o_happenings_many o_happenings_cells o_watchers_many o_watchers_cells = some u) :
    CtI l yX0_watch cX0_watch 4 (some .boolean) 3 E [.ref a_o] (wd_X0_watch E a_o a_o_streets a_o_names a_o_extras a_o_happenings a_o_watchers a_o_weeks a_o_extras_cells a_o_happenings_cells a_o_watchers_cells o_wage o_delay o_odds o_clock o_hasWeeks o_extras_many o_extras_cells o_happenings_many o_happenings_cells o_watchers_many o_watchers_cells) (wd_X0_watch E a_o a_o_streets a_o_names a_o_extras a_o_happenings a_o_watchers a_o_weeks a_o_extras_cells a_o_happenings_cells a_o_watchers_cells o_wage o_delay o_odds o_clock o_hasWeeks o_extras_many o_extras_cells o_happenings_many u.2.1 o_watchers_many u.2.2) u.1 := by
  refine ctI (by decide) (Nat.le_of_ble_eq_true rfl) ?_
  intro p e s m below meth cd A ls aa QQ hq cx hP hD hS hl
  obtain ⟨⟨hx, hb, hml, hown, hts⟩, hr, hlocks, hK, hA, hX⟩ := id cx
  have hl : lv_has ls 4 [(0, .ref a_o)] := hl
  unfold X0_watch at hf
  refine lv_iconst (v := 0) hx hb dX0_watch_0 (by decide) ?_
  refine lv_istore_n (lv' := [(1, .int 0), (0, .ref a_o)]) hx hb dX0_watch_1 rfl hl (by decide) rfl (fun ls hl => ?_)
  refine lv_iconst (v := 0) hx hb dX0_watch_2 (by decide) ?_
  refine lv_istore_n (lv' := [(2, .int 0), (1, .int 0), (0, .ref a_o)]) hx hb dX0_watch_3 rfl hl (by decide) rfl (fun ls hl => ?_)
  obtain ⟨e4, hit4, hf⟩ := bd hf
  refine iter_W (b := X0_watch_b4 F o_delay o_extras_many o_extras_cells o_happenings_many o_watchers_many) (P := fun st4 => ∀ (H : Heap) (locs : List Loc) (ls : Array Slot), va_P E.1 vwCl (wd_X0_watch E a_o a_o_streets a_o_names a_o_extras a_o_happenings a_o_watchers a_o_weeks a_o_extras_cells a_o_happenings_cells a_o_watchers_cells o_wage o_delay o_odds o_clock o_hasWeeks o_extras_many o_extras_cells o_happenings_many st4.2.2.1 o_watchers_many st4.2.2.2) H → va_D A (wd_X0_watch E a_o a_o_streets a_o_names a_o_extras a_o_happenings a_o_watchers a_o_weeks a_o_extras_cells a_o_happenings_cells a_o_watchers_cells o_wage o_delay o_odds o_clock o_hasWeeks o_extras_many o_extras_cells o_happenings_many st4.2.2.1 o_watchers_many st4.2.2.2) → va_S A s.heap H locs → lv_has ls 4 [(0, .ref a_o), (1, .int st4.1), (2, .int st4.2.1)] → W p l e (rmd 3) s m aa below meth cd H locs 0 0 QQ (F0 m 4 ls [])) (G := (fun (e4 : Int32 × (Nat → Int32) × (Nat → Int32)) => ∀ (H : Heap) (locs : List Loc) (ls : Array Slot), va_P E.1 vwCl (wd_X0_watch E a_o a_o_streets a_o_names a_o_extras a_o_happenings a_o_watchers a_o_weeks a_o_extras_cells a_o_happenings_cells a_o_watchers_cells o_wage o_delay o_odds o_clock o_hasWeeks o_extras_many o_extras_cells o_happenings_many e4.2.1 o_watchers_many e4.2.2) H → va_D A (wd_X0_watch E a_o a_o_streets a_o_names a_o_extras a_o_happenings a_o_watchers a_o_weeks a_o_extras_cells a_o_happenings_cells a_o_watchers_cells o_wage o_delay o_odds o_clock o_hasWeeks o_extras_many o_extras_cells o_happenings_many e4.2.1 o_watchers_many e4.2.2) → va_S A s.heap H locs → lv_has ls 4 [(1, .int e4.1)] → W p l e (rmd 3) s m aa below meth cd H locs 0 0 QQ (F0 m 58 ls []))) ?_ F (0, 0, o_happenings_cells, o_watchers_cells) e4 hit4 ?_ _ _ _ hP hD hS (lv_sub hl [2, 1, 0] rfl)
  · intro st4 r4 hf hk4 he4 H locs ls hP hD hS hl
    have hj52 : ∀ (v1_j52 : Int32) (v2_j52 : Int32) (o_happenings_cells_j52 : Nat → Int32) (o_watchers_cells_j52 : Nat → Int32) (H : Heap) (locs : List Loc) (ls : Array Slot), X0_watch_j52 F o_delay o_extras_many o_extras_cells o_happenings_many o_happenings_cells_j52 o_watchers_many o_watchers_cells_j52 v1_j52 v2_j52 = some r4 → va_P E.1 vwCl (wd_X0_watch E a_o a_o_streets a_o_names a_o_extras a_o_happenings a_o_watchers a_o_weeks a_o_extras_cells a_o_happenings_cells a_o_watchers_cells o_wage o_delay o_odds o_clock o_hasWeeks o_extras_many o_extras_cells o_happenings_many o_happenings_cells_j52 o_watchers_many o_watchers_cells_j52) H → va_D A (wd_X0_watch E a_o a_o_streets a_o_names a_o_extras a_o_happenings a_o_watchers a_o_weeks a_o_extras_cells a_o_happenings_cells a_o_watchers_cells o_wage o_delay o_odds o_clock o_hasWeeks o_extras_many o_extras_cells o_happenings_many o_happenings_cells_j52 o_watchers_many o_watchers_cells_j52) → va_S A s.heap H locs → lv_has ls 4 [(0, .ref a_o), (1, .int v1_j52), (2, .int v2_j52)] → W p l e (rmd 3) s m aa below meth cd H locs 0 0 QQ (F0 m 52 ls []) := by
      intro v1_j52 v2_j52 o_happenings_cells_j52 o_watchers_cells_j52 H locs ls hf hP hD hS hl
      unfold X0_watch_j52 at hf
      refine lv_iinc (v := (v2_j52 + 1)) (lv' := [(2, .int (v2_j52 + 1)), (0, .ref a_o), (1, .int v1_j52)]) hx hb dX0_watch_52 hl (k := 2) rfl rfl (by decide) rfl (fun ls hl => ?_)
      refine lv_goto (tgt := 4) hx hb dX0_watch_55 (by decide) ?_
      exact hk4 _ (Option.some.inj hf).symm _ _ _ hP hD hS (lv_sub hl [1, 2, 0] rfl)
    unfold X0_watch_b4 at hf
    refine lv_iload_n hx hb dX0_watch_4 rfl (lv_at hl 2 rfl) ?_
    refine lv_aload_n hx hb dX0_watch_5 rfl (lv_at hl 0 rfl) ?_
    refine va_get (D := E.1) (ci := 0) (v := .ref a_o_watchers) (C := RX0) (T := TX0) (N := 11) hx hb hts inX0 hown hK hP 0 rfl rfl 9 (by decide) (hts _ fl_X0_37) (fun _ h9 => h9) rfl dX0_watch_6 ?_
    refine va_get (D := E.1) (ci := 7) (v := .int o_watchers_many) (C := RX7) (T := TX7) (N := 3) hx hb hts inX7 hown hK hP 5 rfl rfl 2 (by decide) (hts _ fl_X0_67) (fun _ h9 => h9) rfl dX0_watch_9 ?_
    refine lv_icmp_ge (tgt := 58) hx hb dX0_watch_12 (by decide) (fun hc => ?_) (fun hc => ?_)
    · have hf := it_t hc hf
      exact he4 _ (Option.some.inj hf).symm _ _ _ hP hD hS (lv_sub hl [1] rfl)
    · have hf := it_f hc hf
      refine lv_aload_n hx hb dX0_watch_15 rfl (lv_at hl 0 rfl) ?_
      refine lv_aload_n hx hb dX0_watch_16 rfl (lv_at hl 0 rfl) ?_
      refine va_get (D := E.1) (ci := 0) (v := .ref a_o_watchers) (C := RX0) (T := TX0) (N := 11) hx hb hts inX0 hown hK hP 0 rfl rfl 9 (by decide) (hts _ fl_X0_37) (fun _ h9 => h9) rfl dX0_watch_17 ?_
      refine lv_iload_n hx hb dX0_watch_20 rfl (lv_at hl 2 rfl) ?_
      refine lv_iconst (v := 0) hx hb dX0_watch_21 (by decide) ?_
      obtain ⟨u22, hu22, hf⟩ := bd hf
      refine keepVI (ct_X7_get l E a_o_watchers a_o_watchers_cells 12 3 o_watchers_many st4.2.2.2 st4.2.1 (0 : Int32) u22 hu22) [5, 6] cal_X7_get cav_X7_get lk_X0_92 cx hP hD hS hl dX0_watch_22 rfl rfl rfl rfl (Nat.le_of_ble_eq_true rfl) ⟨Nat.le_of_ble_eq_true rfl, Nat.le_of_ble_eq_true rfl⟩ rfl (by decide) (fun H locs hP hS => ?_)
      obtain ⟨u25, hu25, hf⟩ := bd hf
      refine keepVI (ct_X0_behind l E F a_o a_o_streets a_o_names a_o_extras a_o_happenings a_o_watchers a_o_weeks a_o_extras_cells o_wage o_delay o_odds o_clock o_hasWeeks o_extras_many o_extras_cells u22 u25 hu25) [0, 1, 2] cal_X0_behind cav_X0_behind lk_X0_135 cx hP hD hS hl dX0_watch_25 rfl rfl rfl rfl (Nat.le_of_ble_eq_true rfl) ⟨Nat.le_of_ble_eq_true rfl, Nat.le_of_ble_eq_true rfl⟩ rfl (by decide) (fun H locs hP hS => ?_)
      obtain ⟨u28, hu28, hf⟩ := bd hf
      refine keepSI (ct_J6_bitCount_0f7a4 l E u25 u28 hu28) [] cal_J6_bitCount_0f7a4 sta_J6_bitCount_0f7a4 lk_X0_138 cx hP hD hS hl dX0_watch_28 rfl rfl (Nat.le_of_ble_eq_true rfl) ⟨Nat.le_of_ble_eq_true rfl, Nat.le_of_ble_eq_true rfl⟩ rfl (by decide) (fun H locs hP hS => ?_)
      refine lv_istore_n (lv' := [(3, .int u28), (0, .ref a_o), (1, .int st4.1), (2, .int st4.2.1)]) hx hb dX0_watch_31 rfl hl (by decide) rfl (fun ls hl => ?_)
      refine lv_iload_n hx hb dX0_watch_32 rfl (lv_at hl 0 rfl) ?_
      refine lv_aload_n hx hb dX0_watch_33 rfl (lv_at hl 1 rfl) ?_
      refine va_get (D := E.1) (ci := 0) (v := .ref a_o_watchers) (C := RX0) (T := TX0) (N := 11) hx hb hts inX0 hown hK hP 0 rfl rfl 9 (by decide) (hts _ fl_X0_37) (fun _ h9 => h9) rfl dX0_watch_34 ?_
      refine lv_iload_n hx hb dX0_watch_37 rfl (lv_at hl 3 rfl) ?_
      refine lv_iconst (v := 1) hx hb dX0_watch_38 (by decide) ?_
      obtain ⟨u39, hu39, hf⟩ := bd hf
      refine keepVI (ct_X7_get l E a_o_watchers a_o_watchers_cells 12 3 o_watchers_many st4.2.2.2 st4.2.1 (1 : Int32) u39 hu39) [5, 6] cal_X7_get cav_X7_get lk_X0_92 cx hP hD hS hl dX0_watch_39 rfl rfl rfl rfl (Nat.le_of_ble_eq_true rfl) ⟨Nat.le_of_ble_eq_true rfl, Nat.le_of_ble_eq_true rfl⟩ rfl (by decide) (fun H locs hP hS => ?_)
      refine lv_icmp_lt (tgt := 52) hx hb dX0_watch_42 (by decide) (fun hc => ?_) (fun hc => ?_)
      · have hf := it_t hc hf
        exact hj52 _ _ _ _ _ _ _ hf hP hD hS (lv_sub hl [1, 2, 3] rfl)
      · have hf := it_f hc hf
        refine lv_aload_n hx hb dX0_watch_45 rfl (lv_at hl 1 rfl) ?_
        refine lv_iload_n hx hb dX0_watch_46 rfl (lv_at hl 3 rfl) ?_
        obtain ⟨u47, hu47, hf⟩ := bd hf
        refine callVV (wn := (wd_X0_watch E a_o a_o_streets a_o_names a_o_extras a_o_happenings a_o_watchers a_o_weeks a_o_extras_cells a_o_happenings_cells a_o_watchers_cells o_wage o_delay o_odds o_clock o_hasWeeks o_extras_many o_extras_cells o_happenings_many u47.1 o_watchers_many u47.2)) (n1 := 7) (ct_X0_warn l E F a_o a_o_streets a_o_names a_o_extras a_o_happenings a_o_watchers a_o_weeks a_o_happenings_cells a_o_watchers_cells o_wage o_delay o_odds o_clock o_hasWeeks o_happenings_many st4.2.2.1 o_watchers_many st4.2.2.2 st4.2.1 u47 hu47) [0, 3, 4, 5, 6] cal_X0_warn cav_X0_warn lk_X0_146 cx hP hD hS hl dX0_watch_47 rfl rfl rfl rfl (Nat.le_of_ble_eq_true rfl) ⟨Nat.le_of_ble_eq_true rfl, Nat.le_of_ble_eq_true rfl⟩ rfl (by decide +kernel) rfl [some 0, none, none, some 1, some 2, some 3, some 4] rfl (by decide +kernel) rfl (fun H locs hP hD hS => ?_)
        refine lv_iconst (v := 1) hx hb dX0_watch_50 (by decide) ?_
        refine lv_istore_n (lv' := [(1, .int 1), (3, .int u28), (0, .ref a_o), (2, .int st4.2.1)]) hx hb dX0_watch_51 rfl hl (by decide) rfl (fun ls hl => ?_)
        exact hj52 _ _ _ _ _ _ _ hf hP hD hS (lv_sub hl [2, 0, 3] rfl)
  · refine fun H locs ls hP hD hS hl => ?_
    refine lv_iload_n hx hb dX0_watch_58 rfl (lv_at hl 0 rfl) ?_
    obtain ⟨hz, hf⟩ := ck hf
    obtain rfl := Option.some.inj hf
    subst hq
    exact retZ cx hz hP hD hS dX0_watch_59
def X0_nextDue_j52 (F : Nat) (o_clock : Int32) (o_happenings_many : Int32) (o_happenings_cells : Nat → Int32) (v2 : Int32) (v3 : Int32) : Option ((Int32 × Int32) ⊕ ((Int32))) :=
  some (.inl (v2, (v3 + 1)))
def X0_nextDue_b4 (F : Nat) (o_clock : Int32) (o_happenings_many : Int32) (o_happenings_cells : Nat → Int32) (st4 : Int32 × Int32) : Option ((Int32 × Int32) ⊕ ((Int32))) :=
  if o_happenings_many ≤ st4.2 then
  some (.inr st4.1)
  else
  (X7_get 40 5 o_happenings_many o_happenings_cells st4.2 (1 : Int32)).bind fun u21 =>
  (X0_isToCome o_happenings_many o_happenings_cells st4.2).bind fun u28 =>
  if u28 = 0 then
  X0_nextDue_j52 F o_clock o_happenings_many o_happenings_cells st4.1 st4.2
  else
  if u21 < o_clock then
  X0_nextDue_j52 F o_clock o_happenings_many o_happenings_cells st4.1 st4.2
  else
  if st4.1 ≤ u21 then
  X0_nextDue_j52 F o_clock o_happenings_many o_happenings_cells st4.1 st4.2
  else
  X0_nextDue_j52 F o_clock o_happenings_many o_happenings_cells u21 st4.2
def X0_nextDue (F : Nat) (o_clock : Int32) (o_happenings_many : Int32) (o_happenings_cells : Nat → Int32) (v1 : Int32) : Option (Int32) :=
  (iter (X0_nextDue_b4 F o_clock o_happenings_many o_happenings_cells) F (v1, 0)).bind (fun (e4 : Int32) =>
    some e4)
abbrev wd_X0_nextDue (E : vE) (a_o a_o_streets a_o_names a_o_extras a_o_happenings a_o_watchers a_o_weeks a_o_happenings_cells : Nat) (o_wage : Int32) (o_delay : Int32) (o_odds : Int32) (o_clock : Int32) (o_hasWeeks : Int32) (o_happenings_many : Int32) (o_happenings_cells : Nat → Int32) : va_W := [(a_o, .inr (0, [.int o_wage, .int o_delay, .int o_odds, .int o_clock, .int o_hasWeeks, .ref a_o_streets, .ref a_o_names, .ref a_o_extras, .ref a_o_happenings, .ref a_o_watchers, .ref a_o_weeks])), (a_o_happenings, .inr (7, [.int 5, .ref a_o_happenings_cells, .int o_happenings_many])), (a_o_happenings_cells, .inl (E.2.1, 40, .inl o_happenings_cells))]
set_option maxHeartbeats 4000000 in
set_option maxRecDepth 100000 in
theorem ct_X0_nextDue (l : Launch) (E : vE) (F : Nat) (a_o a_o_streets a_o_names a_o_extras a_o_happenings a_o_watchers a_o_weeks a_o_happenings_cells : Nat) (o_wage : Int32) (o_delay : Int32) (o_odds : Int32) (o_clock : Int32) (o_hasWeeks : Int32) (o_happenings_many : Int32) (o_happenings_cells : Nat → Int32) (v1 : Int32) (u : Int32) (hf : X0_nextDue F o_clock o_happenings_many o_happenings_cells v1 = some u) :
    CtI l yX0_nextDue cX0_nextDue 5 (some .int) 2 E [.ref a_o, .int v1] (wd_X0_nextDue E a_o a_o_streets a_o_names a_o_extras a_o_happenings a_o_watchers a_o_weeks a_o_happenings_cells o_wage o_delay o_odds o_clock o_hasWeeks o_happenings_many o_happenings_cells) (wd_X0_nextDue E a_o a_o_streets a_o_names a_o_extras a_o_happenings a_o_watchers a_o_weeks a_o_happenings_cells o_wage o_delay o_odds o_clock o_hasWeeks o_happenings_many o_happenings_cells) u := by
  refine ctI (by decide) (Nat.le_of_ble_eq_true rfl) ?_
  intro p e s m below meth cd A ls aa QQ hq cx hP hD hS hl
  obtain ⟨⟨hx, hb, hml, hown, hts⟩, hr, hlocks, hK, hA, hX⟩ := id cx
  have hl : lv_has ls 5 [(0, .ref a_o), (1, .int v1)] := hl
  unfold X0_nextDue at hf
  refine lv_iload_n hx hb dX0_nextDue_0 rfl (lv_at hl 1 rfl) ?_
  refine lv_istore_n (lv' := [(2, .int v1), (0, .ref a_o), (1, .int v1)]) hx hb dX0_nextDue_1 rfl hl (by decide) rfl (fun ls hl => ?_)
  refine lv_iconst (v := 0) hx hb dX0_nextDue_2 (by decide) ?_
  refine lv_istore_n (lv' := [(3, .int 0), (2, .int v1), (0, .ref a_o), (1, .int v1)]) hx hb dX0_nextDue_3 rfl hl (by decide) rfl (fun ls hl => ?_)
  obtain ⟨e4, hit4, hf⟩ := bd hf
  refine iter_W (b := X0_nextDue_b4 F o_clock o_happenings_many o_happenings_cells) (P := fun st4 => ∀ (H : Heap) (locs : List Loc) (ls : Array Slot), va_P E.1 vwCl (wd_X0_nextDue E a_o a_o_streets a_o_names a_o_extras a_o_happenings a_o_watchers a_o_weeks a_o_happenings_cells o_wage o_delay o_odds o_clock o_hasWeeks o_happenings_many o_happenings_cells) H → va_D A (wd_X0_nextDue E a_o a_o_streets a_o_names a_o_extras a_o_happenings a_o_watchers a_o_weeks a_o_happenings_cells o_wage o_delay o_odds o_clock o_hasWeeks o_happenings_many o_happenings_cells) → va_S A s.heap H locs → lv_has ls 5 [(0, .ref a_o), (2, .int st4.1), (3, .int st4.2)] → W p l e (rmd 2) s m aa below meth cd H locs 0 0 QQ (F0 m 4 ls [])) (G := (fun (e4 : Int32) => ∀ (H : Heap) (locs : List Loc) (ls : Array Slot), va_P E.1 vwCl (wd_X0_nextDue E a_o a_o_streets a_o_names a_o_extras a_o_happenings a_o_watchers a_o_weeks a_o_happenings_cells o_wage o_delay o_odds o_clock o_hasWeeks o_happenings_many o_happenings_cells) H → va_D A (wd_X0_nextDue E a_o a_o_streets a_o_names a_o_extras a_o_happenings a_o_watchers a_o_weeks a_o_happenings_cells o_wage o_delay o_odds o_clock o_hasWeeks o_happenings_many o_happenings_cells) → va_S A s.heap H locs → lv_has ls 5 [(2, .int e4)] → W p l e (rmd 2) s m aa below meth cd H locs 0 0 QQ (F0 m 58 ls []))) ?_ F (v1, 0) e4 hit4 ?_ _ _ _ hP hD hS (lv_sub hl [2, 1, 0] rfl)
  · intro st4 r4 hf hk4 he4 H locs ls hP hD hS hl
    have hj52 : ∀ (v2_j52 : Int32) (v3_j52 : Int32) (H : Heap) (locs : List Loc) (ls : Array Slot), X0_nextDue_j52 F o_clock o_happenings_many o_happenings_cells v2_j52 v3_j52 = some r4 → va_P E.1 vwCl (wd_X0_nextDue E a_o a_o_streets a_o_names a_o_extras a_o_happenings a_o_watchers a_o_weeks a_o_happenings_cells o_wage o_delay o_odds o_clock o_hasWeeks o_happenings_many o_happenings_cells) H → va_D A (wd_X0_nextDue E a_o a_o_streets a_o_names a_o_extras a_o_happenings a_o_watchers a_o_weeks a_o_happenings_cells o_wage o_delay o_odds o_clock o_hasWeeks o_happenings_many o_happenings_cells) → va_S A s.heap H locs → lv_has ls 5 [(0, .ref a_o), (2, .int v2_j52), (3, .int v3_j52)] → W p l e (rmd 2) s m aa below meth cd H locs 0 0 QQ (F0 m 52 ls []) := by
      intro v2_j52 v3_j52 H locs ls hf hP hD hS hl
      unfold X0_nextDue_j52 at hf
      refine lv_iinc (v := (v3_j52 + 1)) (lv' := [(3, .int (v3_j52 + 1)), (0, .ref a_o), (2, .int v2_j52)]) hx hb dX0_nextDue_52 hl (k := 2) rfl rfl (by decide) rfl (fun ls hl => ?_)
      refine lv_goto (tgt := 4) hx hb dX0_nextDue_55 (by decide) ?_
      exact hk4 _ (Option.some.inj hf).symm _ _ _ hP hD hS (lv_sub hl [1, 2, 0] rfl)
    unfold X0_nextDue_b4 at hf
    refine lv_iload_n hx hb dX0_nextDue_4 rfl (lv_at hl 2 rfl) ?_
    refine lv_aload_n hx hb dX0_nextDue_5 rfl (lv_at hl 0 rfl) ?_
    refine va_get (D := E.1) (ci := 0) (v := .ref a_o_happenings) (C := RX0) (T := TX0) (N := 11) hx hb hts inX0 hown hK hP 0 rfl rfl 8 (by decide) (hts _ fl_X0_34) (fun _ h9 => h9) rfl dX0_nextDue_6 ?_
    refine va_get (D := E.1) (ci := 7) (v := .int o_happenings_many) (C := RX7) (T := TX7) (N := 3) hx hb hts inX7 hown hK hP 1 rfl rfl 2 (by decide) (hts _ fl_X0_67) (fun _ h9 => h9) rfl dX0_nextDue_9 ?_
    refine lv_icmp_ge (tgt := 58) hx hb dX0_nextDue_12 (by decide) (fun hc => ?_) (fun hc => ?_)
    · have hf := it_t hc hf
      exact he4 _ (Option.some.inj hf).symm _ _ _ hP hD hS (lv_sub hl [1] rfl)
    · have hf := it_f hc hf
      refine lv_aload_n hx hb dX0_nextDue_15 rfl (lv_at hl 0 rfl) ?_
      refine va_get (D := E.1) (ci := 0) (v := .ref a_o_happenings) (C := RX0) (T := TX0) (N := 11) hx hb hts inX0 hown hK hP 0 rfl rfl 8 (by decide) (hts _ fl_X0_34) (fun _ h9 => h9) rfl dX0_nextDue_16 ?_
      refine lv_iload_n hx hb dX0_nextDue_19 rfl (lv_at hl 2 rfl) ?_
      refine lv_iconst (v := 1) hx hb dX0_nextDue_20 (by decide) ?_
      obtain ⟨u21, hu21, hf⟩ := bd hf
      refine keepVI (ct_X7_get l E a_o_happenings a_o_happenings_cells 40 5 o_happenings_many o_happenings_cells st4.2 (1 : Int32) u21 hu21) [1, 2] cal_X7_get cav_X7_get lk_X0_92 cx hP hD hS hl dX0_nextDue_21 rfl rfl rfl rfl (Nat.le_of_ble_eq_true rfl) ⟨Nat.le_of_ble_eq_true rfl, Nat.le_of_ble_eq_true rfl⟩ rfl (by decide) (fun H locs hP hS => ?_)
      refine lv_istore (lv' := [(4, .int u21), (0, .ref a_o), (2, .int st4.1), (3, .int st4.2)]) hx hb dX0_nextDue_24 hl (by decide) rfl (fun ls hl => ?_)
      refine lv_aload_n hx hb dX0_nextDue_26 rfl (lv_at hl 1 rfl) ?_
      refine lv_iload_n hx hb dX0_nextDue_27 rfl (lv_at hl 3 rfl) ?_
      obtain ⟨u28, hu28, hf⟩ := bd hf
      refine keepVI (ct_X0_isToCome l E a_o a_o_streets a_o_names a_o_extras a_o_happenings a_o_watchers a_o_weeks a_o_happenings_cells o_wage o_delay o_odds o_clock o_hasWeeks o_happenings_many o_happenings_cells st4.2 u28 hu28) [0, 1, 2] cal_X0_isToCome cav_X0_isToCome lk_X0_99 cx hP hD hS hl dX0_nextDue_28 rfl rfl rfl rfl (Nat.le_of_ble_eq_true rfl) ⟨Nat.le_of_ble_eq_true rfl, Nat.le_of_ble_eq_true rfl⟩ rfl (by decide) (fun H locs hP hS => ?_)
      refine lv_if_eq (tgt := 52) hx hb dX0_nextDue_31 (by decide) (fun hc => ?_) (fun hc => ?_)
      · have hf := it_t hc hf
        exact hj52 _ _ _ _ _ hf hP hD hS (lv_sub hl [1, 2, 3] rfl)
      · have hf := it_f hc hf
        refine lv_iload hx hb dX0_nextDue_34 (lv_at hl 0 rfl) ?_
        refine lv_aload_n hx hb dX0_nextDue_36 rfl (lv_at hl 1 rfl) ?_
        refine va_get (D := E.1) (ci := 0) (v := .int o_clock) (C := RX0) (T := TX0) (N := 11) hx hb hts inX0 hown hK hP 0 rfl rfl 3 (by decide) (hts _ fl_X0_58) (fun _ h9 => h9) rfl dX0_nextDue_37 ?_
        refine lv_icmp_lt (tgt := 52) hx hb dX0_nextDue_40 (by decide) (fun hc => ?_) (fun hc => ?_)
        · have hf := it_t hc hf
          exact hj52 _ _ _ _ _ hf hP hD hS (lv_sub hl [1, 2, 3] rfl)
        · have hf := it_f hc hf
          refine lv_iload hx hb dX0_nextDue_43 (lv_at hl 0 rfl) ?_
          refine lv_iload_n hx hb dX0_nextDue_45 rfl (lv_at hl 2 rfl) ?_
          refine lv_icmp_ge (tgt := 52) hx hb dX0_nextDue_46 (by decide) (fun hc => ?_) (fun hc => ?_)
          · have hf := it_t hc hf
            exact hj52 _ _ _ _ _ hf hP hD hS (lv_sub hl [1, 2, 3] rfl)
          · have hf := it_f hc hf
            refine lv_iload hx hb dX0_nextDue_49 (lv_at hl 0 rfl) ?_
            refine lv_istore_n (lv' := [(2, .int u21), (4, .int u21), (0, .ref a_o), (3, .int st4.2)]) hx hb dX0_nextDue_51 rfl hl (by decide) rfl (fun ls hl => ?_)
            exact hj52 _ _ _ _ _ hf hP hD hS (lv_sub hl [2, 0, 3] rfl)
  · refine fun H locs ls hP hD hS hl => ?_
    refine lv_iload_n hx hb dX0_nextDue_58 rfl (lv_at hl 0 rfl) ?_
    obtain rfl := Option.some.inj hf
    subst hq
    exact retI cx hP hD hS dX0_nextDue_59
def X0_passHours_j70 (F : Nat) (o_wage : Int32) (o_delay : Int32) (o_clock : Int32) (o_streets_corners : Int32) (o_streets_takes : Nat → Int32) (o_streets_hours : Nat → Int32) (o_extras_many : Int32) (o_extras_cells : Nat → Int32) (o_happenings_many : Int32) (o_happenings_cells : Nat → Int32) (o_watchers_many : Int32) (o_watchers_cells : Nat → Int32) (v1 : Int32) (v2 : Int32) (v3 : Int32) : Option ((Int32 × Int32 × (Nat → Int32) × (Nat → Int32) × (Nat → Int32)) ⊕ ((Int32 × (Nat → Int32) × (Nat → Int32) × (Nat → Int32)))) :=
  some (.inl ((v3 + 1), o_clock, o_extras_cells, o_happenings_cells, o_watchers_cells))
def X0_passHours_b9 (F : Nat) (o_wage : Int32) (o_delay : Int32) (o_streets_corners : Int32) (o_streets_takes : Nat → Int32) (o_streets_hours : Nat → Int32) (o_extras_many : Int32) (o_happenings_many : Int32) (o_watchers_many : Int32) (v1 : Int32) (v2 : Int32) (st9 : Int32 × Int32 × (Nat → Int32) × (Nat → Int32) × (Nat → Int32)) : Option ((Int32 × Int32 × (Nat → Int32) × (Nat → Int32) × (Nat → Int32)) ⊕ ((Int32 × (Nat → Int32) × (Nat → Int32) × (Nat → Int32)))) :=
  if v1 ≤ st9.1 then
  some (.inr (st9.2.1, st9.2.2.1, st9.2.2.2.1, st9.2.2.2.2))
  else
  if v2 ≤ st9.2.1 then
  some (.inr (st9.2.1, st9.2.2.1, st9.2.2.2.1, st9.2.2.2.2))
  else
  (X0_walk F o_streets_corners o_streets_takes o_streets_hours o_extras_many st9.2.2.1 o_happenings_many st9.2.2.2.1).bind fun u23 =>
  (X0_befall F o_wage st9.2.1 o_extras_many u23.2 o_happenings_many st9.2.2.2.1).bind fun u31 =>
  (X0_watch F o_delay o_extras_many u31.2.1 o_happenings_many u31.2.2 o_watchers_many st9.2.2.2.2).bind fun u40 =>
  if ((u23.1 ||| u31.1) ||| u40.1) = 0 then
  (X0_nextDue F (st9.2.1 + 1) o_happenings_many u40.2.1 v2).bind fun u64 =>
  X0_passHours_j70 F o_wage o_delay u64 o_streets_corners o_streets_takes o_streets_hours o_extras_many u31.2.1 o_happenings_many u40.2.1 o_watchers_many u40.2.2 v1 v2 st9.1
  else
  X0_passHours_j70 F o_wage o_delay (st9.2.1 + 1) o_streets_corners o_streets_takes o_streets_hours o_extras_many u31.2.1 o_happenings_many u40.2.1 o_watchers_many u40.2.2 v1 v2 st9.1
def X0_passHours (F : Nat) (o_wage : Int32) (o_delay : Int32) (o_clock : Int32) (o_streets_corners : Int32) (o_streets_takes : Nat → Int32) (o_streets_hours : Nat → Int32) (o_extras_many : Int32) (o_extras_cells : Nat → Int32) (o_happenings_many : Int32) (o_happenings_cells : Nat → Int32) (o_watchers_many : Int32) (o_watchers_cells : Nat → Int32) (v1 : Int32) : Option (Int32 × (Nat → Int32) × (Nat → Int32) × (Nat → Int32)) :=
  (iter (X0_passHours_b9 F o_wage o_delay o_streets_corners o_streets_takes o_streets_hours o_extras_many o_happenings_many o_watchers_many v1 (o_clock + v1)) F (0, o_clock, o_extras_cells, o_happenings_cells, o_watchers_cells)).bind (fun (e9 : Int32 × (Nat → Int32) × (Nat → Int32) × (Nat → Int32)) =>
    some (e9.1, e9.2.1, e9.2.2.1, e9.2.2.2))
abbrev wd_X0_passHours (E : vE) (a_o a_o_streets a_o_names a_o_extras a_o_happenings a_o_watchers a_o_weeks a_o_streets_roads a_o_streets_takes a_o_streets_hours a_o_extras_cells a_o_happenings_cells a_o_watchers_cells : Nat) (o_wage : Int32) (o_delay : Int32) (o_odds : Int32) (o_clock : Int32) (o_hasWeeks : Int32) (o_streets_corners : Int32) (o_streets_takes : Nat → Int32) (o_streets_hours : Nat → Int32) (o_extras_many : Int32) (o_extras_cells : Nat → Int32) (o_happenings_many : Int32) (o_happenings_cells : Nat → Int32) (o_watchers_many : Int32) (o_watchers_cells : Nat → Int32) : va_W := [(a_o, .inr (0, [.int o_wage, .int o_delay, .int o_odds, .int o_clock, .int o_hasWeeks, .ref a_o_streets, .ref a_o_names, .ref a_o_extras, .ref a_o_happenings, .ref a_o_watchers, .ref a_o_weeks])), (a_o_streets, .inr (6, [.int o_streets_corners, .ref a_o_streets_roads, .ref a_o_streets_takes, .ref a_o_streets_hours])), (a_o_streets_takes, .inl (E.2.1, 64, .inl o_streets_takes)), (a_o_streets_hours, .inl (E.2.1, 64, .inl o_streets_hours)), (a_o_extras, .inr (7, [.int 5, .ref a_o_extras_cells, .int o_extras_many])), (a_o_extras_cells, .inl (E.2.1, 35, .inl o_extras_cells)), (a_o_happenings, .inr (7, [.int 5, .ref a_o_happenings_cells, .int o_happenings_many])), (a_o_happenings_cells, .inl (E.2.1, 40, .inl o_happenings_cells)), (a_o_watchers, .inr (7, [.int 3, .ref a_o_watchers_cells, .int o_watchers_many])), (a_o_watchers_cells, .inl (E.2.1, 12, .inl o_watchers_cells))]
set_option maxHeartbeats 4000000 in
set_option maxRecDepth 100000 in
theorem ct_X0_passHours (l : Launch) (E : vE) (F : Nat) (a_o a_o_streets a_o_names a_o_extras a_o_happenings a_o_watchers a_o_weeks a_o_streets_roads a_o_streets_takes a_o_streets_hours a_o_extras_cells a_o_happenings_cells a_o_watchers_cells : Nat) (o_wage : Int32) (o_delay : Int32) (o_odds : Int32) (o_clock : Int32) (o_hasWeeks : Int32) (o_streets_corners : Int32) (o_streets_takes : Nat → Int32) (o_streets_hours : Nat → Int32) (o_extras_many : Int32) (o_extras_cells : Nat → Int32) (o_happenings_many : Int32) (o_happenings_cells : Nat → Int32) (o_watchers_many : Int32) (o_watchers_cells : Nat → Int32) (v1 : Int32) (u : Int32 × (Nat → Int32) × (Nat → Int32) × (Nat → Int32)) (hf : X0_passHours F o_wage o_delay o_clock o_streets_corners o_streets_takes o_streets_hours o_extras_many o_extras_cells o_happenings_many o_happenings_cells o_watchers_many o_watchers_cells v1 = some u) :
    CtV l yX0_passHours cX0_passHours 5 none 4 E [.ref a_o, .int v1] (wd_X0_passHours E a_o a_o_streets a_o_names a_o_extras a_o_happenings a_o_watchers a_o_weeks a_o_streets_roads a_o_streets_takes a_o_streets_hours a_o_extras_cells a_o_happenings_cells a_o_watchers_cells o_wage o_delay o_odds o_clock o_hasWeeks o_streets_corners o_streets_takes o_streets_hours o_extras_many o_extras_cells o_happenings_many o_happenings_cells o_watchers_many o_watchers_cells) (wd_X0_passHours E a_o a_o_streets a_o_names a_o_extras a_o_happenings a_o_watchers a_o_weeks a_o_streets_roads a_o_streets_takes a_o_streets_hours a_o_extras_cells a_o_happenings_cells a_o_watchers_cells o_wage o_delay o_odds u.1 o_hasWeeks o_streets_corners o_streets_takes o_streets_hours o_extras_many u.2.1 o_happenings_many u.2.2.1 o_watchers_many u.2.2.2) := by
  refine ctV (by decide) (Nat.le_of_ble_eq_true rfl) ?_
  intro p e s m below meth cd A ls aa QQ hq cx hP hD hS hl
  obtain ⟨⟨hx, hb, hml, hown, hts⟩, hr, hlocks, hK, hA, hX⟩ := id cx
  have hl : lv_has ls 5 [(0, .ref a_o), (1, .int v1)] := hl
  unfold X0_passHours at hf
  refine lv_aload_n hx hb dX0_passHours_0 rfl (lv_at hl 0 rfl) ?_
  refine va_get (D := E.1) (ci := 0) (v := .int o_clock) (C := RX0) (T := TX0) (N := 11) hx hb hts inX0 hown hK hP 0 rfl rfl 3 (by decide) (hts _ fl_X0_58) (fun _ h9 => h9) rfl dX0_passHours_1 ?_
  refine lv_iload_n hx hb dX0_passHours_4 rfl (lv_at hl 1 rfl) ?_
  refine lv_iadd hx hb dX0_passHours_5 ?_
  refine lv_istore_n (lv' := [(2, .int (o_clock + v1)), (0, .ref a_o), (1, .int v1)]) hx hb dX0_passHours_6 rfl hl (by decide) rfl (fun ls hl => ?_)
  refine lv_iconst (v := 0) hx hb dX0_passHours_7 (by decide) ?_
  refine lv_istore_n (lv' := [(3, .int 0), (2, .int (o_clock + v1)), (0, .ref a_o), (1, .int v1)]) hx hb dX0_passHours_8 rfl hl (by decide) rfl (fun ls hl => ?_)
  obtain ⟨e9, hit9, hf⟩ := bd hf
  refine iter_W (b := X0_passHours_b9 F o_wage o_delay o_streets_corners o_streets_takes o_streets_hours o_extras_many o_happenings_many o_watchers_many v1 (o_clock + v1)) (P := fun st9 => ∀ (H : Heap) (locs : List Loc) (ls : Array Slot), va_P E.1 vwCl (wd_X0_passHours E a_o a_o_streets a_o_names a_o_extras a_o_happenings a_o_watchers a_o_weeks a_o_streets_roads a_o_streets_takes a_o_streets_hours a_o_extras_cells a_o_happenings_cells a_o_watchers_cells o_wage o_delay o_odds st9.2.1 o_hasWeeks o_streets_corners o_streets_takes o_streets_hours o_extras_many st9.2.2.1 o_happenings_many st9.2.2.2.1 o_watchers_many st9.2.2.2.2) H → va_D A (wd_X0_passHours E a_o a_o_streets a_o_names a_o_extras a_o_happenings a_o_watchers a_o_weeks a_o_streets_roads a_o_streets_takes a_o_streets_hours a_o_extras_cells a_o_happenings_cells a_o_watchers_cells o_wage o_delay o_odds st9.2.1 o_hasWeeks o_streets_corners o_streets_takes o_streets_hours o_extras_many st9.2.2.1 o_happenings_many st9.2.2.2.1 o_watchers_many st9.2.2.2.2) → va_S A s.heap H locs → lv_has ls 5 [(0, .ref a_o), (1, .int v1), (2, .int (o_clock + v1)), (3, .int st9.1)] → W p l e (rmd 4) s m aa below meth cd H locs 0 0 QQ (F0 m 9 ls [])) (G := (fun (e9 : Int32 × (Nat → Int32) × (Nat → Int32) × (Nat → Int32)) => ∀ (H : Heap) (locs : List Loc) (ls : Array Slot), va_P E.1 vwCl (wd_X0_passHours E a_o a_o_streets a_o_names a_o_extras a_o_happenings a_o_watchers a_o_weeks a_o_streets_roads a_o_streets_takes a_o_streets_hours a_o_extras_cells a_o_happenings_cells a_o_watchers_cells o_wage o_delay o_odds e9.1 o_hasWeeks o_streets_corners o_streets_takes o_streets_hours o_extras_many e9.2.1 o_happenings_many e9.2.2.1 o_watchers_many e9.2.2.2) H → va_D A (wd_X0_passHours E a_o a_o_streets a_o_names a_o_extras a_o_happenings a_o_watchers a_o_weeks a_o_streets_roads a_o_streets_takes a_o_streets_hours a_o_extras_cells a_o_happenings_cells a_o_watchers_cells o_wage o_delay o_odds e9.1 o_hasWeeks o_streets_corners o_streets_takes o_streets_hours o_extras_many e9.2.1 o_happenings_many e9.2.2.1 o_watchers_many e9.2.2.2) → va_S A s.heap H locs → lv_has ls 5 [] → W p l e (rmd 4) s m aa below meth cd H locs 0 0 QQ (F0 m 76 ls []))) ?_ F (0, o_clock, o_extras_cells, o_happenings_cells, o_watchers_cells) e9 hit9 ?_ _ _ _ hP hD hS (lv_sub hl [2, 3, 1, 0] rfl)
  · intro st9 r9 hf hk9 he9 H locs ls hP hD hS hl
    have hj70 : ∀ (v3_j70 : Int32) (o_clock_j70 : Int32) (o_extras_cells_j70 : Nat → Int32) (o_happenings_cells_j70 : Nat → Int32) (o_watchers_cells_j70 : Nat → Int32) (H : Heap) (locs : List Loc) (ls : Array Slot), X0_passHours_j70 F o_wage o_delay o_clock_j70 o_streets_corners o_streets_takes o_streets_hours o_extras_many o_extras_cells_j70 o_happenings_many o_happenings_cells_j70 o_watchers_many o_watchers_cells_j70 v1 (o_clock + v1) v3_j70 = some r9 → va_P E.1 vwCl (wd_X0_passHours E a_o a_o_streets a_o_names a_o_extras a_o_happenings a_o_watchers a_o_weeks a_o_streets_roads a_o_streets_takes a_o_streets_hours a_o_extras_cells a_o_happenings_cells a_o_watchers_cells o_wage o_delay o_odds o_clock_j70 o_hasWeeks o_streets_corners o_streets_takes o_streets_hours o_extras_many o_extras_cells_j70 o_happenings_many o_happenings_cells_j70 o_watchers_many o_watchers_cells_j70) H → va_D A (wd_X0_passHours E a_o a_o_streets a_o_names a_o_extras a_o_happenings a_o_watchers a_o_weeks a_o_streets_roads a_o_streets_takes a_o_streets_hours a_o_extras_cells a_o_happenings_cells a_o_watchers_cells o_wage o_delay o_odds o_clock_j70 o_hasWeeks o_streets_corners o_streets_takes o_streets_hours o_extras_many o_extras_cells_j70 o_happenings_many o_happenings_cells_j70 o_watchers_many o_watchers_cells_j70) → va_S A s.heap H locs → lv_has ls 5 [(0, .ref a_o), (1, .int v1), (2, .int (o_clock + v1)), (3, .int v3_j70)] → W p l e (rmd 4) s m aa below meth cd H locs 0 0 QQ (F0 m 70 ls []) := by
      intro v3_j70 o_clock_j70 o_extras_cells_j70 o_happenings_cells_j70 o_watchers_cells_j70 H locs ls hf hP hD hS hl
      unfold X0_passHours_j70 at hf
      refine lv_iinc (v := (v3_j70 + 1)) (lv' := [(3, .int (v3_j70 + 1)), (0, .ref a_o), (1, .int v1), (2, .int (o_clock + v1))]) hx hb dX0_passHours_70 hl (k := 3) rfl rfl (by decide) rfl (fun ls hl => ?_)
      refine lv_goto (tgt := 9) hx hb dX0_passHours_73 (by decide) ?_
      exact hk9 _ (Option.some.inj hf).symm _ _ _ hP hD hS (lv_sub hl [1, 2, 3, 0] rfl)
    unfold X0_passHours_b9 at hf
    refine lv_iload_n hx hb dX0_passHours_9 rfl (lv_at hl 3 rfl) ?_
    refine lv_iload_n hx hb dX0_passHours_10 rfl (lv_at hl 1 rfl) ?_
    refine lv_icmp_ge (tgt := 76) hx hb dX0_passHours_11 (by decide) (fun hc => ?_) (fun hc => ?_)
    · have hf := it_t hc hf
      exact he9 _ (Option.some.inj hf).symm _ _ _ hP hD hS (lv_sub hl [] rfl)
    · have hf := it_f hc hf
      refine lv_aload_n hx hb dX0_passHours_14 rfl (lv_at hl 0 rfl) ?_
      refine va_get (D := E.1) (ci := 0) (v := .int st9.2.1) (C := RX0) (T := TX0) (N := 11) hx hb hts inX0 hown hK hP 0 rfl rfl 3 (by decide) (hts _ fl_X0_58) (fun _ h9 => h9) rfl dX0_passHours_15 ?_
      refine lv_iload_n hx hb dX0_passHours_18 rfl (lv_at hl 2 rfl) ?_
      refine lv_icmp_ge (tgt := 76) hx hb dX0_passHours_19 (by decide) (fun hc => ?_) (fun hc => ?_)
      · have hf := it_t hc hf
        exact he9 _ (Option.some.inj hf).symm _ _ _ hP hD hS (lv_sub hl [] rfl)
      · have hf := it_f hc hf
        refine lv_aload_n hx hb dX0_passHours_22 rfl (lv_at hl 0 rfl) ?_
        obtain ⟨u23, hu23, hf⟩ := bd hf
        refine callVI (wn := (wd_X0_passHours E a_o a_o_streets a_o_names a_o_extras a_o_happenings a_o_watchers a_o_weeks a_o_streets_roads a_o_streets_takes a_o_streets_hours a_o_extras_cells a_o_happenings_cells a_o_watchers_cells o_wage o_delay o_odds st9.2.1 o_hasWeeks o_streets_corners o_streets_takes o_streets_hours o_extras_many u23.2 o_happenings_many st9.2.2.2.1 o_watchers_many st9.2.2.2.2)) (n1 := 10) (ct_X0_walk l E F a_o a_o_streets a_o_names a_o_extras a_o_happenings a_o_watchers a_o_weeks a_o_streets_roads a_o_streets_takes a_o_streets_hours a_o_extras_cells a_o_happenings_cells o_wage o_delay o_odds st9.2.1 o_hasWeeks o_streets_corners o_streets_takes o_streets_hours o_extras_many st9.2.2.1 o_happenings_many st9.2.2.2.1 u23 hu23) [0, 1, 2, 3, 4, 5, 6, 7] cal_X0_walk cav_X0_walk lk_X0_116 cx hP hD hS hl dX0_passHours_23 rfl rfl rfl rfl (Nat.le_of_ble_eq_true rfl) ⟨Nat.le_of_ble_eq_true rfl, Nat.le_of_ble_eq_true rfl⟩ rfl (by decide +kernel) rfl [some 0, some 1, some 2, some 3, some 4, some 5, some 6, some 7, none, none] rfl (by decide +kernel) rfl (fun H locs hP hD hS => ?_)
        refine lv_istore (lv' := [(4, .int u23.1), (0, .ref a_o), (1, .int v1), (2, .int (o_clock + v1)), (3, .int st9.1)]) hx hb dX0_passHours_26 hl (by decide) rfl (fun ls hl => ?_)
        refine lv_iload hx hb dX0_passHours_28 (lv_at hl 0 rfl) ?_
        refine lv_aload_n hx hb dX0_passHours_30 rfl (lv_at hl 1 rfl) ?_
        obtain ⟨u31, hu31, hf⟩ := bd hf
        refine callVI (wn := (wd_X0_passHours E a_o a_o_streets a_o_names a_o_extras a_o_happenings a_o_watchers a_o_weeks a_o_streets_roads a_o_streets_takes a_o_streets_hours a_o_extras_cells a_o_happenings_cells a_o_watchers_cells o_wage o_delay o_odds st9.2.1 o_hasWeeks o_streets_corners o_streets_takes o_streets_hours o_extras_many u31.2.1 o_happenings_many u31.2.2 o_watchers_many st9.2.2.2.2)) (n1 := 10) (ct_X0_befall l E F a_o a_o_streets a_o_names a_o_extras a_o_happenings a_o_watchers a_o_weeks a_o_extras_cells a_o_happenings_cells o_wage o_delay o_odds st9.2.1 o_hasWeeks o_extras_many u23.2 o_happenings_many st9.2.2.2.1 u31 hu31) [0, 4, 5, 6, 7] cal_X0_befall cav_X0_befall lk_X0_120 cx hP hD hS hl dX0_passHours_31 rfl rfl rfl rfl (Nat.le_of_ble_eq_true rfl) ⟨Nat.le_of_ble_eq_true rfl, Nat.le_of_ble_eq_true rfl⟩ rfl (by decide +kernel) rfl [some 0, none, none, none, some 1, some 2, some 3, some 4, none, none] rfl (by decide +kernel) rfl (fun H locs hP hD hS => ?_)
        refine lv_ior hx hb dX0_passHours_34 ?_
        refine lv_istore (lv' := [(4, .int (u23.1 ||| u31.1)), (0, .ref a_o), (1, .int v1), (2, .int (o_clock + v1)), (3, .int st9.1)]) hx hb dX0_passHours_35 hl (by decide) rfl (fun ls hl => ?_)
        refine lv_iload hx hb dX0_passHours_37 (lv_at hl 0 rfl) ?_
        refine lv_aload_n hx hb dX0_passHours_39 rfl (lv_at hl 1 rfl) ?_
        obtain ⟨u40, hu40, hf⟩ := bd hf
        refine callVI (wn := (wd_X0_passHours E a_o a_o_streets a_o_names a_o_extras a_o_happenings a_o_watchers a_o_weeks a_o_streets_roads a_o_streets_takes a_o_streets_hours a_o_extras_cells a_o_happenings_cells a_o_watchers_cells o_wage o_delay o_odds st9.2.1 o_hasWeeks o_streets_corners o_streets_takes o_streets_hours o_extras_many u31.2.1 o_happenings_many u40.2.1 o_watchers_many u40.2.2)) (n1 := 10) (ct_X0_watch l E F a_o a_o_streets a_o_names a_o_extras a_o_happenings a_o_watchers a_o_weeks a_o_extras_cells a_o_happenings_cells a_o_watchers_cells o_wage o_delay o_odds st9.2.1 o_hasWeeks o_extras_many u31.2.1 o_happenings_many u31.2.2 o_watchers_many st9.2.2.2.2 u40 hu40) [0, 4, 5, 6, 7, 8, 9] cal_X0_watch cav_X0_watch lk_X0_123 cx hP hD hS hl dX0_passHours_40 rfl rfl rfl rfl (Nat.le_of_ble_eq_true rfl) ⟨Nat.le_of_ble_eq_true rfl, Nat.le_of_ble_eq_true rfl⟩ rfl (by decide +kernel) rfl [some 0, none, none, none, some 1, some 2, some 3, some 4, some 5, some 6] rfl (by decide +kernel) rfl (fun H locs hP hD hS => ?_)
        refine lv_ior hx hb dX0_passHours_43 ?_
        refine lv_istore (lv' := [(4, .int ((u23.1 ||| u31.1) ||| u40.1)), (0, .ref a_o), (1, .int v1), (2, .int (o_clock + v1)), (3, .int st9.1)]) hx hb dX0_passHours_44 hl (by decide) rfl (fun ls hl => ?_)
        refine lv_aload_n hx hb dX0_passHours_46 rfl (lv_at hl 1 rfl) ?_
        refine lv_dup hx hb dX0_passHours_47 rfl ?_
        refine va_get (D := E.1) (ci := 0) (v := .int st9.2.1) (C := RX0) (T := TX0) (N := 11) hx hb hts inX0 hown hK hP 0 rfl rfl 3 (by decide) (hts _ fl_X0_58) (fun _ h9 => h9) rfl dX0_passHours_48 ?_
        refine lv_iconst (v := 1) hx hb dX0_passHours_51 (by decide) ?_
        refine lv_iadd hx hb dX0_passHours_52 ?_
        refine va_put (D := E.1) (ci := 0) (v := .int (st9.2.1 + 1)) (ty := .int) (C := RX0) (T := TX0) (N := 11) hx hb hts inX0 tyX0 tyX0_ok nmX0 hown hK hP hD hS 0 rfl rfl 3 (by decide) (hts _ fl_X0_58) (fun _ h9 => h9) rfl (by decide +kernel) rfl rfl (Nat.le_of_ble_eq_true rfl) dX0_passHours_53 (fun H locs hP hD hS => ?_)
        have hP : va_P E.1 vwCl (wd_X0_passHours E a_o a_o_streets a_o_names a_o_extras a_o_happenings a_o_watchers a_o_weeks a_o_streets_roads a_o_streets_takes a_o_streets_hours a_o_extras_cells a_o_happenings_cells a_o_watchers_cells o_wage o_delay o_odds (st9.2.1 + 1) o_hasWeeks o_streets_corners o_streets_takes o_streets_hours o_extras_many u31.2.1 o_happenings_many u40.2.1 o_watchers_many u40.2.2) H := hP
        have hD : va_D A (wd_X0_passHours E a_o a_o_streets a_o_names a_o_extras a_o_happenings a_o_watchers a_o_weeks a_o_streets_roads a_o_streets_takes a_o_streets_hours a_o_extras_cells a_o_happenings_cells a_o_watchers_cells o_wage o_delay o_odds (st9.2.1 + 1) o_hasWeeks o_streets_corners o_streets_takes o_streets_hours o_extras_many u31.2.1 o_happenings_many u40.2.1 o_watchers_many u40.2.2) := hD
        refine lv_iload hx hb dX0_passHours_56 (lv_at hl 0 rfl) ?_
        refine lv_if_ne (tgt := 70) hx hb dX0_passHours_58 (by decide) (fun hc => ?_) (fun hc => ?_)
        · have hf := it_f hc hf
          exact hj70 _ _ _ _ _ _ _ _ hf hP hD hS (lv_sub hl [1, 2, 3, 4] rfl)
        · have hf := it_t hc hf
          refine lv_aload_n hx hb dX0_passHours_61 rfl (lv_at hl 1 rfl) ?_
          refine lv_aload_n hx hb dX0_passHours_62 rfl (lv_at hl 1 rfl) ?_
          refine lv_iload_n hx hb dX0_passHours_63 rfl (lv_at hl 3 rfl) ?_
          obtain ⟨u64, hu64, hf⟩ := bd hf
          refine keepVI (ct_X0_nextDue l E F a_o a_o_streets a_o_names a_o_extras a_o_happenings a_o_watchers a_o_weeks a_o_happenings_cells o_wage o_delay o_odds (st9.2.1 + 1) o_hasWeeks o_happenings_many u40.2.1 (o_clock + v1) u64 hu64) [0, 6, 7] cal_X0_nextDue cav_X0_nextDue lk_X0_126 cx hP hD hS hl dX0_passHours_64 rfl rfl rfl rfl (Nat.le_of_ble_eq_true rfl) ⟨Nat.le_of_ble_eq_true rfl, Nat.le_of_ble_eq_true rfl⟩ rfl (by decide) (fun H locs hP hS => ?_)
          refine va_put (D := E.1) (ci := 0) (v := .int u64) (ty := .int) (C := RX0) (T := TX0) (N := 11) hx hb hts inX0 tyX0 tyX0_ok nmX0 hown hK hP hD hS 0 rfl rfl 3 (by decide) (hts _ fl_X0_58) (fun _ h9 => h9) rfl (by decide +kernel) rfl rfl (Nat.le_of_ble_eq_true rfl) dX0_passHours_67 (fun H locs hP hD hS => ?_)
          have hP : va_P E.1 vwCl (wd_X0_passHours E a_o a_o_streets a_o_names a_o_extras a_o_happenings a_o_watchers a_o_weeks a_o_streets_roads a_o_streets_takes a_o_streets_hours a_o_extras_cells a_o_happenings_cells a_o_watchers_cells o_wage o_delay o_odds u64 o_hasWeeks o_streets_corners o_streets_takes o_streets_hours o_extras_many u31.2.1 o_happenings_many u40.2.1 o_watchers_many u40.2.2) H := hP
          have hD : va_D A (wd_X0_passHours E a_o a_o_streets a_o_names a_o_extras a_o_happenings a_o_watchers a_o_weeks a_o_streets_roads a_o_streets_takes a_o_streets_hours a_o_extras_cells a_o_happenings_cells a_o_watchers_cells o_wage o_delay o_odds u64 o_hasWeeks o_streets_corners o_streets_takes o_streets_hours o_extras_many u31.2.1 o_happenings_many u40.2.1 o_watchers_many u40.2.2) := hD
          exact hj70 _ _ _ _ _ _ _ _ hf hP hD hS (lv_sub hl [1, 2, 3, 4] rfl)
  · refine fun H locs ls hP hD hS hl => ?_
    obtain rfl := Option.some.inj hf
    subst hq
    exact retV cx hP hD hS dX0_passHours_76
def X8_isLetter_j16  : Option (Int32) :=
  some 0
def X8_isLetter (v0 : Int32) : Option (Int32) :=
  if v0 < 97 then
  X8_isLetter_j16
  else
  if (122 : Int32) < v0 then
  X8_isLetter_j16
  else
  some 1
abbrev wd_X8_isLetter (E : vE) : va_W := []
set_option maxHeartbeats 4000000 in
set_option maxRecDepth 100000 in
theorem ct_X8_isLetter (l : Launch) (E : vE) (v0 : Int32) (u : Int32) (hf : X8_isLetter v0 = some u) :
    CtI l yX8_isLetter cX8_isLetter 1 (some .boolean) 0 E [.int v0] (wd_X8_isLetter E) (wd_X8_isLetter E) u := by
  refine ctI (by decide) (Nat.le_of_ble_eq_true rfl) ?_
  intro p e s m below meth cd A ls aa QQ hq cx hP hD hS hl
  obtain ⟨⟨hx, hb, hml, hown, hts⟩, hr, hlocks, hK, hA, hX⟩ := id cx
  have hl : lv_has ls 1 [(0, .int v0)] := hl
  have hj16 : ∀ (H : Heap) (locs : List Loc) (ls : Array Slot), X8_isLetter_j16 = some u → va_P E.1 vwCl (wd_X8_isLetter E) H → va_D A (wd_X8_isLetter E) → va_S A s.heap H locs → lv_has ls 1 [] → W p l e (rmd 0) s m aa below meth cd H locs 0 0 QQ (F0 m 16 ls []) := by
    intro H locs ls hf hP hD hS hl
    unfold X8_isLetter_j16 at hf
    refine lv_iconst (v := 0) hx hb dX8_isLetter_16 (by decide) ?_
    obtain rfl := Option.some.inj hf
    subst hq
    exact retZ cx rfl hP hD hS dX8_isLetter_17
  unfold X8_isLetter at hf
  refine lv_iload_n hx hb dX8_isLetter_0 rfl (lv_at hl 0 rfl) ?_
  refine lv_bipush (v := 97) hx hb dX8_isLetter_1 (by decide) ?_
  refine lv_icmp_lt (tgt := 16) hx hb dX8_isLetter_3 (by decide) (fun hc => ?_) (fun hc => ?_)
  · have hf := it_t hc hf
    exact hj16  _ _ _ hf hP hD hS (lv_sub hl [] rfl)
  · have hf := it_f hc hf
    refine lv_iload_n hx hb dX8_isLetter_6 rfl (lv_at hl 0 rfl) ?_
    refine lv_bipush (v := 122) hx hb dX8_isLetter_7 (by decide) ?_
    refine lv_icmp_gt (tgt := 16) hx hb dX8_isLetter_9 (by decide) (fun hc => ?_) (fun hc => ?_)
    · have hf := it_t hc hf
      exact hj16  _ _ _ hf hP hD hS (lv_sub hl [] rfl)
    · have hf := it_f hc hf
      refine lv_iconst (v := 1) hx hb dX8_isLetter_12 (by decide) ?_
      refine lv_goto (tgt := 17) hx hb dX8_isLetter_13 (by decide) ?_
      obtain rfl := Option.some.inj hf
      subst hq
      exact retZ cx rfl hP hD hS dX8_isLetter_17
def X8_takeLetters_b5 (F : Nat) (o_length : Int32) (o_sort : Int32) (o_text : Nat → Int32) (st5 : Int32 × Int64) : Option ((Int32 × Int64) ⊕ ((Int32 × Int64))) :=
  if o_length ≤ st5.1 then
  some (.inr (st5.1, st5.2))
  else
  if ix st5.1 900 then
  (X8_isLetter (jat o_text st5.1)).bind fun u25 =>
  if u25 = 0 then
  some (.inr (st5.1, st5.2))
  else
  if ix st5.1 900 then
  some (.inl ((st5.1 + 1), ((((st5.2 * 32) + (jat o_text st5.1).toInt64) - 97) + 1)))
  else none
  else none
def X8_takeLetters (F : Nat) (o_length : Int32) (o_next : Int32) (o_sort : Int32) (o_code : Int64) (o_text : Nat → Int32) : Option (Int32 × Int32 × Int64) :=
  (iter (X8_takeLetters_b5 F o_length 1 o_text) F (o_next, o_code)).bind (fun (e5 : Int32 × Int64) =>
    some (e5.1, 1, e5.2))
abbrev wd_X8_takeLetters (E : vE) (a_o a_o_text : Nat) (o_held : Int32) (o_length : Int32) (o_place : Int32) (o_next : Int32) (o_sort : Int32) (o_value : Int32) (o_code : Int64) (o_fault : Int32) (o_faultPlace : Int32) (o_text : Nat → Int32) : va_W := [(a_o, .inr (8, [.ref a_o_text, .int o_held, .int o_length, .int o_place, .int o_next, .int o_sort, .int o_value, .long o_code, .int o_fault, .int o_faultPlace])), (a_o_text, .inl (E.2.1, 900, .inl o_text))]
set_option maxHeartbeats 4000000 in
set_option maxRecDepth 100000 in
theorem ct_X8_takeLetters (l : Launch) (E : vE) (F : Nat) (a_o a_o_text : Nat) (o_held : Int32) (o_length : Int32) (o_place : Int32) (o_next : Int32) (o_sort : Int32) (o_value : Int32) (o_code : Int64) (o_fault : Int32) (o_faultPlace : Int32) (o_text : Nat → Int32) (u : Int32 × Int32 × Int64) (hf : X8_takeLetters F o_length o_next o_sort o_code o_text = some u) :
    CtV l yX8_takeLetters cX8_takeLetters 1 none 1 E [.ref a_o] (wd_X8_takeLetters E a_o a_o_text o_held o_length o_place o_next o_sort o_value o_code o_fault o_faultPlace o_text) (wd_X8_takeLetters E a_o a_o_text o_held o_length o_place u.1 u.2.1 o_value u.2.2 o_fault o_faultPlace o_text) := by
  refine ctV (by decide) (Nat.le_of_ble_eq_true rfl) ?_
  intro p e s m below meth cd A ls aa QQ hq cx hP hD hS hl
  obtain ⟨⟨hx, hb, hml, hown, hts⟩, hr, hlocks, hK, hA, hX⟩ := id cx
  have hl : lv_has ls 1 [(0, .ref a_o)] := hl
  unfold X8_takeLetters at hf
  refine lv_aload_n hx hb dX8_takeLetters_0 rfl (lv_at hl 0 rfl) ?_
  refine lv_iconst (v := 1) hx hb dX8_takeLetters_1 (by decide) ?_
  refine va_put (D := E.1) (ci := 8) (v := .int 1) (ty := .int) (C := RX8) (T := TX8) (N := 10) hx hb hts inX8 tyX8 tyX8_ok nmX8 hown hK hP hD hS 0 rfl rfl 5 (by decide) (hts _ fl_X8_47) (fun _ h9 => h9) rfl (by decide +kernel) rfl rfl (Nat.le_of_ble_eq_true rfl) dX8_takeLetters_2 (fun H locs hP hD hS => ?_)
  have hP : va_P E.1 vwCl (wd_X8_takeLetters E a_o a_o_text o_held o_length o_place o_next 1 o_value o_code o_fault o_faultPlace o_text) H := hP
  have hD : va_D A (wd_X8_takeLetters E a_o a_o_text o_held o_length o_place o_next 1 o_value o_code o_fault o_faultPlace o_text) := hD
  obtain ⟨e5, hit5, hf⟩ := bd hf
  refine iter_W (b := X8_takeLetters_b5 F o_length 1 o_text) (P := fun st5 => ∀ (H : Heap) (locs : List Loc) (ls : Array Slot), va_P E.1 vwCl (wd_X8_takeLetters E a_o a_o_text o_held o_length o_place st5.1 1 o_value st5.2 o_fault o_faultPlace o_text) H → va_D A (wd_X8_takeLetters E a_o a_o_text o_held o_length o_place st5.1 1 o_value st5.2 o_fault o_faultPlace o_text) → va_S A s.heap H locs → lv_has ls 1 [(0, .ref a_o)] → W p l e (rmd 1) s m aa below meth cd H locs 0 0 QQ (F0 m 5 ls [])) (G := (fun (e5 : Int32 × Int64) => ∀ (H : Heap) (locs : List Loc) (ls : Array Slot), va_P E.1 vwCl (wd_X8_takeLetters E a_o a_o_text o_held o_length o_place e5.1 1 o_value e5.2 o_fault o_faultPlace o_text) H → va_D A (wd_X8_takeLetters E a_o a_o_text o_held o_length o_place e5.1 1 o_value e5.2 o_fault o_faultPlace o_text) → va_S A s.heap H locs → lv_has ls 1 [] → W p l e (rmd 1) s m aa below meth cd H locs 0 0 QQ (F0 m 73 ls []))) ?_ F (o_next, o_code) e5 hit5 ?_ _ _ _ hP hD hS (lv_sub hl [0] rfl)
  · intro st5 r5 hf hk5 he5 H locs ls hP hD hS hl
    unfold X8_takeLetters_b5 at hf
    refine lv_aload_n hx hb dX8_takeLetters_5 rfl (lv_at hl 0 rfl) ?_
    refine va_get (D := E.1) (ci := 8) (v := .int st5.1) (C := RX8) (T := TX8) (N := 10) hx hb hts inX8 hown hK hP 0 rfl rfl 4 (by decide) (hts _ fl_X8_38) (fun _ h9 => h9) rfl dX8_takeLetters_6 ?_
    refine lv_aload_n hx hb dX8_takeLetters_9 rfl (lv_at hl 0 rfl) ?_
    refine va_get (D := E.1) (ci := 8) (v := .int o_length) (C := RX8) (T := TX8) (N := 10) hx hb hts inX8 hown hK hP 0 rfl rfl 2 (by decide) (hts _ fl_X8_35) (fun _ h9 => h9) rfl dX8_takeLetters_10 ?_
    refine lv_icmp_ge (tgt := 73) hx hb dX8_takeLetters_13 (by decide) (fun hc => ?_) (fun hc => ?_)
    · have hf := it_t hc hf
      exact he5 _ (Option.some.inj hf).symm _ _ _ hP hD hS (lv_sub hl [] rfl)
    · have hf := it_f hc hf
      refine lv_aload_n hx hb dX8_takeLetters_16 rfl (lv_at hl 0 rfl) ?_
      refine va_get (D := E.1) (ci := 8) (v := .ref a_o_text) (C := RX8) (T := TX8) (N := 10) hx hb hts inX8 hown hK hP 0 rfl rfl 0 (by decide) (hts _ fl_X8_11) (fun _ h9 => h9) rfl dX8_takeLetters_17 ?_
      refine lv_aload_n hx hb dX8_takeLetters_20 rfl (lv_at hl 0 rfl) ?_
      refine va_get (D := E.1) (ci := 8) (v := .int st5.1) (C := RX8) (T := TX8) (N := 10) hx hb hts inX8 hown hK hP 0 rfl rfl 4 (by decide) (hts _ fl_X8_38) (fun _ h9 => h9) rfl dX8_takeLetters_21 ?_
      obtain ⟨hi, hf⟩ := ck hf
      refine r_iald 1 cx hP rfl hi dX8_takeLetters_24 ?_
      obtain ⟨u25, hu25, hf⟩ := bd hf
      refine keepSI (ct_X8_isLetter l E (jat o_text st5.1) u25 hu25) [] cal_X8_isLetter sta_X8_isLetter lk_X8_64 cx hP hD hS hl dX8_takeLetters_25 rfl rfl (Nat.le_of_ble_eq_true rfl) ⟨Nat.le_of_ble_eq_true rfl, Nat.le_of_ble_eq_true rfl⟩ rfl (by decide) (fun H locs hP hS => ?_)
      refine lv_if_eq (tgt := 73) hx hb dX8_takeLetters_28 (by decide) (fun hc => ?_) (fun hc => ?_)
      · have hf := it_t hc hf
        exact he5 _ (Option.some.inj hf).symm _ _ _ hP hD hS (lv_sub hl [] rfl)
      · have hf := it_f hc hf
        refine lv_aload_n hx hb dX8_takeLetters_31 rfl (lv_at hl 0 rfl) ?_
        refine lv_aload_n hx hb dX8_takeLetters_32 rfl (lv_at hl 0 rfl) ?_
        refine va_get (D := E.1) (ci := 8) (v := .long st5.2) (C := RX8) (T := TX8) (N := 10) hx hb hts inX8 hown hK hP 0 rfl rfl 7 (by decide) (hts _ fl_X8_60) (fun _ h9 => h9) rfl dX8_takeLetters_33 ?_
        refine lv_ldc2 (v := 32) hx hb hown (hts _ kl_X8_80) dX8_takeLetters_36 ?_
        refine lv_lmul hx hb dX8_takeLetters_39 ?_
        refine lv_aload_n hx hb dX8_takeLetters_40 rfl (lv_at hl 0 rfl) ?_
        refine va_get (D := E.1) (ci := 8) (v := .ref a_o_text) (C := RX8) (T := TX8) (N := 10) hx hb hts inX8 hown hK hP 0 rfl rfl 0 (by decide) (hts _ fl_X8_11) (fun _ h9 => h9) rfl dX8_takeLetters_41 ?_
        refine lv_aload_n hx hb dX8_takeLetters_44 rfl (lv_at hl 0 rfl) ?_
        refine va_get (D := E.1) (ci := 8) (v := .int st5.1) (C := RX8) (T := TX8) (N := 10) hx hb hts inX8 hown hK hP 0 rfl rfl 4 (by decide) (hts _ fl_X8_38) (fun _ h9 => h9) rfl dX8_takeLetters_45 ?_
        obtain ⟨hi, hf⟩ := ck hf
        refine r_iald 1 cx hP rfl hi dX8_takeLetters_48 ?_
        refine lv_i2l (v := (jat o_text st5.1).toInt64) hx hb dX8_takeLetters_49 rfl ?_
        refine lv_ladd hx hb dX8_takeLetters_50 ?_
        refine lv_ldc2 (v := 97) hx hb hown (hts _ kl_X8_82) dX8_takeLetters_51 ?_
        refine lv_lsub hx hb dX8_takeLetters_54 ?_
        refine lv_lconst (v := 1) hx hb dX8_takeLetters_55 (by decide) ?_
        refine lv_ladd hx hb dX8_takeLetters_56 ?_
        refine va_put (D := E.1) (ci := 8) (v := .long ((((st5.2 * 32) + (jat o_text st5.1).toInt64) - 97) + 1)) (ty := .long) (C := RX8) (T := TX8) (N := 10) hx hb hts inX8 tyX8 tyX8_ok nmX8 hown hK hP hD hS 0 rfl rfl 7 (by decide) (hts _ fl_X8_60) (fun _ h9 => h9) rfl (by decide +kernel) rfl rfl (Nat.le_of_ble_eq_true rfl) dX8_takeLetters_57 (fun H locs hP hD hS => ?_)
        have hP : va_P E.1 vwCl (wd_X8_takeLetters E a_o a_o_text o_held o_length o_place st5.1 1 o_value ((((st5.2 * 32) + (jat o_text st5.1).toInt64) - 97) + 1) o_fault o_faultPlace o_text) H := hP
        have hD : va_D A (wd_X8_takeLetters E a_o a_o_text o_held o_length o_place st5.1 1 o_value ((((st5.2 * 32) + (jat o_text st5.1).toInt64) - 97) + 1) o_fault o_faultPlace o_text) := hD
        refine lv_aload_n hx hb dX8_takeLetters_60 rfl (lv_at hl 0 rfl) ?_
        refine lv_dup hx hb dX8_takeLetters_61 rfl ?_
        refine va_get (D := E.1) (ci := 8) (v := .int st5.1) (C := RX8) (T := TX8) (N := 10) hx hb hts inX8 hown hK hP 0 rfl rfl 4 (by decide) (hts _ fl_X8_38) (fun _ h9 => h9) rfl dX8_takeLetters_62 ?_
        refine lv_iconst (v := 1) hx hb dX8_takeLetters_65 (by decide) ?_
        refine lv_iadd hx hb dX8_takeLetters_66 ?_
        refine va_put (D := E.1) (ci := 8) (v := .int (st5.1 + 1)) (ty := .int) (C := RX8) (T := TX8) (N := 10) hx hb hts inX8 tyX8 tyX8_ok nmX8 hown hK hP hD hS 0 rfl rfl 4 (by decide) (hts _ fl_X8_38) (fun _ h9 => h9) rfl (by decide +kernel) rfl rfl (Nat.le_of_ble_eq_true rfl) dX8_takeLetters_67 (fun H locs hP hD hS => ?_)
        have hP : va_P E.1 vwCl (wd_X8_takeLetters E a_o a_o_text o_held o_length o_place (st5.1 + 1) 1 o_value ((((st5.2 * 32) + (jat o_text st5.1).toInt64) - 97) + 1) o_fault o_faultPlace o_text) H := hP
        have hD : va_D A (wd_X8_takeLetters E a_o a_o_text o_held o_length o_place (st5.1 + 1) 1 o_value ((((st5.2 * 32) + (jat o_text st5.1).toInt64) - 97) + 1) o_fault o_faultPlace o_text) := hD
        refine lv_goto (tgt := 5) hx hb dX8_takeLetters_70 (by decide) ?_
        exact hk5 _ (Option.some.inj hf).symm _ _ _ hP hD hS (lv_sub hl [0] rfl)
  · refine fun H locs ls hP hD hS hl => ?_
    obtain rfl := Option.some.inj hf
    subst hq
    exact retV cx hP hD hS dX8_takeLetters_73
