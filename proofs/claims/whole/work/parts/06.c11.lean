def X10_parse_j64 (F : Nat) (o_depth : Int32) (o_tokens_held : Int32) (o_tokens_length : Int32) (o_tokens_place : Int32) (o_tokens_next : Int32) (o_tokens_sort : Int32) (o_tokens_value : Int32) (o_tokens_code : Int64) (o_tokens_fault : Int32) (o_tokens_faultPlace : Int32) (o_tokens_text : Nat → Int32) (o_steps_many : Int32) (o_steps_cells : Nat → Int32) (o_opened : Nat → Int32) (q2_many : Int32) (q2_codes : Nat → Int64) (q2_sorts : Nat → Int32) (q2_numbers : Nat → Int32) : Option (vS) :=
  if o_tokens_fault = 0 then
  some (mkS [1, o_depth, o_tokens_held, o_tokens_length, o_tokens_place, o_tokens_next, o_tokens_sort, o_tokens_value, o_tokens_fault, o_tokens_faultPlace, o_steps_many] [o_tokens_code] [o_steps_cells, o_opened] [])
  else
  some (mkS [0, o_depth, o_tokens_held, o_tokens_length, o_tokens_place, o_tokens_next, o_tokens_sort, o_tokens_value, o_tokens_fault, o_tokens_faultPlace, o_steps_many] [o_tokens_code] [o_steps_cells, o_opened] [])
def X10_parse_j49 (F : Nat) (o_depth : Int32) (o_tokens_held : Int32) (o_tokens_length : Int32) (o_tokens_place : Int32) (o_tokens_next : Int32) (o_tokens_sort : Int32) (o_tokens_value : Int32) (o_tokens_code : Int64) (o_tokens_fault : Int32) (o_tokens_faultPlace : Int32) (o_tokens_text : Nat → Int32) (o_steps_many : Int32) (o_steps_cells : Nat → Int32) (o_opened : Nat → Int32) (q2_many : Int32) (q2_codes : Nat → Int64) (q2_sorts : Nat → Int32) (q2_numbers : Nat → Int32) : Option (vS) :=
  if o_depth ≤ 0 then
  X10_parse_j64 F o_depth o_tokens_held o_tokens_length o_tokens_place o_tokens_next o_tokens_sort o_tokens_value o_tokens_code o_tokens_fault o_tokens_faultPlace o_tokens_text o_steps_many o_steps_cells o_opened q2_many q2_codes q2_sorts q2_numbers
  else
  (X8_fail o_tokens_place o_tokens_fault o_tokens_faultPlace (2 : Int32)).bind fun u61 =>
  X10_parse_j64 F o_depth o_tokens_held o_tokens_length o_tokens_place o_tokens_next o_tokens_sort o_tokens_value o_tokens_code u61.1 u61.2 o_tokens_text o_steps_many o_steps_cells o_opened q2_many q2_codes q2_sorts q2_numbers
def X10_parse_b23 (F : Nat) (o_tokens_held : Int32) (o_tokens_length : Int32) (o_tokens_text : Nat → Int32) (q2_many : Int32) (q2_codes : Nat → Int64) (q2_sorts : Nat → Int32) (q2_numbers : Nat → Int32) (v1 : Int32) (st23 : vS) : Option ((vS) ⊕ ((vS))) :=
  if v1 ≤ (st23.1 0) then
  some (.inr (mkS [(st23.1 1), (st23.1 2), (st23.1 3), (st23.1 4), (st23.1 5), (st23.1 6), (st23.1 7), (st23.1 8)] [(st23.2.1 0)] [(st23.2.2.1 0), (st23.2.2.1 1)] []))
  else
  (X8_isOpen (st23.1 4) (st23.1 6)).bind fun u32 =>
  if u32 = 0 then
  some (.inr (mkS [(st23.1 1), (st23.1 2), (st23.1 3), (st23.1 4), (st23.1 5), (st23.1 6), (st23.1 7), (st23.1 8)] [(st23.2.1 0)] [(st23.2.2.1 0), (st23.2.2.1 1)] []))
  else
  (X10_takeStep F (st23.1 1) o_tokens_length (st23.1 2) (st23.1 3) (st23.1 4) (st23.1 5) (st23.2.1 0) (st23.1 6) (st23.1 7) o_tokens_text (st23.1 8) (st23.2.2.1 0) (st23.2.2.1 1) q2_many q2_codes q2_sorts q2_numbers).bind fun u40 =>
  some (.inl (mkS [((st23.1 0) + 1), (u40.1 0), (u40.1 1), (u40.1 2), (u40.1 3), (u40.1 4), (u40.1 5), (u40.1 6), (u40.1 7)] [(u40.2.1 0)] [(u40.2.2.1 0), (u40.2.2.1 1)] []))
def X10_parse (F : Nat) (o_depth : Int32) (o_tokens_held : Int32) (o_tokens_length : Int32) (o_tokens_place : Int32) (o_tokens_next : Int32) (o_tokens_sort : Int32) (o_tokens_value : Int32) (o_tokens_code : Int64) (o_tokens_fault : Int32) (o_tokens_faultPlace : Int32) (o_tokens_text : Nat → Int32) (o_steps_many : Int32) (o_steps_cells : Nat → Int32) (o_opened : Nat → Int32) (q2_many : Int32) (q2_codes : Nat → Int64) (q2_sorts : Nat → Int32) (q2_numbers : Nat → Int32) (v1 : Int32) : Option (vS) :=
  (X8_begin F o_tokens_held o_tokens_length o_tokens_place o_tokens_next o_tokens_sort o_tokens_value o_tokens_code o_tokens_fault o_tokens_faultPlace o_tokens_text v1).bind fun u18 =>
  (iter (X10_parse_b23 F u18.1 u18.2.1 o_tokens_text q2_many q2_codes q2_sorts q2_numbers v1) F (mkS [0, 0, u18.2.2.1, u18.2.2.2.1, u18.2.2.2.2.1, u18.2.2.2.2.2.1, u18.2.2.2.2.2.2.2.1, u18.2.2.2.2.2.2.2.2, 0] [u18.2.2.2.2.2.2.1] [o_steps_cells, o_opened] [])).bind (fun (e23 : vS) =>
    X10_parse_j49 F (e23.1 0) u18.1 u18.2.1 (e23.1 1) (e23.1 2) (e23.1 3) (e23.1 4) (e23.2.1 0) (e23.1 5) (e23.1 6) o_tokens_text (e23.1 7) (e23.2.2.1 0) (e23.2.2.1 1) q2_many q2_codes q2_sorts q2_numbers)
abbrev wd_X10_parse (E : vE) (a_o a_o_tokens a_o_steps a_o_opened a_o_tokens_text a_o_steps_cells a_q2 a_q2_codes a_q2_sorts a_q2_numbers : Nat) (o_depth : Int32) (o_tokens_held : Int32) (o_tokens_length : Int32) (o_tokens_place : Int32) (o_tokens_next : Int32) (o_tokens_sort : Int32) (o_tokens_value : Int32) (o_tokens_code : Int64) (o_tokens_fault : Int32) (o_tokens_faultPlace : Int32) (o_tokens_text : Nat → Int32) (o_steps_many : Int32) (o_steps_cells : Nat → Int32) (o_opened : Nat → Int32) (q2_many : Int32) (q2_codes : Nat → Int64) (q2_sorts : Nat → Int32) (q2_numbers : Nat → Int32) : va_W := [(a_o, .inr (10, [.ref a_o_tokens, .ref a_o_steps, .ref a_o_opened, .int o_depth])), (a_o_tokens, .inr (8, [.ref a_o_tokens_text, .int o_tokens_held, .int o_tokens_length, .int o_tokens_place, .int o_tokens_next, .int o_tokens_sort, .int o_tokens_value, .long o_tokens_code, .int o_tokens_fault, .int o_tokens_faultPlace])), (a_o_tokens_text, .inl (E.2.1, 900, .inl o_tokens_text)), (a_o_steps, .inr (7, [.int 6, .ref a_o_steps_cells, .int o_steps_many])), (a_o_steps_cells, .inl (E.2.1, 180, .inl o_steps_cells)), (a_o_opened, .inl (E.2.1, 3, .inl o_opened)), (a_q2, .inr (3, [.ref a_q2_codes, .ref a_q2_sorts, .ref a_q2_numbers, .int q2_many])), (a_q2_codes, .inl (E.2.2.1, 27, .inr (.inl q2_codes))), (a_q2_sorts, .inl (E.2.1, 27, .inl q2_sorts)), (a_q2_numbers, .inl (E.2.1, 27, .inl q2_numbers))]
set_option maxHeartbeats 4000000 in
set_option maxRecDepth 100000 in
theorem ct_X10_parse (l : Launch) (E : vE) (F : Nat) (a_o a_o_tokens a_o_steps a_o_opened a_o_tokens_text a_o_steps_cells a_q2 a_q2_codes a_q2_sorts a_q2_numbers : Nat) (o_depth : Int32) (o_tokens_held : Int32) (o_tokens_length : Int32) (o_tokens_place : Int32) (o_tokens_next : Int32) (o_tokens_sort : Int32) (o_tokens_value : Int32) (o_tokens_code : Int64) (o_tokens_fault : Int32) (o_tokens_faultPlace : Int32) (o_tokens_text : Nat → Int32) (o_steps_many : Int32) (o_steps_cells : Nat → Int32) (o_opened : Nat → Int32) (q2_many : Int32) (q2_codes : Nat → Int64) (q2_sorts : Nat → Int32) (q2_numbers : Nat → Int32) (v1 : Int32) (u : vS) (hf : X10_parse F o_depth o_tokens_held o_tokens_length o_tokens_place o_tokens_next o_tokens_sort o_tokens_value o_tokens_code o_tokens_fault o_tokens_faultPlace o_tokens_text o_steps_many o_steps_cells o_opened q2_many q2_codes q2_sorts q2_numbers v1 = some u) :
    CtI l yX10_parse cX10_parse 4 (some .boolean) 9 E [.ref a_o, .int v1, .ref a_q2] (wd_X10_parse E a_o a_o_tokens a_o_steps a_o_opened a_o_tokens_text a_o_steps_cells a_q2 a_q2_codes a_q2_sorts a_q2_numbers o_depth o_tokens_held o_tokens_length o_tokens_place o_tokens_next o_tokens_sort o_tokens_value o_tokens_code o_tokens_fault o_tokens_faultPlace o_tokens_text o_steps_many o_steps_cells o_opened q2_many q2_codes q2_sorts q2_numbers) (wd_X10_parse E a_o a_o_tokens a_o_steps a_o_opened a_o_tokens_text a_o_steps_cells a_q2 a_q2_codes a_q2_sorts a_q2_numbers (u.1 1) (u.1 2) (u.1 3) (u.1 4) (u.1 5) (u.1 6) (u.1 7) (u.2.1 0) (u.1 8) (u.1 9) o_tokens_text (u.1 10) (u.2.2.1 0) (u.2.2.1 1) q2_many q2_codes q2_sorts q2_numbers) (u.1 0) := by
  refine ctI (by decide) (Nat.le_of_ble_eq_true rfl) ?_
  intro p e s m below meth cd A ls aa QQ hq cx hP hD hS hl
  obtain ⟨⟨hx, hb, hml, hown, hts⟩, hr, hlocks, hK, hA, hX⟩ := id cx
  have hl : lv_has ls 4 [(0, .ref a_o), (1, .int v1), (2, .ref a_q2)] := hl
  have hj64 : ∀ (o_depth_j64 : Int32) (o_tokens_held_j64 : Int32) (o_tokens_length_j64 : Int32) (o_tokens_place_j64 : Int32) (o_tokens_next_j64 : Int32) (o_tokens_sort_j64 : Int32) (o_tokens_value_j64 : Int32) (o_tokens_code_j64 : Int64) (o_tokens_fault_j64 : Int32) (o_tokens_faultPlace_j64 : Int32) (o_steps_many_j64 : Int32) (o_steps_cells_j64 : Nat → Int32) (o_opened_j64 : Nat → Int32) (H : Heap) (locs : List Loc) (ls : Array Slot), X10_parse_j64 F o_depth_j64 o_tokens_held_j64 o_tokens_length_j64 o_tokens_place_j64 o_tokens_next_j64 o_tokens_sort_j64 o_tokens_value_j64 o_tokens_code_j64 o_tokens_fault_j64 o_tokens_faultPlace_j64 o_tokens_text o_steps_many_j64 o_steps_cells_j64 o_opened_j64 q2_many q2_codes q2_sorts q2_numbers = some u → va_P E.1 vwCl (wd_X10_parse E a_o a_o_tokens a_o_steps a_o_opened a_o_tokens_text a_o_steps_cells a_q2 a_q2_codes a_q2_sorts a_q2_numbers o_depth_j64 o_tokens_held_j64 o_tokens_length_j64 o_tokens_place_j64 o_tokens_next_j64 o_tokens_sort_j64 o_tokens_value_j64 o_tokens_code_j64 o_tokens_fault_j64 o_tokens_faultPlace_j64 o_tokens_text o_steps_many_j64 o_steps_cells_j64 o_opened_j64 q2_many q2_codes q2_sorts q2_numbers) H → va_D A (wd_X10_parse E a_o a_o_tokens a_o_steps a_o_opened a_o_tokens_text a_o_steps_cells a_q2 a_q2_codes a_q2_sorts a_q2_numbers o_depth_j64 o_tokens_held_j64 o_tokens_length_j64 o_tokens_place_j64 o_tokens_next_j64 o_tokens_sort_j64 o_tokens_value_j64 o_tokens_code_j64 o_tokens_fault_j64 o_tokens_faultPlace_j64 o_tokens_text o_steps_many_j64 o_steps_cells_j64 o_opened_j64 q2_many q2_codes q2_sorts q2_numbers) → va_S A s.heap H locs → lv_has ls 4 [(0, .ref a_o)] → W p l e (rmd 9) s m aa below meth cd H locs 0 0 QQ (F0 m 64 ls []) := by
    intro o_depth_j64 o_tokens_held_j64 o_tokens_length_j64 o_tokens_place_j64 o_tokens_next_j64 o_tokens_sort_j64 o_tokens_value_j64 o_tokens_code_j64 o_tokens_fault_j64 o_tokens_faultPlace_j64 o_steps_many_j64 o_steps_cells_j64 o_opened_j64 H locs ls hf hP hD hS hl
    unfold X10_parse_j64 at hf
    refine lv_aload_n hx hb dX10_parse_64 rfl (lv_at hl 0 rfl) ?_
    refine va_get (D := E.1) (ci := 10) (v := .ref a_o_tokens) (C := RX10) (T := TX10) (N := 4) hx hb hts inX10 hown hK hP 0 rfl rfl 0 (by decide) (hts _ fl_X10_22) (fun _ h9 => h9) rfl dX10_parse_65 ?_
    refine va_get (D := E.1) (ci := 8) (v := .int o_tokens_fault_j64) (C := RX8) (T := TX8) (N := 10) hx hb hts inX8 hown hK hP 1 rfl rfl 8 (by decide) (hts _ fl_X10_50) (fun _ h9 => h9) rfl dX10_parse_68 ?_
    refine lv_if_ne (tgt := 78) hx hb dX10_parse_71 (by decide) (fun hc => ?_) (fun hc => ?_)
    · have hf := it_f hc hf
      refine lv_iconst (v := 0) hx hb dX10_parse_78 (by decide) ?_
      obtain rfl := Option.some.inj hf
      subst hq
      exact retZ cx rfl hP hD hS dX10_parse_79
    · have hf := it_t hc hf
      refine lv_iconst (v := 1) hx hb dX10_parse_74 (by decide) ?_
      refine lv_goto (tgt := 79) hx hb dX10_parse_75 (by decide) ?_
      obtain rfl := Option.some.inj hf
      subst hq
      exact retZ cx rfl hP hD hS dX10_parse_79
  have hj49 : ∀ (o_depth_j49 : Int32) (o_tokens_held_j49 : Int32) (o_tokens_length_j49 : Int32) (o_tokens_place_j49 : Int32) (o_tokens_next_j49 : Int32) (o_tokens_sort_j49 : Int32) (o_tokens_value_j49 : Int32) (o_tokens_code_j49 : Int64) (o_tokens_fault_j49 : Int32) (o_tokens_faultPlace_j49 : Int32) (o_steps_many_j49 : Int32) (o_steps_cells_j49 : Nat → Int32) (o_opened_j49 : Nat → Int32) (H : Heap) (locs : List Loc) (ls : Array Slot), X10_parse_j49 F o_depth_j49 o_tokens_held_j49 o_tokens_length_j49 o_tokens_place_j49 o_tokens_next_j49 o_tokens_sort_j49 o_tokens_value_j49 o_tokens_code_j49 o_tokens_fault_j49 o_tokens_faultPlace_j49 o_tokens_text o_steps_many_j49 o_steps_cells_j49 o_opened_j49 q2_many q2_codes q2_sorts q2_numbers = some u → va_P E.1 vwCl (wd_X10_parse E a_o a_o_tokens a_o_steps a_o_opened a_o_tokens_text a_o_steps_cells a_q2 a_q2_codes a_q2_sorts a_q2_numbers o_depth_j49 o_tokens_held_j49 o_tokens_length_j49 o_tokens_place_j49 o_tokens_next_j49 o_tokens_sort_j49 o_tokens_value_j49 o_tokens_code_j49 o_tokens_fault_j49 o_tokens_faultPlace_j49 o_tokens_text o_steps_many_j49 o_steps_cells_j49 o_opened_j49 q2_many q2_codes q2_sorts q2_numbers) H → va_D A (wd_X10_parse E a_o a_o_tokens a_o_steps a_o_opened a_o_tokens_text a_o_steps_cells a_q2 a_q2_codes a_q2_sorts a_q2_numbers o_depth_j49 o_tokens_held_j49 o_tokens_length_j49 o_tokens_place_j49 o_tokens_next_j49 o_tokens_sort_j49 o_tokens_value_j49 o_tokens_code_j49 o_tokens_fault_j49 o_tokens_faultPlace_j49 o_tokens_text o_steps_many_j49 o_steps_cells_j49 o_opened_j49 q2_many q2_codes q2_sorts q2_numbers) → va_S A s.heap H locs → lv_has ls 4 [(0, .ref a_o)] → W p l e (rmd 9) s m aa below meth cd H locs 0 0 QQ (F0 m 49 ls []) := by
    intro o_depth_j49 o_tokens_held_j49 o_tokens_length_j49 o_tokens_place_j49 o_tokens_next_j49 o_tokens_sort_j49 o_tokens_value_j49 o_tokens_code_j49 o_tokens_fault_j49 o_tokens_faultPlace_j49 o_steps_many_j49 o_steps_cells_j49 o_opened_j49 H locs ls hf hP hD hS hl
    unfold X10_parse_j49 at hf
    refine lv_aload_n hx hb dX10_parse_49 rfl (lv_at hl 0 rfl) ?_
    refine va_get (D := E.1) (ci := 10) (v := .int o_depth_j49) (C := RX10) (T := TX10) (N := 4) hx hb hts inX10 hown hK hP 0 rfl rfl 3 (by decide) (hts _ fl_X10_30) (fun _ h9 => h9) rfl dX10_parse_50 ?_
    refine lv_if_le (tgt := 64) hx hb dX10_parse_53 (by decide) (fun hc => ?_) (fun hc => ?_)
    · have hf := it_t hc hf
      exact hj64 _ _ _ _ _ _ _ _ _ _ _ _ _ _ _ _ hf hP hD hS (lv_sub hl [0] rfl)
    · have hf := it_f hc hf
      refine lv_aload_n hx hb dX10_parse_56 rfl (lv_at hl 0 rfl) ?_
      refine va_get (D := E.1) (ci := 10) (v := .ref a_o_tokens) (C := RX10) (T := TX10) (N := 4) hx hb hts inX10 hown hK hP 0 rfl rfl 0 (by decide) (hts _ fl_X10_22) (fun _ h9 => h9) rfl dX10_parse_57 ?_
      refine lv_iconst (v := 2) hx hb dX10_parse_60 (by decide) ?_
      obtain ⟨u61, hu61, hf⟩ := bd hf
      refine callVV (wn := (wd_X10_parse E a_o a_o_tokens a_o_steps a_o_opened a_o_tokens_text a_o_steps_cells a_q2 a_q2_codes a_q2_sorts a_q2_numbers o_depth_j49 o_tokens_held_j49 o_tokens_length_j49 o_tokens_place_j49 o_tokens_next_j49 o_tokens_sort_j49 o_tokens_value_j49 o_tokens_code_j49 u61.1 u61.2 o_tokens_text o_steps_many_j49 o_steps_cells_j49 o_opened_j49 q2_many q2_codes q2_sorts q2_numbers)) (n1 := 10) (ct_X8_fail l E a_o_tokens a_o_tokens_text o_tokens_held_j49 o_tokens_length_j49 o_tokens_place_j49 o_tokens_next_j49 o_tokens_sort_j49 o_tokens_value_j49 o_tokens_code_j49 o_tokens_fault_j49 o_tokens_faultPlace_j49 (2 : Int32) u61 hu61) [1] cal_X8_fail cav_X8_fail lk_X10_47 cx hP hD hS hl dX10_parse_61 rfl rfl rfl rfl (Nat.le_of_ble_eq_true rfl) ⟨Nat.le_of_ble_eq_true rfl, Nat.le_of_ble_eq_true rfl⟩ rfl (by decide +kernel) rfl [none, some 0, none, none, none, none, none, none, none, none] rfl (by decide +kernel) rfl (fun H locs hP hD hS => ?_)
      exact hj64 _ _ _ _ _ _ _ _ _ _ _ _ _ _ _ _ hf hP hD hS (lv_sub hl [0] rfl)
  unfold X10_parse at hf
  refine lv_aload_n hx hb dX10_parse_0 rfl (lv_at hl 0 rfl) ?_
  refine va_get (D := E.1) (ci := 10) (v := .ref a_o_steps) (C := RX10) (T := TX10) (N := 4) hx hb hts inX10 hown hK hP 0 rfl rfl 1 (by decide) (hts _ fl_X10_14) (fun _ h9 => h9) rfl dX10_parse_1 ?_
  refine lv_iconst (v := 0) hx hb dX10_parse_4 (by decide) ?_
  refine va_put (D := E.1) (ci := 7) (v := .int 0) (ty := .int) (C := RX7) (T := TX7) (N := 3) hx hb hts inX7 tyX7 tyX7_ok nmX7 hown hK hP hD hS 3 rfl rfl 2 (by decide) (hts _ fl_X10_26) (fun _ h9 => h9) rfl (by decide +kernel) rfl rfl (Nat.le_of_ble_eq_true rfl) dX10_parse_5 (fun H locs hP hD hS => ?_)
  have hP : va_P E.1 vwCl (wd_X10_parse E a_o a_o_tokens a_o_steps a_o_opened a_o_tokens_text a_o_steps_cells a_q2 a_q2_codes a_q2_sorts a_q2_numbers o_depth o_tokens_held o_tokens_length o_tokens_place o_tokens_next o_tokens_sort o_tokens_value o_tokens_code o_tokens_fault o_tokens_faultPlace o_tokens_text 0 o_steps_cells o_opened q2_many q2_codes q2_sorts q2_numbers) H := hP
  have hD : va_D A (wd_X10_parse E a_o a_o_tokens a_o_steps a_o_opened a_o_tokens_text a_o_steps_cells a_q2 a_q2_codes a_q2_sorts a_q2_numbers o_depth o_tokens_held o_tokens_length o_tokens_place o_tokens_next o_tokens_sort o_tokens_value o_tokens_code o_tokens_fault o_tokens_faultPlace o_tokens_text 0 o_steps_cells o_opened q2_many q2_codes q2_sorts q2_numbers) := hD
  refine lv_aload_n hx hb dX10_parse_8 rfl (lv_at hl 0 rfl) ?_
  refine lv_iconst (v := 0) hx hb dX10_parse_9 (by decide) ?_
  refine va_put (D := E.1) (ci := 10) (v := .int 0) (ty := .int) (C := RX10) (T := TX10) (N := 4) hx hb hts inX10 tyX10 tyX10_ok nmX10 hown hK hP hD hS 0 rfl rfl 3 (by decide) (hts _ fl_X10_30) (fun _ h9 => h9) rfl (by decide +kernel) rfl rfl (Nat.le_of_ble_eq_true rfl) dX10_parse_10 (fun H locs hP hD hS => ?_)
  have hP : va_P E.1 vwCl (wd_X10_parse E a_o a_o_tokens a_o_steps a_o_opened a_o_tokens_text a_o_steps_cells a_q2 a_q2_codes a_q2_sorts a_q2_numbers 0 o_tokens_held o_tokens_length o_tokens_place o_tokens_next o_tokens_sort o_tokens_value o_tokens_code o_tokens_fault o_tokens_faultPlace o_tokens_text 0 o_steps_cells o_opened q2_many q2_codes q2_sorts q2_numbers) H := hP
  have hD : va_D A (wd_X10_parse E a_o a_o_tokens a_o_steps a_o_opened a_o_tokens_text a_o_steps_cells a_q2 a_q2_codes a_q2_sorts a_q2_numbers 0 o_tokens_held o_tokens_length o_tokens_place o_tokens_next o_tokens_sort o_tokens_value o_tokens_code o_tokens_fault o_tokens_faultPlace o_tokens_text 0 o_steps_cells o_opened q2_many q2_codes q2_sorts q2_numbers) := hD
  refine lv_aload_n hx hb dX10_parse_13 rfl (lv_at hl 0 rfl) ?_
  refine va_get (D := E.1) (ci := 10) (v := .ref a_o_tokens) (C := RX10) (T := TX10) (N := 4) hx hb hts inX10 hown hK hP 0 rfl rfl 0 (by decide) (hts _ fl_X10_22) (fun _ h9 => h9) rfl dX10_parse_14 ?_
  refine lv_iload_n hx hb dX10_parse_17 rfl (lv_at hl 1 rfl) ?_
  obtain ⟨u18, hu18, hf⟩ := bd hf
  refine callVV (wn := (wd_X10_parse E a_o a_o_tokens a_o_steps a_o_opened a_o_tokens_text a_o_steps_cells a_q2 a_q2_codes a_q2_sorts a_q2_numbers 0 u18.1 u18.2.1 u18.2.2.1 u18.2.2.2.1 u18.2.2.2.2.1 u18.2.2.2.2.2.1 u18.2.2.2.2.2.2.1 u18.2.2.2.2.2.2.2.1 u18.2.2.2.2.2.2.2.2 o_tokens_text 0 o_steps_cells o_opened q2_many q2_codes q2_sorts q2_numbers)) (n1 := 10) (ct_X8_begin l E F a_o_tokens a_o_tokens_text o_tokens_held o_tokens_length o_tokens_place o_tokens_next o_tokens_sort o_tokens_value o_tokens_code o_tokens_fault o_tokens_faultPlace o_tokens_text v1 u18 hu18) [1, 2] cal_X8_begin cav_X8_begin lk_X10_33 cx hP hD hS hl dX10_parse_18 rfl rfl rfl rfl (Nat.le_of_ble_eq_true rfl) ⟨Nat.le_of_ble_eq_true rfl, Nat.le_of_ble_eq_true rfl⟩ rfl (by decide +kernel) rfl [none, some 0, some 1, none, none, none, none, none, none, none] rfl (by decide +kernel) rfl (fun H locs hP hD hS => ?_)
  refine lv_iconst (v := 0) hx hb dX10_parse_21 (by decide) ?_
  refine lv_istore_n (lv' := [(3, .int 0), (0, .ref a_o), (1, .int v1), (2, .ref a_q2)]) hx hb dX10_parse_22 rfl hl (by decide) rfl (fun ls hl => ?_)
  obtain ⟨e23, hit23, hf⟩ := bd hf
  refine iter_W (b := X10_parse_b23 F u18.1 u18.2.1 o_tokens_text q2_many q2_codes q2_sorts q2_numbers v1) (P := fun st23 => ∀ (H : Heap) (locs : List Loc) (ls : Array Slot), va_P E.1 vwCl (wd_X10_parse E a_o a_o_tokens a_o_steps a_o_opened a_o_tokens_text a_o_steps_cells a_q2 a_q2_codes a_q2_sorts a_q2_numbers (st23.1 1) u18.1 u18.2.1 (st23.1 2) (st23.1 3) (st23.1 4) (st23.1 5) (st23.2.1 0) (st23.1 6) (st23.1 7) o_tokens_text (st23.1 8) (st23.2.2.1 0) (st23.2.2.1 1) q2_many q2_codes q2_sorts q2_numbers) H → va_D A (wd_X10_parse E a_o a_o_tokens a_o_steps a_o_opened a_o_tokens_text a_o_steps_cells a_q2 a_q2_codes a_q2_sorts a_q2_numbers (st23.1 1) u18.1 u18.2.1 (st23.1 2) (st23.1 3) (st23.1 4) (st23.1 5) (st23.2.1 0) (st23.1 6) (st23.1 7) o_tokens_text (st23.1 8) (st23.2.2.1 0) (st23.2.2.1 1) q2_many q2_codes q2_sorts q2_numbers) → va_S A s.heap H locs → lv_has ls 4 [(0, .ref a_o), (1, .int v1), (2, .ref a_q2), (3, .int (st23.1 0))] → W p l e (rmd 9) s m aa below meth cd H locs 0 0 QQ (F0 m 23 ls [])) (G := (fun (e23 : vS) => ∀ (H : Heap) (locs : List Loc) (ls : Array Slot), va_P E.1 vwCl (wd_X10_parse E a_o a_o_tokens a_o_steps a_o_opened a_o_tokens_text a_o_steps_cells a_q2 a_q2_codes a_q2_sorts a_q2_numbers (e23.1 0) u18.1 u18.2.1 (e23.1 1) (e23.1 2) (e23.1 3) (e23.1 4) (e23.2.1 0) (e23.1 5) (e23.1 6) o_tokens_text (e23.1 7) (e23.2.2.1 0) (e23.2.2.1 1) q2_many q2_codes q2_sorts q2_numbers) H → va_D A (wd_X10_parse E a_o a_o_tokens a_o_steps a_o_opened a_o_tokens_text a_o_steps_cells a_q2 a_q2_codes a_q2_sorts a_q2_numbers (e23.1 0) u18.1 u18.2.1 (e23.1 1) (e23.1 2) (e23.1 3) (e23.1 4) (e23.2.1 0) (e23.1 5) (e23.1 6) o_tokens_text (e23.1 7) (e23.2.2.1 0) (e23.2.2.1 1) q2_many q2_codes q2_sorts q2_numbers) → va_S A s.heap H locs → lv_has ls 4 [(0, .ref a_o)] → W p l e (rmd 9) s m aa below meth cd H locs 0 0 QQ (F0 m 49 ls []))) ?_ F (mkS [0, 0, u18.2.2.1, u18.2.2.2.1, u18.2.2.2.2.1, u18.2.2.2.2.2.1, u18.2.2.2.2.2.2.2.1, u18.2.2.2.2.2.2.2.2, 0] [u18.2.2.2.2.2.2.1] [o_steps_cells, o_opened] []) e23 hit23 ?_ _ _ _ hP hD hS (lv_sub hl [1, 2, 3, 0] rfl)
  · intro st23 r23 hf hk23 he23 H locs ls hP hD hS hl
    unfold X10_parse_b23 at hf
    refine lv_iload_n hx hb dX10_parse_23 rfl (lv_at hl 3 rfl) ?_
    refine lv_iload_n hx hb dX10_parse_24 rfl (lv_at hl 1 rfl) ?_
    refine lv_icmp_ge (tgt := 49) hx hb dX10_parse_25 (by decide) (fun hc => ?_) (fun hc => ?_)
    · have hf := it_t hc hf
      exact he23 _ (Option.some.inj hf).symm _ _ _ hP hD hS (lv_sub hl [0] rfl)
    · have hf := it_f hc hf
      refine lv_aload_n hx hb dX10_parse_28 rfl (lv_at hl 0 rfl) ?_
      refine va_get (D := E.1) (ci := 10) (v := .ref a_o_tokens) (C := RX10) (T := TX10) (N := 4) hx hb hts inX10 hown hK hP 0 rfl rfl 0 (by decide) (hts _ fl_X10_22) (fun _ h9 => h9) rfl dX10_parse_29 ?_
      obtain ⟨u32, hu32, hf⟩ := bd hf
      refine keepVI (ct_X8_isOpen l E a_o_tokens a_o_tokens_text u18.1 u18.2.1 (st23.1 2) (st23.1 3) (st23.1 4) (st23.1 5) (st23.2.1 0) (st23.1 6) (st23.1 7) u32 hu32) [1] cal_X8_isOpen cav_X8_isOpen lk_X10_39 cx hP hD hS hl dX10_parse_32 rfl rfl rfl rfl (Nat.le_of_ble_eq_true rfl) ⟨Nat.le_of_ble_eq_true rfl, Nat.le_of_ble_eq_true rfl⟩ rfl (by decide) (fun H locs hP hS => ?_)
      refine lv_if_eq (tgt := 49) hx hb dX10_parse_35 (by decide) (fun hc => ?_) (fun hc => ?_)
      · have hf := it_t hc hf
        exact he23 _ (Option.some.inj hf).symm _ _ _ hP hD hS (lv_sub hl [0] rfl)
      · have hf := it_f hc hf
        refine lv_aload_n hx hb dX10_parse_38 rfl (lv_at hl 0 rfl) ?_
        refine lv_aload_n hx hb dX10_parse_39 rfl (lv_at hl 2 rfl) ?_
        obtain ⟨u40, hu40, hf⟩ := bd hf
        refine callVV (wn := (wd_X10_parse E a_o a_o_tokens a_o_steps a_o_opened a_o_tokens_text a_o_steps_cells a_q2 a_q2_codes a_q2_sorts a_q2_numbers (u40.1 0) u18.1 u18.2.1 (u40.1 1) (u40.1 2) (u40.1 3) (u40.1 4) (u40.2.1 0) (u40.1 5) (u40.1 6) o_tokens_text (u40.1 7) (u40.2.2.1 0) (u40.2.2.1 1) q2_many q2_codes q2_sorts q2_numbers)) (n1 := 10) (ct_X10_takeStep l E F a_o a_o_tokens a_o_steps a_o_opened a_o_tokens_text a_o_steps_cells a_q2 a_q2_codes a_q2_sorts a_q2_numbers (st23.1 1) u18.1 u18.2.1 (st23.1 2) (st23.1 3) (st23.1 4) (st23.1 5) (st23.2.1 0) (st23.1 6) (st23.1 7) o_tokens_text (st23.1 8) (st23.2.2.1 0) (st23.2.2.1 1) q2_many q2_codes q2_sorts q2_numbers u40 hu40) [0, 1, 2, 3, 4, 5, 6, 7, 8, 9] cal_X10_takeStep cav_X10_takeStep lk_X10_43 cx hP hD hS hl dX10_parse_40 rfl rfl rfl rfl (Nat.le_of_ble_eq_true rfl) ⟨Nat.le_of_ble_eq_true rfl, Nat.le_of_ble_eq_true rfl⟩ rfl (by decide +kernel) rfl [some 0, some 1, some 2, some 3, some 4, some 5, some 6, some 7, some 8, some 9] rfl (by decide +kernel) rfl (fun H locs hP hD hS => ?_)
        refine lv_iinc (v := ((st23.1 0) + 1)) (lv' := [(3, .int ((st23.1 0) + 1)), (0, .ref a_o), (1, .int v1), (2, .ref a_q2)]) hx hb dX10_parse_43 hl (k := 3) rfl rfl (by decide) rfl (fun ls hl => ?_)
        refine lv_goto (tgt := 23) hx hb dX10_parse_46 (by decide) ?_
        exact hk23 _ (Option.some.inj hf).symm _ _ _ hP hD hS (lv_sub hl [1, 2, 3, 0] rfl)
  · refine fun H locs ls hP hD hS hl => ?_
    exact hj49 _ _ _ _ _ _ _ _ _ _ _ _ _ _ _ _ hf hP hD hS (lv_sub hl [0] rfl)
def X11_status (o_latestStatus : Int32) : Option (Int32) :=
  some o_latestStatus
abbrev wd_X11_status (E : vE) (a_o a_o_city a_o_ahead a_o_marks a_o_tape a_o_cityReader a_o_weeksReader a_o_trays a_o_planner a_o_ruler a_o_life a_o_latestLife : Nat) (o_marked : Int32) (o_wasLived : Int32) (o_wasParsed : Int32) (o_faultKind : Int32) (o_faultPlace : Int32) (o_latestStatus : Int32) (o_fractionTop : Int64) (o_fractionBottom : Int64) : va_W := [(a_o, .inr (11, [.ref a_o_city, .ref a_o_ahead, .ref a_o_marks, .int o_marked, .ref a_o_tape, .ref a_o_cityReader, .ref a_o_weeksReader, .ref a_o_trays, .ref a_o_planner, .ref a_o_ruler, .ref a_o_life, .ref a_o_latestLife, .int o_wasLived, .int o_wasParsed, .int o_faultKind, .int o_faultPlace, .int o_latestStatus, .long o_fractionTop, .long o_fractionBottom]))]
set_option maxHeartbeats 4000000 in
set_option maxRecDepth 100000 in
theorem ct_X11_status (l : Launch) (E : vE) (a_o a_o_city a_o_ahead a_o_marks a_o_tape a_o_cityReader a_o_weeksReader a_o_trays a_o_planner a_o_ruler a_o_life a_o_latestLife : Nat) (o_marked : Int32) (o_wasLived : Int32) (o_wasParsed : Int32) (o_faultKind : Int32) (o_faultPlace : Int32) (o_latestStatus : Int32) (o_fractionTop : Int64) (o_fractionBottom : Int64) (u : Int32) (hf : X11_status o_latestStatus = some u) :
    CtI l yX11_status cX11_status 1 (some .int) 0 E [.ref a_o] (wd_X11_status E a_o a_o_city a_o_ahead a_o_marks a_o_tape a_o_cityReader a_o_weeksReader a_o_trays a_o_planner a_o_ruler a_o_life a_o_latestLife o_marked o_wasLived o_wasParsed o_faultKind o_faultPlace o_latestStatus o_fractionTop o_fractionBottom) (wd_X11_status E a_o a_o_city a_o_ahead a_o_marks a_o_tape a_o_cityReader a_o_weeksReader a_o_trays a_o_planner a_o_ruler a_o_life a_o_latestLife o_marked o_wasLived o_wasParsed o_faultKind o_faultPlace o_latestStatus o_fractionTop o_fractionBottom) u := by
  refine ctI (by decide) (Nat.le_of_ble_eq_true rfl) ?_
  intro p e s m below meth cd A ls aa QQ hq cx hP hD hS hl
  obtain ⟨⟨hx, hb, hml, hown, hts⟩, hr, hlocks, hK, hA, hX⟩ := id cx
  have hl : lv_has ls 1 [(0, .ref a_o)] := hl
  unfold X11_status at hf
  refine lv_aload_n hx hb dX11_status_0 rfl (lv_at hl 0 rfl) ?_
  refine va_get (D := E.1) (ci := 11) (v := .int o_latestStatus) (C := RX11) (T := TX11) (N := 19) hx hb hts inX11 hown hK hP 0 rfl rfl 16 (by decide) (hts _ fl_X11_86) (fun _ h9 => h9) rfl dX11_status_1 ?_
  obtain rfl := Option.some.inj hf
  subst hq
  exact retI cx hP hD hS dX11_status_4
def X11_top (o_fractionTop : Int64) : Option (Int64) :=
  some o_fractionTop
abbrev wd_X11_top (E : vE) (a_o a_o_city a_o_ahead a_o_marks a_o_tape a_o_cityReader a_o_weeksReader a_o_trays a_o_planner a_o_ruler a_o_life a_o_latestLife : Nat) (o_marked : Int32) (o_wasLived : Int32) (o_wasParsed : Int32) (o_faultKind : Int32) (o_faultPlace : Int32) (o_latestStatus : Int32) (o_fractionTop : Int64) (o_fractionBottom : Int64) : va_W := [(a_o, .inr (11, [.ref a_o_city, .ref a_o_ahead, .ref a_o_marks, .int o_marked, .ref a_o_tape, .ref a_o_cityReader, .ref a_o_weeksReader, .ref a_o_trays, .ref a_o_planner, .ref a_o_ruler, .ref a_o_life, .ref a_o_latestLife, .int o_wasLived, .int o_wasParsed, .int o_faultKind, .int o_faultPlace, .int o_latestStatus, .long o_fractionTop, .long o_fractionBottom]))]
set_option maxHeartbeats 4000000 in
set_option maxRecDepth 100000 in
theorem ct_X11_top (l : Launch) (E : vE) (a_o a_o_city a_o_ahead a_o_marks a_o_tape a_o_cityReader a_o_weeksReader a_o_trays a_o_planner a_o_ruler a_o_life a_o_latestLife : Nat) (o_marked : Int32) (o_wasLived : Int32) (o_wasParsed : Int32) (o_faultKind : Int32) (o_faultPlace : Int32) (o_latestStatus : Int32) (o_fractionTop : Int64) (o_fractionBottom : Int64) (u : Int64) (hf : X11_top o_fractionTop = some u) :
    CtL l yX11_top cX11_top 1 (some .long) 0 E [.ref a_o] (wd_X11_top E a_o a_o_city a_o_ahead a_o_marks a_o_tape a_o_cityReader a_o_weeksReader a_o_trays a_o_planner a_o_ruler a_o_life a_o_latestLife o_marked o_wasLived o_wasParsed o_faultKind o_faultPlace o_latestStatus o_fractionTop o_fractionBottom) (wd_X11_top E a_o a_o_city a_o_ahead a_o_marks a_o_tape a_o_cityReader a_o_weeksReader a_o_trays a_o_planner a_o_ruler a_o_life a_o_latestLife o_marked o_wasLived o_wasParsed o_faultKind o_faultPlace o_latestStatus o_fractionTop o_fractionBottom) u := by
  refine ctL (by decide) (Nat.le_of_ble_eq_true rfl) ?_
  intro p e s m below meth cd A ls aa QQ hq cx hP hD hS hl
  obtain ⟨⟨hx, hb, hml, hown, hts⟩, hr, hlocks, hK, hA, hX⟩ := id cx
  have hl : lv_has ls 1 [(0, .ref a_o)] := hl
  unfold X11_top at hf
  refine lv_aload_n hx hb dX11_top_0 rfl (lv_at hl 0 rfl) ?_
  refine va_get (D := E.1) (ci := 11) (v := .long o_fractionTop) (C := RX11) (T := TX11) (N := 19) hx hb hts inX11 hown hK hP 0 rfl rfl 17 (by decide) (hts _ fl_X11_89) (fun _ h9 => h9) rfl dX11_top_1 ?_
  obtain rfl := Option.some.inj hf
  subst hq
  exact retL cx hP hD hS dX11_top_4
def X11_bottom (o_fractionBottom : Int64) : Option (Int64) :=
  some o_fractionBottom
abbrev wd_X11_bottom (E : vE) (a_o a_o_city a_o_ahead a_o_marks a_o_tape a_o_cityReader a_o_weeksReader a_o_trays a_o_planner a_o_ruler a_o_life a_o_latestLife : Nat) (o_marked : Int32) (o_wasLived : Int32) (o_wasParsed : Int32) (o_faultKind : Int32) (o_faultPlace : Int32) (o_latestStatus : Int32) (o_fractionTop : Int64) (o_fractionBottom : Int64) : va_W := [(a_o, .inr (11, [.ref a_o_city, .ref a_o_ahead, .ref a_o_marks, .int o_marked, .ref a_o_tape, .ref a_o_cityReader, .ref a_o_weeksReader, .ref a_o_trays, .ref a_o_planner, .ref a_o_ruler, .ref a_o_life, .ref a_o_latestLife, .int o_wasLived, .int o_wasParsed, .int o_faultKind, .int o_faultPlace, .int o_latestStatus, .long o_fractionTop, .long o_fractionBottom]))]
set_option maxHeartbeats 4000000 in
set_option maxRecDepth 100000 in
theorem ct_X11_bottom (l : Launch) (E : vE) (a_o a_o_city a_o_ahead a_o_marks a_o_tape a_o_cityReader a_o_weeksReader a_o_trays a_o_planner a_o_ruler a_o_life a_o_latestLife : Nat) (o_marked : Int32) (o_wasLived : Int32) (o_wasParsed : Int32) (o_faultKind : Int32) (o_faultPlace : Int32) (o_latestStatus : Int32) (o_fractionTop : Int64) (o_fractionBottom : Int64) (u : Int64) (hf : X11_bottom o_fractionBottom = some u) :
    CtL l yX11_bottom cX11_bottom 1 (some .long) 0 E [.ref a_o] (wd_X11_bottom E a_o a_o_city a_o_ahead a_o_marks a_o_tape a_o_cityReader a_o_weeksReader a_o_trays a_o_planner a_o_ruler a_o_life a_o_latestLife o_marked o_wasLived o_wasParsed o_faultKind o_faultPlace o_latestStatus o_fractionTop o_fractionBottom) (wd_X11_bottom E a_o a_o_city a_o_ahead a_o_marks a_o_tape a_o_cityReader a_o_weeksReader a_o_trays a_o_planner a_o_ruler a_o_life a_o_latestLife o_marked o_wasLived o_wasParsed o_faultKind o_faultPlace o_latestStatus o_fractionTop o_fractionBottom) u := by
  refine ctL (by decide) (Nat.le_of_ble_eq_true rfl) ?_
  intro p e s m below meth cd A ls aa QQ hq cx hP hD hS hl
  obtain ⟨⟨hx, hb, hml, hown, hts⟩, hr, hlocks, hK, hA, hX⟩ := id cx
  have hl : lv_has ls 1 [(0, .ref a_o)] := hl
  unfold X11_bottom at hf
  refine lv_aload_n hx hb dX11_bottom_0 rfl (lv_at hl 0 rfl) ?_
  refine va_get (D := E.1) (ci := 11) (v := .long o_fractionBottom) (C := RX11) (T := TX11) (N := 19) hx hb hts inX11 hown hK hP 0 rfl rfl 18 (by decide) (hts _ fl_X11_82) (fun _ h9 => h9) rfl dX11_bottom_1 ?_
  obtain rfl := Option.some.inj hf
  subst hq
  exact retL cx hP hD hS dX11_bottom_4
def X11_within_j14  : Option (Int32) :=
  some 0
def X11_within (v0 : Int32) (v1 : Int32) (v2 : Int32) : Option (Int32) :=
  if v0 < v1 then
  X11_within_j14
  else
  if v2 < v0 then
  X11_within_j14
  else
  some 1
abbrev wd_X11_within (E : vE) : va_W := []
set_option maxHeartbeats 4000000 in
set_option maxRecDepth 100000 in
theorem ct_X11_within (l : Launch) (E : vE) (v0 : Int32) (v1 : Int32) (v2 : Int32) (u : Int32) (hf : X11_within v0 v1 v2 = some u) :
    CtI l yX11_within cX11_within 3 (some .boolean) 0 E [.int v0, .int v1, .int v2] (wd_X11_within E) (wd_X11_within E) u := by
  refine ctI (by decide) (Nat.le_of_ble_eq_true rfl) ?_
  intro p e s m below meth cd A ls aa QQ hq cx hP hD hS hl
  obtain ⟨⟨hx, hb, hml, hown, hts⟩, hr, hlocks, hK, hA, hX⟩ := id cx
  have hl : lv_has ls 3 [(0, .int v0), (1, .int v1), (2, .int v2)] := hl
  have hj14 : ∀ (H : Heap) (locs : List Loc) (ls : Array Slot), X11_within_j14 = some u → va_P E.1 vwCl (wd_X11_within E) H → va_D A (wd_X11_within E) → va_S A s.heap H locs → lv_has ls 3 [] → W p l e (rmd 0) s m aa below meth cd H locs 0 0 QQ (F0 m 14 ls []) := by
    intro H locs ls hf hP hD hS hl
    unfold X11_within_j14 at hf
    refine lv_iconst (v := 0) hx hb dX11_within_14 (by decide) ?_
    obtain rfl := Option.some.inj hf
    subst hq
    exact retZ cx rfl hP hD hS dX11_within_15
  unfold X11_within at hf
  refine lv_iload_n hx hb dX11_within_0 rfl (lv_at hl 0 rfl) ?_
  refine lv_iload_n hx hb dX11_within_1 rfl (lv_at hl 1 rfl) ?_
  refine lv_icmp_lt (tgt := 14) hx hb dX11_within_2 (by decide) (fun hc => ?_) (fun hc => ?_)
  · have hf := it_t hc hf
    exact hj14  _ _ _ hf hP hD hS (lv_sub hl [] rfl)
  · have hf := it_f hc hf
    refine lv_iload_n hx hb dX11_within_5 rfl (lv_at hl 0 rfl) ?_
    refine lv_iload_n hx hb dX11_within_6 rfl (lv_at hl 2 rfl) ?_
    refine lv_icmp_gt (tgt := 14) hx hb dX11_within_7 (by decide) (fun hc => ?_) (fun hc => ?_)
    · have hf := it_t hc hf
      exact hj14  _ _ _ hf hP hD hS (lv_sub hl [] rfl)
    · have hf := it_f hc hf
      refine lv_iconst (v := 1) hx hb dX11_within_10 (by decide) ?_
      refine lv_goto (tgt := 15) hx hb dX11_within_11 (by decide) ?_
      obtain rfl := Option.some.inj hf
      subst hq
      exact retZ cx rfl hP hD hS dX11_within_15
def X11_refused (o_latestStatus : Int32) (v1 : Int32) : Option (Int32 × Int32) :=
  some (0, v1)
abbrev wd_X11_refused (E : vE) (a_o a_o_city a_o_ahead a_o_marks a_o_tape a_o_cityReader a_o_weeksReader a_o_trays a_o_planner a_o_ruler a_o_life a_o_latestLife : Nat) (o_marked : Int32) (o_wasLived : Int32) (o_wasParsed : Int32) (o_faultKind : Int32) (o_faultPlace : Int32) (o_latestStatus : Int32) (o_fractionTop : Int64) (o_fractionBottom : Int64) : va_W := [(a_o, .inr (11, [.ref a_o_city, .ref a_o_ahead, .ref a_o_marks, .int o_marked, .ref a_o_tape, .ref a_o_cityReader, .ref a_o_weeksReader, .ref a_o_trays, .ref a_o_planner, .ref a_o_ruler, .ref a_o_life, .ref a_o_latestLife, .int o_wasLived, .int o_wasParsed, .int o_faultKind, .int o_faultPlace, .int o_latestStatus, .long o_fractionTop, .long o_fractionBottom]))]
set_option maxHeartbeats 4000000 in
set_option maxRecDepth 100000 in
theorem ct_X11_refused (l : Launch) (E : vE) (a_o a_o_city a_o_ahead a_o_marks a_o_tape a_o_cityReader a_o_weeksReader a_o_trays a_o_planner a_o_ruler a_o_life a_o_latestLife : Nat) (o_marked : Int32) (o_wasLived : Int32) (o_wasParsed : Int32) (o_faultKind : Int32) (o_faultPlace : Int32) (o_latestStatus : Int32) (o_fractionTop : Int64) (o_fractionBottom : Int64) (v1 : Int32) (u : Int32 × Int32) (hf : X11_refused o_latestStatus v1 = some u) :
    CtI l yX11_refused cX11_refused 2 (some .boolean) 0 E [.ref a_o, .int v1] (wd_X11_refused E a_o a_o_city a_o_ahead a_o_marks a_o_tape a_o_cityReader a_o_weeksReader a_o_trays a_o_planner a_o_ruler a_o_life a_o_latestLife o_marked o_wasLived o_wasParsed o_faultKind o_faultPlace o_latestStatus o_fractionTop o_fractionBottom) (wd_X11_refused E a_o a_o_city a_o_ahead a_o_marks a_o_tape a_o_cityReader a_o_weeksReader a_o_trays a_o_planner a_o_ruler a_o_life a_o_latestLife o_marked o_wasLived o_wasParsed o_faultKind o_faultPlace u.2 o_fractionTop o_fractionBottom) u.1 := by
  refine ctI (by decide) (Nat.le_of_ble_eq_true rfl) ?_
  intro p e s m below meth cd A ls aa QQ hq cx hP hD hS hl
  obtain ⟨⟨hx, hb, hml, hown, hts⟩, hr, hlocks, hK, hA, hX⟩ := id cx
  have hl : lv_has ls 2 [(0, .ref a_o), (1, .int v1)] := hl
  unfold X11_refused at hf
  refine lv_aload_n hx hb dX11_refused_0 rfl (lv_at hl 0 rfl) ?_
  refine lv_iload_n hx hb dX11_refused_1 rfl (lv_at hl 1 rfl) ?_
  refine va_put (D := E.1) (ci := 11) (v := .int v1) (ty := .int) (C := RX11) (T := TX11) (N := 19) hx hb hts inX11 tyX11 tyX11_ok nmX11 hown hK hP hD hS 0 rfl rfl 16 (by decide) (hts _ fl_X11_86) (fun _ h9 => h9) rfl (by decide +kernel) rfl rfl (Nat.le_of_ble_eq_true rfl) dX11_refused_2 (fun H locs hP hD hS => ?_)
  have hP : va_P E.1 vwCl (wd_X11_refused E a_o a_o_city a_o_ahead a_o_marks a_o_tape a_o_cityReader a_o_weeksReader a_o_trays a_o_planner a_o_ruler a_o_life a_o_latestLife o_marked o_wasLived o_wasParsed o_faultKind o_faultPlace v1 o_fractionTop o_fractionBottom) H := hP
  have hD : va_D A (wd_X11_refused E a_o a_o_city a_o_ahead a_o_marks a_o_tape a_o_cityReader a_o_weeksReader a_o_trays a_o_planner a_o_ruler a_o_life a_o_latestLife o_marked o_wasLived o_wasParsed o_faultKind o_faultPlace v1 o_fractionTop o_fractionBottom) := hD
  refine lv_iconst (v := 0) hx hb dX11_refused_5 (by decide) ?_
  obtain rfl := Option.some.inj hf
  subst hq
  exact retZ cx rfl hP hD hS dX11_refused_6
def X11_accepted (o_latestStatus : Int32) : Option (Int32 × Int32) :=
  some (1, 0)
abbrev wd_X11_accepted (E : vE) (a_o a_o_city a_o_ahead a_o_marks a_o_tape a_o_cityReader a_o_weeksReader a_o_trays a_o_planner a_o_ruler a_o_life a_o_latestLife : Nat) (o_marked : Int32) (o_wasLived : Int32) (o_wasParsed : Int32) (o_faultKind : Int32) (o_faultPlace : Int32) (o_latestStatus : Int32) (o_fractionTop : Int64) (o_fractionBottom : Int64) : va_W := [(a_o, .inr (11, [.ref a_o_city, .ref a_o_ahead, .ref a_o_marks, .int o_marked, .ref a_o_tape, .ref a_o_cityReader, .ref a_o_weeksReader, .ref a_o_trays, .ref a_o_planner, .ref a_o_ruler, .ref a_o_life, .ref a_o_latestLife, .int o_wasLived, .int o_wasParsed, .int o_faultKind, .int o_faultPlace, .int o_latestStatus, .long o_fractionTop, .long o_fractionBottom]))]
set_option maxHeartbeats 4000000 in
set_option maxRecDepth 100000 in
theorem ct_X11_accepted (l : Launch) (E : vE) (a_o a_o_city a_o_ahead a_o_marks a_o_tape a_o_cityReader a_o_weeksReader a_o_trays a_o_planner a_o_ruler a_o_life a_o_latestLife : Nat) (o_marked : Int32) (o_wasLived : Int32) (o_wasParsed : Int32) (o_faultKind : Int32) (o_faultPlace : Int32) (o_latestStatus : Int32) (o_fractionTop : Int64) (o_fractionBottom : Int64) (u : Int32 × Int32) (hf : X11_accepted o_latestStatus = some u) :
    CtI l yX11_accepted cX11_accepted 1 (some .boolean) 0 E [.ref a_o] (wd_X11_accepted E a_o a_o_city a_o_ahead a_o_marks a_o_tape a_o_cityReader a_o_weeksReader a_o_trays a_o_planner a_o_ruler a_o_life a_o_latestLife o_marked o_wasLived o_wasParsed o_faultKind o_faultPlace o_latestStatus o_fractionTop o_fractionBottom) (wd_X11_accepted E a_o a_o_city a_o_ahead a_o_marks a_o_tape a_o_cityReader a_o_weeksReader a_o_trays a_o_planner a_o_ruler a_o_life a_o_latestLife o_marked o_wasLived o_wasParsed o_faultKind o_faultPlace u.2 o_fractionTop o_fractionBottom) u.1 := by
  refine ctI (by decide) (Nat.le_of_ble_eq_true rfl) ?_
  intro p e s m below meth cd A ls aa QQ hq cx hP hD hS hl
  obtain ⟨⟨hx, hb, hml, hown, hts⟩, hr, hlocks, hK, hA, hX⟩ := id cx
  have hl : lv_has ls 1 [(0, .ref a_o)] := hl
  unfold X11_accepted at hf
  refine lv_aload_n hx hb dX11_accepted_0 rfl (lv_at hl 0 rfl) ?_
  refine lv_iconst (v := 0) hx hb dX11_accepted_1 (by decide) ?_
  refine va_put (D := E.1) (ci := 11) (v := .int 0) (ty := .int) (C := RX11) (T := TX11) (N := 19) hx hb hts inX11 tyX11 tyX11_ok nmX11 hown hK hP hD hS 0 rfl rfl 16 (by decide) (hts _ fl_X11_86) (fun _ h9 => h9) rfl (by decide +kernel) rfl rfl (Nat.le_of_ble_eq_true rfl) dX11_accepted_2 (fun H locs hP hD hS => ?_)
  have hP : va_P E.1 vwCl (wd_X11_accepted E a_o a_o_city a_o_ahead a_o_marks a_o_tape a_o_cityReader a_o_weeksReader a_o_trays a_o_planner a_o_ruler a_o_life a_o_latestLife o_marked o_wasLived o_wasParsed o_faultKind o_faultPlace 0 o_fractionTop o_fractionBottom) H := hP
  have hD : va_D A (wd_X11_accepted E a_o a_o_city a_o_ahead a_o_marks a_o_tape a_o_cityReader a_o_weeksReader a_o_trays a_o_planner a_o_ruler a_o_life a_o_latestLife o_marked o_wasLived o_wasParsed o_faultKind o_faultPlace 0 o_fractionTop o_fractionBottom) := hD
  refine lv_iconst (v := 1) hx hb dX11_accepted_5 (by decide) ?_
  obtain rfl := Option.some.inj hf
  subst hq
  exact retZ cx rfl hP hD hS dX11_accepted_6
def X11_tray_j30 (F : Nat) (o_latestStatus : Int32) (o_trays_numbers : Nat → Int64) (o_trays_sorts : Nat → Int32) (o_trays_sizes : Nat → Int32) : Option (Int32 × Int32 × (Nat → Int64) × (Nat → Int32) × (Nat → Int32)) :=
  (X11_refused o_latestStatus (1 : Int32)).bind fun u32 =>
  if isZ u32.1 then some (u32.1, u32.2, o_trays_numbers, o_trays_sorts, o_trays_sizes) else none
def X11_tray (F : Nat) (o_latestStatus : Int32) (o_trays_numbers : Nat → Int64) (o_trays_sorts : Nat → Int32) (o_trays_sizes : Nat → Int32) (v1 : Int32) (v2 : Int32) (v3 : Int32) : Option (Int32 × Int32 × (Nat → Int64) × (Nat → Int32) × (Nat → Int32)) :=
  (X9_isTray v1).bind fun u5 =>
  if u5 = 0 then
  X11_tray_j30 F o_latestStatus o_trays_numbers o_trays_sorts o_trays_sizes
  else
  (X11_within v2 (0 : Int32) (3 : Int32)).bind fun u14 =>
  if u14 = 0 then
  X11_tray_j30 F o_latestStatus o_trays_numbers o_trays_sorts o_trays_sizes
  else
  (X11_within v3 (0 : Int32) (60 : Int32)).bind fun u24 =>
  if u24 = 0 then
  X11_tray_j30 F o_latestStatus o_trays_numbers o_trays_sorts o_trays_sizes
  else
  (X9_lay F o_trays_numbers o_trays_sorts o_trays_sizes v1 v2 v3).bind fun u43 =>
  (X11_accepted o_latestStatus).bind fun u47 =>
  if isZ u47.1 then some (u47.1, u47.2, u43.1, u43.2.1, u43.2.2) else none
abbrev wd_X11_tray (E : vE) (a_o a_o_city a_o_ahead a_o_marks a_o_tape a_o_cityReader a_o_weeksReader a_o_trays a_o_planner a_o_ruler a_o_life a_o_latestLife a_o_trays_numbers a_o_trays_sorts a_o_trays_sizes : Nat) (o_marked : Int32) (o_wasLived : Int32) (o_wasParsed : Int32) (o_faultKind : Int32) (o_faultPlace : Int32) (o_latestStatus : Int32) (o_fractionTop : Int64) (o_fractionBottom : Int64) (o_trays_numbers : Nat → Int64) (o_trays_sorts : Nat → Int32) (o_trays_sizes : Nat → Int32) : va_W := [(a_o, .inr (11, [.ref a_o_city, .ref a_o_ahead, .ref a_o_marks, .int o_marked, .ref a_o_tape, .ref a_o_cityReader, .ref a_o_weeksReader, .ref a_o_trays, .ref a_o_planner, .ref a_o_ruler, .ref a_o_life, .ref a_o_latestLife, .int o_wasLived, .int o_wasParsed, .int o_faultKind, .int o_faultPlace, .int o_latestStatus, .long o_fractionTop, .long o_fractionBottom])), (a_o_trays, .inr (9, [.ref a_o_trays_numbers, .ref a_o_trays_sorts, .ref a_o_trays_sizes])), (a_o_trays_numbers, .inl (E.2.2.1, 240, .inr (.inl o_trays_numbers))), (a_o_trays_sorts, .inl (E.2.1, 4, .inl o_trays_sorts)), (a_o_trays_sizes, .inl (E.2.1, 4, .inl o_trays_sizes))]
set_option maxHeartbeats 4000000 in
set_option maxRecDepth 100000 in
theorem ct_X11_tray (l : Launch) (E : vE) (F : Nat) (a_o a_o_city a_o_ahead a_o_marks a_o_tape a_o_cityReader a_o_weeksReader a_o_trays a_o_planner a_o_ruler a_o_life a_o_latestLife a_o_trays_numbers a_o_trays_sorts a_o_trays_sizes : Nat) (o_marked : Int32) (o_wasLived : Int32) (o_wasParsed : Int32) (o_faultKind : Int32) (o_faultPlace : Int32) (o_latestStatus : Int32) (o_fractionTop : Int64) (o_fractionBottom : Int64) (o_trays_numbers : Nat → Int64) (o_trays_sorts : Nat → Int32) (o_trays_sizes : Nat → Int32) (v1 : Int32) (v2 : Int32) (v3 : Int32) (u : Int32 × Int32 × (Nat → Int64) × (Nat → Int32) × (Nat → Int32)) (hf : X11_tray F o_latestStatus o_trays_numbers o_trays_sorts o_trays_sizes v1 v2 v3 = some u) :
    CtI l yX11_tray cX11_tray 4 (some .boolean) 2 E [.ref a_o, .int v1, .int v2, .int v3] (wd_X11_tray E a_o a_o_city a_o_ahead a_o_marks a_o_tape a_o_cityReader a_o_weeksReader a_o_trays a_o_planner a_o_ruler a_o_life a_o_latestLife a_o_trays_numbers a_o_trays_sorts a_o_trays_sizes o_marked o_wasLived o_wasParsed o_faultKind o_faultPlace o_latestStatus o_fractionTop o_fractionBottom o_trays_numbers o_trays_sorts o_trays_sizes) (wd_X11_tray E a_o a_o_city a_o_ahead a_o_marks a_o_tape a_o_cityReader a_o_weeksReader a_o_trays a_o_planner a_o_ruler a_o_life a_o_latestLife a_o_trays_numbers a_o_trays_sorts a_o_trays_sizes o_marked o_wasLived o_wasParsed o_faultKind o_faultPlace u.2.1 o_fractionTop o_fractionBottom u.2.2.1 u.2.2.2.1 u.2.2.2.2) u.1 := by
  refine ctI (by decide) (Nat.le_of_ble_eq_true rfl) ?_
  intro p e s m below meth cd A ls aa QQ hq cx hP hD hS hl
  obtain ⟨⟨hx, hb, hml, hown, hts⟩, hr, hlocks, hK, hA, hX⟩ := id cx
  have hl : lv_has ls 4 [(0, .ref a_o), (1, .int v1), (2, .int v2), (3, .int v3)] := hl
  have hj30 : ∀ (o_latestStatus_j30 : Int32) (o_trays_numbers_j30 : Nat → Int64) (o_trays_sorts_j30 : Nat → Int32) (o_trays_sizes_j30 : Nat → Int32) (H : Heap) (locs : List Loc) (ls : Array Slot), X11_tray_j30 F o_latestStatus_j30 o_trays_numbers_j30 o_trays_sorts_j30 o_trays_sizes_j30 = some u → va_P E.1 vwCl (wd_X11_tray E a_o a_o_city a_o_ahead a_o_marks a_o_tape a_o_cityReader a_o_weeksReader a_o_trays a_o_planner a_o_ruler a_o_life a_o_latestLife a_o_trays_numbers a_o_trays_sorts a_o_trays_sizes o_marked o_wasLived o_wasParsed o_faultKind o_faultPlace o_latestStatus_j30 o_fractionTop o_fractionBottom o_trays_numbers_j30 o_trays_sorts_j30 o_trays_sizes_j30) H → va_D A (wd_X11_tray E a_o a_o_city a_o_ahead a_o_marks a_o_tape a_o_cityReader a_o_weeksReader a_o_trays a_o_planner a_o_ruler a_o_life a_o_latestLife a_o_trays_numbers a_o_trays_sorts a_o_trays_sizes o_marked o_wasLived o_wasParsed o_faultKind o_faultPlace o_latestStatus_j30 o_fractionTop o_fractionBottom o_trays_numbers_j30 o_trays_sorts_j30 o_trays_sizes_j30) → va_S A s.heap H locs → lv_has ls 4 [(0, .ref a_o)] → W p l e (rmd 2) s m aa below meth cd H locs 0 0 QQ (F0 m 30 ls []) := by
    intro o_latestStatus_j30 o_trays_numbers_j30 o_trays_sorts_j30 o_trays_sizes_j30 H locs ls hf hP hD hS hl
    unfold X11_tray_j30 at hf
    refine lv_aload_n hx hb dX11_tray_30 rfl (lv_at hl 0 rfl) ?_
    refine lv_iconst (v := 1) hx hb dX11_tray_31 (by decide) ?_
    obtain ⟨u32, hu32, hf⟩ := bd hf
    refine callVI (wn := (wd_X11_tray E a_o a_o_city a_o_ahead a_o_marks a_o_tape a_o_cityReader a_o_weeksReader a_o_trays a_o_planner a_o_ruler a_o_life a_o_latestLife a_o_trays_numbers a_o_trays_sorts a_o_trays_sizes o_marked o_wasLived o_wasParsed o_faultKind o_faultPlace u32.2 o_fractionTop o_fractionBottom o_trays_numbers_j30 o_trays_sorts_j30 o_trays_sizes_j30)) (n1 := 5) (ct_X11_refused l E a_o a_o_city a_o_ahead a_o_marks a_o_tape a_o_cityReader a_o_weeksReader a_o_trays a_o_planner a_o_ruler a_o_life a_o_latestLife o_marked o_wasLived o_wasParsed o_faultKind o_faultPlace o_latestStatus_j30 o_fractionTop o_fractionBottom (1 : Int32) u32 hu32) [0] cal_X11_refused cav_X11_refused lk_X11_100 cx hP hD hS hl dX11_tray_32 rfl rfl rfl rfl (Nat.le_of_ble_eq_true rfl) ⟨Nat.le_of_ble_eq_true rfl, Nat.le_of_ble_eq_true rfl⟩ rfl (by decide +kernel) rfl [some 0, none, none, none, none] rfl (by decide +kernel) rfl (fun H locs hP hD hS => ?_)
    obtain ⟨hz, hf⟩ := ck hf
    obtain rfl := Option.some.inj hf
    subst hq
    exact retZ cx hz hP hD hS dX11_tray_35
  unfold X11_tray at hf
  refine lv_aload_n hx hb dX11_tray_0 rfl (lv_at hl 0 rfl) ?_
  refine va_get (D := E.1) (ci := 11) (v := .ref a_o_trays) (C := RX11) (T := TX11) (N := 19) hx hb hts inX11 hown hK hP 0 rfl rfl 7 (by decide) (hts _ fl_X11_49) (fun _ h9 => h9) rfl dX11_tray_1 ?_
  refine lv_iload_n hx hb dX11_tray_4 rfl (lv_at hl 1 rfl) ?_
  obtain ⟨u5, hu5, hf⟩ := bd hf
  refine keepVI (ct_X9_isTray l E a_o_trays a_o_trays_numbers a_o_trays_sorts a_o_trays_sizes v1 u5 hu5) [1] cal_X9_isTray cav_X9_isTray lk_X11_92 cx hP hD hS hl dX11_tray_5 rfl rfl rfl rfl (Nat.le_of_ble_eq_true rfl) ⟨Nat.le_of_ble_eq_true rfl, Nat.le_of_ble_eq_true rfl⟩ rfl (by decide) (fun H locs hP hS => ?_)
  refine lv_if_eq (tgt := 30) hx hb dX11_tray_8 (by decide) (fun hc => ?_) (fun hc => ?_)
  · have hf := it_t hc hf
    exact hj30 _ _ _ _ _ _ _ hf hP hD hS (lv_sub hl [0] rfl)
  · have hf := it_f hc hf
    refine lv_iload_n hx hb dX11_tray_11 rfl (lv_at hl 2 rfl) ?_
    refine lv_iconst (v := 0) hx hb dX11_tray_12 (by decide) ?_
    refine lv_iconst (v := 3) hx hb dX11_tray_13 (by decide) ?_
    obtain ⟨u14, hu14, hf⟩ := bd hf
    refine keepSI (ct_X11_within l E v2 (0 : Int32) (3 : Int32) u14 hu14) [] cal_X11_within sta_X11_within lk_X11_96 cx hP hD hS hl dX11_tray_14 rfl rfl (Nat.le_of_ble_eq_true rfl) ⟨Nat.le_of_ble_eq_true rfl, Nat.le_of_ble_eq_true rfl⟩ rfl (by decide) (fun H locs hP hS => ?_)
    refine lv_if_eq (tgt := 30) hx hb dX11_tray_17 (by decide) (fun hc => ?_) (fun hc => ?_)
    · have hf := it_t hc hf
      exact hj30 _ _ _ _ _ _ _ hf hP hD hS (lv_sub hl [0] rfl)
    · have hf := it_f hc hf
      refine lv_iload_n hx hb dX11_tray_20 rfl (lv_at hl 3 rfl) ?_
      refine lv_iconst (v := 0) hx hb dX11_tray_21 (by decide) ?_
      refine lv_bipush (v := 60) hx hb dX11_tray_22 (by decide) ?_
      obtain ⟨u24, hu24, hf⟩ := bd hf
      refine keepSI (ct_X11_within l E v3 (0 : Int32) (60 : Int32) u24 hu24) [] cal_X11_within sta_X11_within lk_X11_96 cx hP hD hS hl dX11_tray_24 rfl rfl (Nat.le_of_ble_eq_true rfl) ⟨Nat.le_of_ble_eq_true rfl, Nat.le_of_ble_eq_true rfl⟩ rfl (by decide) (fun H locs hP hS => ?_)
      refine lv_if_ne (tgt := 36) hx hb dX11_tray_27 (by decide) (fun hc => ?_) (fun hc => ?_)
      · have hf := it_f hc hf
        refine lv_aload_n hx hb dX11_tray_36 rfl (lv_at hl 0 rfl) ?_
        refine va_get (D := E.1) (ci := 11) (v := .ref a_o_trays) (C := RX11) (T := TX11) (N := 19) hx hb hts inX11 hown hK hP 0 rfl rfl 7 (by decide) (hts _ fl_X11_49) (fun _ h9 => h9) rfl dX11_tray_37 ?_
        refine lv_iload_n hx hb dX11_tray_40 rfl (lv_at hl 1 rfl) ?_
        refine lv_iload_n hx hb dX11_tray_41 rfl (lv_at hl 2 rfl) ?_
        refine lv_iload_n hx hb dX11_tray_42 rfl (lv_at hl 3 rfl) ?_
        obtain ⟨u43, hu43, hf⟩ := bd hf
        refine callVV (wn := (wd_X11_tray E a_o a_o_city a_o_ahead a_o_marks a_o_tape a_o_cityReader a_o_weeksReader a_o_trays a_o_planner a_o_ruler a_o_life a_o_latestLife a_o_trays_numbers a_o_trays_sorts a_o_trays_sizes o_marked o_wasLived o_wasParsed o_faultKind o_faultPlace o_latestStatus o_fractionTop o_fractionBottom u43.1 u43.2.1 u43.2.2)) (n1 := 5) (ct_X9_lay l E F a_o_trays a_o_trays_numbers a_o_trays_sorts a_o_trays_sizes o_trays_numbers o_trays_sorts o_trays_sizes v1 v2 v3 u43 hu43) [1, 2, 3, 4] cal_X9_lay cav_X9_lay lk_X11_103 cx hP hD hS hl dX11_tray_43 rfl rfl rfl rfl (Nat.le_of_ble_eq_true rfl) ⟨Nat.le_of_ble_eq_true rfl, Nat.le_of_ble_eq_true rfl⟩ rfl (by decide +kernel) rfl [none, some 0, some 1, some 2, some 3] rfl (by decide +kernel) rfl (fun H locs hP hD hS => ?_)
        refine lv_aload_n hx hb dX11_tray_46 rfl (lv_at hl 0 rfl) ?_
        obtain ⟨u47, hu47, hf⟩ := bd hf
        refine callVI (wn := (wd_X11_tray E a_o a_o_city a_o_ahead a_o_marks a_o_tape a_o_cityReader a_o_weeksReader a_o_trays a_o_planner a_o_ruler a_o_life a_o_latestLife a_o_trays_numbers a_o_trays_sorts a_o_trays_sizes o_marked o_wasLived o_wasParsed o_faultKind o_faultPlace u47.2 o_fractionTop o_fractionBottom u43.1 u43.2.1 u43.2.2)) (n1 := 5) (ct_X11_accepted l E a_o a_o_city a_o_ahead a_o_marks a_o_tape a_o_cityReader a_o_weeksReader a_o_trays a_o_planner a_o_ruler a_o_life a_o_latestLife o_marked o_wasLived o_wasParsed o_faultKind o_faultPlace o_latestStatus o_fractionTop o_fractionBottom u47 hu47) [0] cal_X11_accepted cav_X11_accepted lk_X11_107 cx hP hD hS hl dX11_tray_47 rfl rfl rfl rfl (Nat.le_of_ble_eq_true rfl) ⟨Nat.le_of_ble_eq_true rfl, Nat.le_of_ble_eq_true rfl⟩ rfl (by decide +kernel) rfl [some 0, none, none, none, none] rfl (by decide +kernel) rfl (fun H locs hP hD hS => ?_)
        obtain ⟨hz, hf⟩ := ck hf
        obtain rfl := Option.some.inj hf
        subst hq
        exact retZ cx hz hP hD hS dX11_tray_50
      · have hf := it_t hc hf
        exact hj30 _ _ _ _ _ _ _ hf hP hD hS (lv_sub hl [0] rfl)
def X11_placeStatus_j43 (o_trays_sizes : Nat → Int32) : Option (Int32) :=
  some 3
def X11_placeStatus (o_trays_sizes : Nat → Int32) (v1 : Int32) (v2 : Int32) : Option (Int32) :=
  (X9_isTray v1).bind fun u5 =>
  if u5 = 0 then
  some 1
  else
  (X9_isMissing o_trays_sizes v1).bind fun u18 =>
  if u18 = 0 then
  if v2 < 0 then
  X11_placeStatus_j43 o_trays_sizes
  else
  (X9_hasRange o_trays_sizes v1 v2 (1 : Int32)).bind fun u37 =>
  if u37 = 0 then
  X11_placeStatus_j43 o_trays_sizes
  else
  some 0
  else
  some 2
abbrev wd_X11_placeStatus (E : vE) (a_o a_o_city a_o_ahead a_o_marks a_o_tape a_o_cityReader a_o_weeksReader a_o_trays a_o_planner a_o_ruler a_o_life a_o_latestLife a_o_trays_numbers a_o_trays_sorts a_o_trays_sizes : Nat) (o_marked : Int32) (o_wasLived : Int32) (o_wasParsed : Int32) (o_faultKind : Int32) (o_faultPlace : Int32) (o_latestStatus : Int32) (o_fractionTop : Int64) (o_fractionBottom : Int64) (o_trays_sizes : Nat → Int32) : va_W := [(a_o, .inr (11, [.ref a_o_city, .ref a_o_ahead, .ref a_o_marks, .int o_marked, .ref a_o_tape, .ref a_o_cityReader, .ref a_o_weeksReader, .ref a_o_trays, .ref a_o_planner, .ref a_o_ruler, .ref a_o_life, .ref a_o_latestLife, .int o_wasLived, .int o_wasParsed, .int o_faultKind, .int o_faultPlace, .int o_latestStatus, .long o_fractionTop, .long o_fractionBottom])), (a_o_trays, .inr (9, [.ref a_o_trays_numbers, .ref a_o_trays_sorts, .ref a_o_trays_sizes])), (a_o_trays_sizes, .inl (E.2.1, 4, .inl o_trays_sizes))]
set_option maxHeartbeats 4000000 in
set_option maxRecDepth 100000 in
theorem ct_X11_placeStatus (l : Launch) (E : vE) (a_o a_o_city a_o_ahead a_o_marks a_o_tape a_o_cityReader a_o_weeksReader a_o_trays a_o_planner a_o_ruler a_o_life a_o_latestLife a_o_trays_numbers a_o_trays_sorts a_o_trays_sizes : Nat) (o_marked : Int32) (o_wasLived : Int32) (o_wasParsed : Int32) (o_faultKind : Int32) (o_faultPlace : Int32) (o_latestStatus : Int32) (o_fractionTop : Int64) (o_fractionBottom : Int64) (o_trays_sizes : Nat → Int32) (v1 : Int32) (v2 : Int32) (u : Int32) (hf : X11_placeStatus o_trays_sizes v1 v2 = some u) :
    CtI l yX11_placeStatus cX11_placeStatus 3 (some .int) 2 E [.ref a_o, .int v1, .int v2] (wd_X11_placeStatus E a_o a_o_city a_o_ahead a_o_marks a_o_tape a_o_cityReader a_o_weeksReader a_o_trays a_o_planner a_o_ruler a_o_life a_o_latestLife a_o_trays_numbers a_o_trays_sorts a_o_trays_sizes o_marked o_wasLived o_wasParsed o_faultKind o_faultPlace o_latestStatus o_fractionTop o_fractionBottom o_trays_sizes) (wd_X11_placeStatus E a_o a_o_city a_o_ahead a_o_marks a_o_tape a_o_cityReader a_o_weeksReader a_o_trays a_o_planner a_o_ruler a_o_life a_o_latestLife a_o_trays_numbers a_o_trays_sorts a_o_trays_sizes o_marked o_wasLived o_wasParsed o_faultKind o_faultPlace o_latestStatus o_fractionTop o_fractionBottom o_trays_sizes) u := by
  refine ctI (by decide) (Nat.le_of_ble_eq_true rfl) ?_
  intro p e s m below meth cd A ls aa QQ hq cx hP hD hS hl
  obtain ⟨⟨hx, hb, hml, hown, hts⟩, hr, hlocks, hK, hA, hX⟩ := id cx
  have hl : lv_has ls 3 [(0, .ref a_o), (1, .int v1), (2, .int v2)] := hl
  have hj43 : ∀ (H : Heap) (locs : List Loc) (ls : Array Slot), X11_placeStatus_j43 o_trays_sizes = some u → va_P E.1 vwCl (wd_X11_placeStatus E a_o a_o_city a_o_ahead a_o_marks a_o_tape a_o_cityReader a_o_weeksReader a_o_trays a_o_planner a_o_ruler a_o_life a_o_latestLife a_o_trays_numbers a_o_trays_sorts a_o_trays_sizes o_marked o_wasLived o_wasParsed o_faultKind o_faultPlace o_latestStatus o_fractionTop o_fractionBottom o_trays_sizes) H → va_D A (wd_X11_placeStatus E a_o a_o_city a_o_ahead a_o_marks a_o_tape a_o_cityReader a_o_weeksReader a_o_trays a_o_planner a_o_ruler a_o_life a_o_latestLife a_o_trays_numbers a_o_trays_sorts a_o_trays_sizes o_marked o_wasLived o_wasParsed o_faultKind o_faultPlace o_latestStatus o_fractionTop o_fractionBottom o_trays_sizes) → va_S A s.heap H locs → lv_has ls 3 [] → W p l e (rmd 2) s m aa below meth cd H locs 0 0 QQ (F0 m 43 ls []) := by
    intro H locs ls hf hP hD hS hl
    unfold X11_placeStatus_j43 at hf
    refine lv_iconst (v := 3) hx hb dX11_placeStatus_43 (by decide) ?_
    refine lv_goto (tgt := 48) hx hb dX11_placeStatus_44 (by decide) ?_
    obtain rfl := Option.some.inj hf
    subst hq
    exact retI cx hP hD hS dX11_placeStatus_48
  unfold X11_placeStatus at hf
  refine lv_aload_n hx hb dX11_placeStatus_0 rfl (lv_at hl 0 rfl) ?_
  refine va_get (D := E.1) (ci := 11) (v := .ref a_o_trays) (C := RX11) (T := TX11) (N := 19) hx hb hts inX11 hown hK hP 0 rfl rfl 7 (by decide) (hts _ fl_X11_49) (fun _ h9 => h9) rfl dX11_placeStatus_1 ?_
  refine lv_iload_n hx hb dX11_placeStatus_4 rfl (lv_at hl 1 rfl) ?_
  obtain ⟨u5, hu5, hf⟩ := bd hf
  refine keepVI (ct_X9_isTray l E a_o_trays a_o_trays_numbers a_o_trays_sorts a_o_trays_sizes v1 u5 hu5) [1] cal_X9_isTray cav_X9_isTray lk_X11_92 cx hP hD hS hl dX11_placeStatus_5 rfl rfl rfl rfl (Nat.le_of_ble_eq_true rfl) ⟨Nat.le_of_ble_eq_true rfl, Nat.le_of_ble_eq_true rfl⟩ rfl (by decide) (fun H locs hP hS => ?_)
  refine lv_if_ne (tgt := 13) hx hb dX11_placeStatus_8 (by decide) (fun hc => ?_) (fun hc => ?_)
  · have hf := it_f hc hf
    refine lv_aload_n hx hb dX11_placeStatus_13 rfl (lv_at hl 0 rfl) ?_
    refine va_get (D := E.1) (ci := 11) (v := .ref a_o_trays) (C := RX11) (T := TX11) (N := 19) hx hb hts inX11 hown hK hP 0 rfl rfl 7 (by decide) (hts _ fl_X11_49) (fun _ h9 => h9) rfl dX11_placeStatus_14 ?_
    refine lv_iload_n hx hb dX11_placeStatus_17 rfl (lv_at hl 1 rfl) ?_
    obtain ⟨u18, hu18, hf⟩ := bd hf
    refine keepVI (ct_X9_isMissing l E a_o_trays a_o_trays_numbers a_o_trays_sorts a_o_trays_sizes o_trays_sizes v1 u18 hu18) [1, 2] cal_X9_isMissing cav_X9_isMissing lk_X11_127 cx hP hD hS hl dX11_placeStatus_18 rfl rfl rfl rfl (Nat.le_of_ble_eq_true rfl) ⟨Nat.le_of_ble_eq_true rfl, Nat.le_of_ble_eq_true rfl⟩ rfl (by decide) (fun H locs hP hS => ?_)
    refine lv_if_eq (tgt := 26) hx hb dX11_placeStatus_21 (by decide) (fun hc => ?_) (fun hc => ?_)
    · have hf := it_t hc hf
      refine lv_iload_n hx hb dX11_placeStatus_26 rfl (lv_at hl 2 rfl) ?_
      refine lv_if_lt (tgt := 43) hx hb dX11_placeStatus_27 (by decide) (fun hc => ?_) (fun hc => ?_)
      · have hf := it_t hc hf
        exact hj43  _ _ _ hf hP hD hS (lv_sub hl [] rfl)
      · have hf := it_f hc hf
        refine lv_aload_n hx hb dX11_placeStatus_30 rfl (lv_at hl 0 rfl) ?_
        refine va_get (D := E.1) (ci := 11) (v := .ref a_o_trays) (C := RX11) (T := TX11) (N := 19) hx hb hts inX11 hown hK hP 0 rfl rfl 7 (by decide) (hts _ fl_X11_49) (fun _ h9 => h9) rfl dX11_placeStatus_31 ?_
        refine lv_iload_n hx hb dX11_placeStatus_34 rfl (lv_at hl 1 rfl) ?_
        refine lv_iload_n hx hb dX11_placeStatus_35 rfl (lv_at hl 2 rfl) ?_
        refine lv_iconst (v := 1) hx hb dX11_placeStatus_36 (by decide) ?_
        obtain ⟨u37, hu37, hf⟩ := bd hf
        refine keepVI (ct_X9_hasRange l E a_o_trays a_o_trays_numbers a_o_trays_sorts a_o_trays_sizes o_trays_sizes v1 v2 (1 : Int32) u37 hu37) [1, 2] cal_X9_hasRange cav_X9_hasRange lk_X11_133 cx hP hD hS hl dX11_placeStatus_37 rfl rfl rfl rfl (Nat.le_of_ble_eq_true rfl) ⟨Nat.le_of_ble_eq_true rfl, Nat.le_of_ble_eq_true rfl⟩ rfl (by decide) (fun H locs hP hS => ?_)
        refine lv_if_ne (tgt := 47) hx hb dX11_placeStatus_40 (by decide) (fun hc => ?_) (fun hc => ?_)
        · have hf := it_f hc hf
          refine lv_iconst (v := 0) hx hb dX11_placeStatus_47 (by decide) ?_
          obtain rfl := Option.some.inj hf
          subst hq
          exact retI cx hP hD hS dX11_placeStatus_48
        · have hf := it_t hc hf
          exact hj43  _ _ _ hf hP hD hS (lv_sub hl [] rfl)
    · have hf := it_f hc hf
      refine lv_iconst (v := 2) hx hb dX11_placeStatus_24 (by decide) ?_
      obtain rfl := Option.some.inj hf
      subst hq
      exact retI cx hP hD hS dX11_placeStatus_25
  · have hf := it_t hc hf
    refine lv_iconst (v := 1) hx hb dX11_placeStatus_11 (by decide) ?_
    obtain rfl := Option.some.inj hf
    subst hq
    exact retI cx hP hD hS dX11_placeStatus_12
def X11_write (o_latestStatus : Int32) (o_trays_numbers : Nat → Int64) (o_trays_sorts : Nat → Int32) (o_trays_sizes : Nat → Int32) (v1 : Int32) (v2 : Int32) (v3 : Int64) : Option (Int32 × Int32 × (Nat → Int64)) :=
  (X11_placeStatus o_trays_sizes v1 v2).bind fun u3 =>
  if u3 = 0 then
  (X9_set o_trays_numbers o_trays_sorts o_trays_sizes v1 v2 v3).bind fun u27 =>
  (X11_accepted o_latestStatus).bind fun u31 =>
  if isZ u31.1 then some (u31.1, u31.2, u27) else none
  else
  (X11_refused o_latestStatus u3).bind fun u16 =>
  if isZ u16.1 then some (u16.1, u16.2, o_trays_numbers) else none
abbrev wd_X11_write (E : vE) (a_o a_o_city a_o_ahead a_o_marks a_o_tape a_o_cityReader a_o_weeksReader a_o_trays a_o_planner a_o_ruler a_o_life a_o_latestLife a_o_trays_numbers a_o_trays_sorts a_o_trays_sizes : Nat) (o_marked : Int32) (o_wasLived : Int32) (o_wasParsed : Int32) (o_faultKind : Int32) (o_faultPlace : Int32) (o_latestStatus : Int32) (o_fractionTop : Int64) (o_fractionBottom : Int64) (o_trays_numbers : Nat → Int64) (o_trays_sorts : Nat → Int32) (o_trays_sizes : Nat → Int32) : va_W := [(a_o, .inr (11, [.ref a_o_city, .ref a_o_ahead, .ref a_o_marks, .int o_marked, .ref a_o_tape, .ref a_o_cityReader, .ref a_o_weeksReader, .ref a_o_trays, .ref a_o_planner, .ref a_o_ruler, .ref a_o_life, .ref a_o_latestLife, .int o_wasLived, .int o_wasParsed, .int o_faultKind, .int o_faultPlace, .int o_latestStatus, .long o_fractionTop, .long o_fractionBottom])), (a_o_trays, .inr (9, [.ref a_o_trays_numbers, .ref a_o_trays_sorts, .ref a_o_trays_sizes])), (a_o_trays_numbers, .inl (E.2.2.1, 240, .inr (.inl o_trays_numbers))), (a_o_trays_sorts, .inl (E.2.1, 4, .inl o_trays_sorts)), (a_o_trays_sizes, .inl (E.2.1, 4, .inl o_trays_sizes))]
set_option maxHeartbeats 4000000 in
set_option maxRecDepth 100000 in
theorem ct_X11_write (l : Launch) (E : vE) (a_o a_o_city a_o_ahead a_o_marks a_o_tape a_o_cityReader a_o_weeksReader a_o_trays a_o_planner a_o_ruler a_o_life a_o_latestLife a_o_trays_numbers a_o_trays_sorts a_o_trays_sizes : Nat) (o_marked : Int32) (o_wasLived : Int32) (o_wasParsed : Int32) (o_faultKind : Int32) (o_faultPlace : Int32) (o_latestStatus : Int32) (o_fractionTop : Int64) (o_fractionBottom : Int64) (o_trays_numbers : Nat → Int64) (o_trays_sorts : Nat → Int32) (o_trays_sizes : Nat → Int32) (v1 : Int32) (v2 : Int32) (v3 : Int64) (u : Int32 × Int32 × (Nat → Int64)) (hf : X11_write o_latestStatus o_trays_numbers o_trays_sorts o_trays_sizes v1 v2 v3 = some u) :
    CtI l yX11_write cX11_write 6 (some .boolean) 3 E [.ref a_o, .int v1, .int v2, .long v3] (wd_X11_write E a_o a_o_city a_o_ahead a_o_marks a_o_tape a_o_cityReader a_o_weeksReader a_o_trays a_o_planner a_o_ruler a_o_life a_o_latestLife a_o_trays_numbers a_o_trays_sorts a_o_trays_sizes o_marked o_wasLived o_wasParsed o_faultKind o_faultPlace o_latestStatus o_fractionTop o_fractionBottom o_trays_numbers o_trays_sorts o_trays_sizes) (wd_X11_write E a_o a_o_city a_o_ahead a_o_marks a_o_tape a_o_cityReader a_o_weeksReader a_o_trays a_o_planner a_o_ruler a_o_life a_o_latestLife a_o_trays_numbers a_o_trays_sorts a_o_trays_sizes o_marked o_wasLived o_wasParsed o_faultKind o_faultPlace u.2.1 o_fractionTop o_fractionBottom u.2.2 o_trays_sorts o_trays_sizes) u.1 := by
  refine ctI (by decide) (Nat.le_of_ble_eq_true rfl) ?_
  intro p e s m below meth cd A ls aa QQ hq cx hP hD hS hl
  obtain ⟨⟨hx, hb, hml, hown, hts⟩, hr, hlocks, hK, hA, hX⟩ := id cx
  have hl : lv_has ls 6 [(0, .ref a_o), (1, .int v1), (2, .int v2), (3, .long v3)] := hl
  unfold X11_write at hf
  refine lv_aload_n hx hb dX11_write_0 rfl (lv_at hl 0 rfl) ?_
  refine lv_iload_n hx hb dX11_write_1 rfl (lv_at hl 1 rfl) ?_
  refine lv_iload_n hx hb dX11_write_2 rfl (lv_at hl 2 rfl) ?_
  obtain ⟨u3, hu3, hf⟩ := bd hf
  refine keepVI (ct_X11_placeStatus l E a_o a_o_city a_o_ahead a_o_marks a_o_tape a_o_cityReader a_o_weeksReader a_o_trays a_o_planner a_o_ruler a_o_life a_o_latestLife a_o_trays_numbers a_o_trays_sorts a_o_trays_sizes o_marked o_wasLived o_wasParsed o_faultKind o_faultPlace o_latestStatus o_fractionTop o_fractionBottom o_trays_sizes v1 v2 u3 hu3) [0, 1, 4] cal_X11_placeStatus cav_X11_placeStatus lk_X11_111 cx hP hD hS hl dX11_write_3 rfl rfl rfl rfl (Nat.le_of_ble_eq_true rfl) ⟨Nat.le_of_ble_eq_true rfl, Nat.le_of_ble_eq_true rfl⟩ rfl (by decide) (fun H locs hP hS => ?_)
  refine lv_istore (lv' := [(5, .int u3), (0, .ref a_o), (1, .int v1), (2, .int v2), (3, .long v3)]) hx hb dX11_write_6 hl (by decide) rfl (fun ls hl => ?_)
  refine lv_iload hx hb dX11_write_8 (lv_at hl 0 rfl) ?_
  refine lv_if_eq (tgt := 20) hx hb dX11_write_10 (by decide) (fun hc => ?_) (fun hc => ?_)
  · have hf := it_t hc hf
    refine lv_aload_n hx hb dX11_write_20 rfl (lv_at hl 1 rfl) ?_
    refine va_get (D := E.1) (ci := 11) (v := .ref a_o_trays) (C := RX11) (T := TX11) (N := 19) hx hb hts inX11 hown hK hP 0 rfl rfl 7 (by decide) (hts _ fl_X11_49) (fun _ h9 => h9) rfl dX11_write_21 ?_
    refine lv_iload_n hx hb dX11_write_24 rfl (lv_at hl 2 rfl) ?_
    refine lv_iload_n hx hb dX11_write_25 rfl (lv_at hl 3 rfl) ?_
    refine lv_lload_n hx hb dX11_write_26 rfl (lv_at hl 4 rfl) ?_
    obtain ⟨u27, hu27, hf⟩ := bd hf
    refine callVV (wn := (wd_X11_write E a_o a_o_city a_o_ahead a_o_marks a_o_tape a_o_cityReader a_o_weeksReader a_o_trays a_o_planner a_o_ruler a_o_life a_o_latestLife a_o_trays_numbers a_o_trays_sorts a_o_trays_sizes o_marked o_wasLived o_wasParsed o_faultKind o_faultPlace o_latestStatus o_fractionTop o_fractionBottom u27 o_trays_sorts o_trays_sizes)) (n1 := 5) (ct_X9_set l E a_o_trays a_o_trays_numbers a_o_trays_sorts a_o_trays_sizes o_trays_numbers o_trays_sorts o_trays_sizes v1 v2 v3 u27 hu27) [1, 2, 3, 4] cal_X9_set cav_X9_set lk_X11_115 cx hP hD hS hl dX11_write_27 rfl rfl rfl rfl (Nat.le_of_ble_eq_true rfl) ⟨Nat.le_of_ble_eq_true rfl, Nat.le_of_ble_eq_true rfl⟩ rfl (by decide +kernel) rfl [none, some 0, some 1, some 2, some 3] rfl (by decide +kernel) rfl (fun H locs hP hD hS => ?_)
    refine lv_aload_n hx hb dX11_write_30 rfl (lv_at hl 1 rfl) ?_
    obtain ⟨u31, hu31, hf⟩ := bd hf
    refine callVI (wn := (wd_X11_write E a_o a_o_city a_o_ahead a_o_marks a_o_tape a_o_cityReader a_o_weeksReader a_o_trays a_o_planner a_o_ruler a_o_life a_o_latestLife a_o_trays_numbers a_o_trays_sorts a_o_trays_sizes o_marked o_wasLived o_wasParsed o_faultKind o_faultPlace u31.2 o_fractionTop o_fractionBottom u27 o_trays_sorts o_trays_sizes)) (n1 := 5) (ct_X11_accepted l E a_o a_o_city a_o_ahead a_o_marks a_o_tape a_o_cityReader a_o_weeksReader a_o_trays a_o_planner a_o_ruler a_o_life a_o_latestLife o_marked o_wasLived o_wasParsed o_faultKind o_faultPlace o_latestStatus o_fractionTop o_fractionBottom u31 hu31) [0] cal_X11_accepted cav_X11_accepted lk_X11_107 cx hP hD hS hl dX11_write_31 rfl rfl rfl rfl (Nat.le_of_ble_eq_true rfl) ⟨Nat.le_of_ble_eq_true rfl, Nat.le_of_ble_eq_true rfl⟩ rfl (by decide +kernel) rfl [some 0, none, none, none, none] rfl (by decide +kernel) rfl (fun H locs hP hD hS => ?_)
    obtain ⟨hz, hf⟩ := ck hf
    obtain rfl := Option.some.inj hf
    subst hq
    exact retZ cx hz hP hD hS dX11_write_34
  · have hf := it_f hc hf
    refine lv_aload_n hx hb dX11_write_13 rfl (lv_at hl 1 rfl) ?_
    refine lv_iload hx hb dX11_write_14 (lv_at hl 0 rfl) ?_
    obtain ⟨u16, hu16, hf⟩ := bd hf
    refine callVI (wn := (wd_X11_write E a_o a_o_city a_o_ahead a_o_marks a_o_tape a_o_cityReader a_o_weeksReader a_o_trays a_o_planner a_o_ruler a_o_life a_o_latestLife a_o_trays_numbers a_o_trays_sorts a_o_trays_sizes o_marked o_wasLived o_wasParsed o_faultKind o_faultPlace u16.2 o_fractionTop o_fractionBottom o_trays_numbers o_trays_sorts o_trays_sizes)) (n1 := 5) (ct_X11_refused l E a_o a_o_city a_o_ahead a_o_marks a_o_tape a_o_cityReader a_o_weeksReader a_o_trays a_o_planner a_o_ruler a_o_life a_o_latestLife o_marked o_wasLived o_wasParsed o_faultKind o_faultPlace o_latestStatus o_fractionTop o_fractionBottom u3 u16 hu16) [0] cal_X11_refused cav_X11_refused lk_X11_100 cx hP hD hS hl dX11_write_16 rfl rfl rfl rfl (Nat.le_of_ble_eq_true rfl) ⟨Nat.le_of_ble_eq_true rfl, Nat.le_of_ble_eq_true rfl⟩ rfl (by decide +kernel) rfl [some 0, none, none, none, none] rfl (by decide +kernel) rfl (fun H locs hP hD hS => ?_)
    obtain ⟨hz, hf⟩ := ck hf
    obtain rfl := Option.some.inj hf
    subst hq
    exact retZ cx hz hP hD hS dX11_write_19
def X11_none (o_latestStatus : Int32) (v1 : Int32) : Option (Int32 × Int32) :=
  some ((-1), v1)
abbrev wd_X11_none (E : vE) (a_o a_o_city a_o_ahead a_o_marks a_o_tape a_o_cityReader a_o_weeksReader a_o_trays a_o_planner a_o_ruler a_o_life a_o_latestLife : Nat) (o_marked : Int32) (o_wasLived : Int32) (o_wasParsed : Int32) (o_faultKind : Int32) (o_faultPlace : Int32) (o_latestStatus : Int32) (o_fractionTop : Int64) (o_fractionBottom : Int64) : va_W := [(a_o, .inr (11, [.ref a_o_city, .ref a_o_ahead, .ref a_o_marks, .int o_marked, .ref a_o_tape, .ref a_o_cityReader, .ref a_o_weeksReader, .ref a_o_trays, .ref a_o_planner, .ref a_o_ruler, .ref a_o_life, .ref a_o_latestLife, .int o_wasLived, .int o_wasParsed, .int o_faultKind, .int o_faultPlace, .int o_latestStatus, .long o_fractionTop, .long o_fractionBottom]))]
set_option maxHeartbeats 4000000 in
set_option maxRecDepth 100000 in
theorem ct_X11_none (l : Launch) (E : vE) (a_o a_o_city a_o_ahead a_o_marks a_o_tape a_o_cityReader a_o_weeksReader a_o_trays a_o_planner a_o_ruler a_o_life a_o_latestLife : Nat) (o_marked : Int32) (o_wasLived : Int32) (o_wasParsed : Int32) (o_faultKind : Int32) (o_faultPlace : Int32) (o_latestStatus : Int32) (o_fractionTop : Int64) (o_fractionBottom : Int64) (v1 : Int32) (u : Int32 × Int32) (hf : X11_none o_latestStatus v1 = some u) :
    CtI l yX11_none cX11_none 2 (some .int) 0 E [.ref a_o, .int v1] (wd_X11_none E a_o a_o_city a_o_ahead a_o_marks a_o_tape a_o_cityReader a_o_weeksReader a_o_trays a_o_planner a_o_ruler a_o_life a_o_latestLife o_marked o_wasLived o_wasParsed o_faultKind o_faultPlace o_latestStatus o_fractionTop o_fractionBottom) (wd_X11_none E a_o a_o_city a_o_ahead a_o_marks a_o_tape a_o_cityReader a_o_weeksReader a_o_trays a_o_planner a_o_ruler a_o_life a_o_latestLife o_marked o_wasLived o_wasParsed o_faultKind o_faultPlace u.2 o_fractionTop o_fractionBottom) u.1 := by
  refine ctI (by decide) (Nat.le_of_ble_eq_true rfl) ?_
  intro p e s m below meth cd A ls aa QQ hq cx hP hD hS hl
  obtain ⟨⟨hx, hb, hml, hown, hts⟩, hr, hlocks, hK, hA, hX⟩ := id cx
  have hl : lv_has ls 2 [(0, .ref a_o), (1, .int v1)] := hl
  unfold X11_none at hf
  refine lv_aload_n hx hb dX11_none_0 rfl (lv_at hl 0 rfl) ?_
  refine lv_iload_n hx hb dX11_none_1 rfl (lv_at hl 1 rfl) ?_
  refine va_put (D := E.1) (ci := 11) (v := .int v1) (ty := .int) (C := RX11) (T := TX11) (N := 19) hx hb hts inX11 tyX11 tyX11_ok nmX11 hown hK hP hD hS 0 rfl rfl 16 (by decide) (hts _ fl_X11_86) (fun _ h9 => h9) rfl (by decide +kernel) rfl rfl (Nat.le_of_ble_eq_true rfl) dX11_none_2 (fun H locs hP hD hS => ?_)
  have hP : va_P E.1 vwCl (wd_X11_none E a_o a_o_city a_o_ahead a_o_marks a_o_tape a_o_cityReader a_o_weeksReader a_o_trays a_o_planner a_o_ruler a_o_life a_o_latestLife o_marked o_wasLived o_wasParsed o_faultKind o_faultPlace v1 o_fractionTop o_fractionBottom) H := hP
  have hD : va_D A (wd_X11_none E a_o a_o_city a_o_ahead a_o_marks a_o_tape a_o_cityReader a_o_weeksReader a_o_trays a_o_planner a_o_ruler a_o_life a_o_latestLife o_marked o_wasLived o_wasParsed o_faultKind o_faultPlace v1 o_fractionTop o_fractionBottom) := hD
  refine lv_iconst (v := (-1)) hx hb dX11_none_5 (by decide) ?_
  obtain rfl := Option.some.inj hf
  subst hq
  exact retI cx hP hD hS dX11_none_6
def X11_read (o_latestStatus : Int32) (o_trays_numbers : Nat → Int64) (o_trays_sizes : Nat → Int32) (v1 : Int32) (v2 : Int32) : Option (Int64 × Int32) :=
  (X11_placeStatus o_trays_sizes v1 v2).bind fun u3 =>
  if u3 = 0 then
  (X9_get o_trays_numbers o_trays_sizes v1 v2).bind fun u29 =>
  some (u29, 0)
  else
  (X11_none o_latestStatus u3).bind fun u13 =>
  some ((u13.1.toInt64), u13.2)
abbrev wd_X11_read (E : vE) (a_o a_o_city a_o_ahead a_o_marks a_o_tape a_o_cityReader a_o_weeksReader a_o_trays a_o_planner a_o_ruler a_o_life a_o_latestLife a_o_trays_numbers a_o_trays_sorts a_o_trays_sizes : Nat) (o_marked : Int32) (o_wasLived : Int32) (o_wasParsed : Int32) (o_faultKind : Int32) (o_faultPlace : Int32) (o_latestStatus : Int32) (o_fractionTop : Int64) (o_fractionBottom : Int64) (o_trays_numbers : Nat → Int64) (o_trays_sizes : Nat → Int32) : va_W := [(a_o, .inr (11, [.ref a_o_city, .ref a_o_ahead, .ref a_o_marks, .int o_marked, .ref a_o_tape, .ref a_o_cityReader, .ref a_o_weeksReader, .ref a_o_trays, .ref a_o_planner, .ref a_o_ruler, .ref a_o_life, .ref a_o_latestLife, .int o_wasLived, .int o_wasParsed, .int o_faultKind, .int o_faultPlace, .int o_latestStatus, .long o_fractionTop, .long o_fractionBottom])), (a_o_trays, .inr (9, [.ref a_o_trays_numbers, .ref a_o_trays_sorts, .ref a_o_trays_sizes])), (a_o_trays_numbers, .inl (E.2.2.1, 240, .inr (.inl o_trays_numbers))), (a_o_trays_sizes, .inl (E.2.1, 4, .inl o_trays_sizes))]
set_option maxHeartbeats 4000000 in
set_option maxRecDepth 100000 in
theorem ct_X11_read (l : Launch) (E : vE) (a_o a_o_city a_o_ahead a_o_marks a_o_tape a_o_cityReader a_o_weeksReader a_o_trays a_o_planner a_o_ruler a_o_life a_o_latestLife a_o_trays_numbers a_o_trays_sorts a_o_trays_sizes : Nat) (o_marked : Int32) (o_wasLived : Int32) (o_wasParsed : Int32) (o_faultKind : Int32) (o_faultPlace : Int32) (o_latestStatus : Int32) (o_fractionTop : Int64) (o_fractionBottom : Int64) (o_trays_numbers : Nat → Int64) (o_trays_sizes : Nat → Int32) (v1 : Int32) (v2 : Int32) (u : Int64 × Int32) (hf : X11_read o_latestStatus o_trays_numbers o_trays_sizes v1 v2 = some u) :
    CtL l yX11_read cX11_read 4 (some .long) 3 E [.ref a_o, .int v1, .int v2] (wd_X11_read E a_o a_o_city a_o_ahead a_o_marks a_o_tape a_o_cityReader a_o_weeksReader a_o_trays a_o_planner a_o_ruler a_o_life a_o_latestLife a_o_trays_numbers a_o_trays_sorts a_o_trays_sizes o_marked o_wasLived o_wasParsed o_faultKind o_faultPlace o_latestStatus o_fractionTop o_fractionBottom o_trays_numbers o_trays_sizes) (wd_X11_read E a_o a_o_city a_o_ahead a_o_marks a_o_tape a_o_cityReader a_o_weeksReader a_o_trays a_o_planner a_o_ruler a_o_life a_o_latestLife a_o_trays_numbers a_o_trays_sorts a_o_trays_sizes o_marked o_wasLived o_wasParsed o_faultKind o_faultPlace u.2 o_fractionTop o_fractionBottom o_trays_numbers o_trays_sizes) u.1 := by
  refine ctL (by decide) (Nat.le_of_ble_eq_true rfl) ?_
  intro p e s m below meth cd A ls aa QQ hq cx hP hD hS hl
  obtain ⟨⟨hx, hb, hml, hown, hts⟩, hr, hlocks, hK, hA, hX⟩ := id cx
  have hl : lv_has ls 4 [(0, .ref a_o), (1, .int v1), (2, .int v2)] := hl
  unfold X11_read at hf
  refine lv_aload_n hx hb dX11_read_0 rfl (lv_at hl 0 rfl) ?_
  refine lv_iload_n hx hb dX11_read_1 rfl (lv_at hl 1 rfl) ?_
  refine lv_iload_n hx hb dX11_read_2 rfl (lv_at hl 2 rfl) ?_
  obtain ⟨u3, hu3, hf⟩ := bd hf
  refine keepVI (ct_X11_placeStatus l E a_o a_o_city a_o_ahead a_o_marks a_o_tape a_o_cityReader a_o_weeksReader a_o_trays a_o_planner a_o_ruler a_o_life a_o_latestLife a_o_trays_numbers a_o_trays_sorts a_o_trays_sizes o_marked o_wasLived o_wasParsed o_faultKind o_faultPlace o_latestStatus o_fractionTop o_fractionBottom o_trays_sizes v1 v2 u3 hu3) [0, 1, 3] cal_X11_placeStatus cav_X11_placeStatus lk_X11_111 cx hP hD hS hl dX11_read_3 rfl rfl rfl rfl (Nat.le_of_ble_eq_true rfl) ⟨Nat.le_of_ble_eq_true rfl, Nat.le_of_ble_eq_true rfl⟩ rfl (by decide) (fun H locs hP hS => ?_)
  refine lv_istore_n (lv' := [(3, .int u3), (0, .ref a_o), (1, .int v1), (2, .int v2)]) hx hb dX11_read_6 rfl hl (by decide) rfl (fun ls hl => ?_)
  refine lv_iload_n hx hb dX11_read_7 rfl (lv_at hl 0 rfl) ?_
  refine lv_if_eq (tgt := 18) hx hb dX11_read_8 (by decide) (fun hc => ?_) (fun hc => ?_)
  · have hf := it_t hc hf
    refine lv_aload_n hx hb dX11_read_18 rfl (lv_at hl 1 rfl) ?_
    refine lv_iconst (v := 0) hx hb dX11_read_19 (by decide) ?_
    refine va_put (D := E.1) (ci := 11) (v := .int 0) (ty := .int) (C := RX11) (T := TX11) (N := 19) hx hb hts inX11 tyX11 tyX11_ok nmX11 hown hK hP hD hS 0 rfl rfl 16 (by decide) (hts _ fl_X11_86) (fun _ h9 => h9) rfl (by decide +kernel) rfl rfl (Nat.le_of_ble_eq_true rfl) dX11_read_20 (fun H locs hP hD hS => ?_)
    have hP : va_P E.1 vwCl (wd_X11_read E a_o a_o_city a_o_ahead a_o_marks a_o_tape a_o_cityReader a_o_weeksReader a_o_trays a_o_planner a_o_ruler a_o_life a_o_latestLife a_o_trays_numbers a_o_trays_sorts a_o_trays_sizes o_marked o_wasLived o_wasParsed o_faultKind o_faultPlace 0 o_fractionTop o_fractionBottom o_trays_numbers o_trays_sizes) H := hP
    have hD : va_D A (wd_X11_read E a_o a_o_city a_o_ahead a_o_marks a_o_tape a_o_cityReader a_o_weeksReader a_o_trays a_o_planner a_o_ruler a_o_life a_o_latestLife a_o_trays_numbers a_o_trays_sorts a_o_trays_sizes o_marked o_wasLived o_wasParsed o_faultKind o_faultPlace 0 o_fractionTop o_fractionBottom o_trays_numbers o_trays_sizes) := hD
    refine lv_aload_n hx hb dX11_read_23 rfl (lv_at hl 1 rfl) ?_
    refine va_get (D := E.1) (ci := 11) (v := .ref a_o_trays) (C := RX11) (T := TX11) (N := 19) hx hb hts inX11 hown hK hP 0 rfl rfl 7 (by decide) (hts _ fl_X11_49) (fun _ h9 => h9) rfl dX11_read_24 ?_
    refine lv_iload_n hx hb dX11_read_27 rfl (lv_at hl 2 rfl) ?_
    refine lv_iload_n hx hb dX11_read_28 rfl (lv_at hl 3 rfl) ?_
    obtain ⟨u29, hu29, hf⟩ := bd hf
    refine keepVL (ct_X9_get l E a_o_trays a_o_trays_numbers a_o_trays_sorts a_o_trays_sizes o_trays_numbers o_trays_sizes v1 v2 u29 hu29) [1, 2, 3] cal_X9_get cav_X9_get lk_X11_123 cx hP hD hS hl dX11_read_29 rfl rfl rfl rfl (Nat.le_of_ble_eq_true rfl) ⟨Nat.le_of_ble_eq_true rfl, Nat.le_of_ble_eq_true rfl⟩ rfl (by decide) (fun H locs hP hS => ?_)
    obtain rfl := Option.some.inj hf
    subst hq
    exact retL cx hP hD hS dX11_read_32
  · have hf := it_f hc hf
    refine lv_aload_n hx hb dX11_read_11 rfl (lv_at hl 1 rfl) ?_
    refine lv_iload_n hx hb dX11_read_12 rfl (lv_at hl 0 rfl) ?_
    obtain ⟨u13, hu13, hf⟩ := bd hf
    refine callVI (wn := (wd_X11_read E a_o a_o_city a_o_ahead a_o_marks a_o_tape a_o_cityReader a_o_weeksReader a_o_trays a_o_planner a_o_ruler a_o_life a_o_latestLife a_o_trays_numbers a_o_trays_sorts a_o_trays_sizes o_marked o_wasLived o_wasParsed o_faultKind o_faultPlace u13.2 o_fractionTop o_fractionBottom o_trays_numbers o_trays_sizes)) (n1 := 4) (ct_X11_none l E a_o a_o_city a_o_ahead a_o_marks a_o_tape a_o_cityReader a_o_weeksReader a_o_trays a_o_planner a_o_ruler a_o_life a_o_latestLife o_marked o_wasLived o_wasParsed o_faultKind o_faultPlace o_latestStatus o_fractionTop o_fractionBottom u3 u13 hu13) [0] cal_X11_none cav_X11_none lk_X11_119 cx hP hD hS hl dX11_read_13 rfl rfl rfl rfl (Nat.le_of_ble_eq_true rfl) ⟨Nat.le_of_ble_eq_true rfl, Nat.le_of_ble_eq_true rfl⟩ rfl (by decide +kernel) rfl [some 0, none, none, none] rfl (by decide +kernel) rfl (fun H locs hP hD hS => ?_)
    refine lv_i2l (v := (u13.1.toInt64)) hx hb dX11_read_16 rfl ?_
    obtain rfl := Option.some.inj hf
    subst hq
    exact retL cx hP hD hS dX11_read_17
def X11_pour_j125 (o_latestStatus : Int32) (o_trays_numbers : Nat → Int64) (o_trays_sorts : Nat → Int32) (o_trays_sizes : Nat → Int32) : Option (Int32 × Int32 × (Nat → Int64)) :=
  (X11_refused o_latestStatus (3 : Int32)).bind fun u127 =>
  if isZ u127.1 then some (u127.1, u127.2, o_trays_numbers) else none
def X11_pour_j64 (o_latestStatus : Int32) (o_trays_numbers : Nat → Int64) (o_trays_sorts : Nat → Int32) (o_trays_sizes : Nat → Int32) : Option (Int32 × Int32 × (Nat → Int64)) :=
  (X11_refused o_latestStatus (2 : Int32)).bind fun u66 =>
  if isZ u66.1 then some (u66.1, u66.2, o_trays_numbers) else none
def X11_pour_j36 (o_latestStatus : Int32) (o_trays_numbers : Nat → Int64) (o_trays_sorts : Nat → Int32) (o_trays_sizes : Nat → Int32) : Option (Int32 × Int32 × (Nat → Int64)) :=
  (X11_refused o_latestStatus (1 : Int32)).bind fun u38 =>
  if isZ u38.1 then some (u38.1, u38.2, o_trays_numbers) else none
def X11_pour (o_latestStatus : Int32) (o_trays_numbers : Nat → Int64) (o_trays_sorts : Nat → Int32) (o_trays_sizes : Nat → Int32) (v1 : Int32) (v2 : Int32) (v3 : Int32) (v4 : Int32) (v5 : Int32) : Option (Int32 × Int32 × (Nat → Int64)) :=
  (X9_isTray v1).bind fun u5 =>
  if u5 = 0 then
  X11_pour_j36 o_latestStatus o_trays_numbers o_trays_sorts o_trays_sizes
  else
  (X9_isTray v3).bind fun u16 =>
  if u16 = 0 then
  X11_pour_j36 o_latestStatus o_trays_numbers o_trays_sorts o_trays_sizes
  else
  if v2 < 0 then
  X11_pour_j36 o_latestStatus o_trays_numbers o_trays_sorts o_trays_sizes
  else
  if v4 < 0 then
  X11_pour_j36 o_latestStatus o_trays_numbers o_trays_sorts o_trays_sizes
  else
  if (0 : Int32) ≤ v5 then
  (X9_isMissing o_trays_sizes v1).bind fun u47 =>
  if u47 = 0 then
  (X9_isMissing o_trays_sizes v3).bind fun u58 =>
  if u58 = 0 then
  (X9_sortOf o_trays_sorts v1).bind fun u75 =>
  (X9_sortOf o_trays_sorts v3).bind fun u83 =>
  if u75 = u83 then
  (X9_hasRange o_trays_sizes v1 v2 v5).bind fun u104 =>
  if u104 = 0 then
  X11_pour_j125 o_latestStatus o_trays_numbers o_trays_sorts o_trays_sizes
  else
  (X9_hasRange o_trays_sizes v3 v4 v5).bind fun u119 =>
  if u119 = 0 then
  X11_pour_j125 o_latestStatus o_trays_numbers o_trays_sorts o_trays_sizes
  else
  (X9_move o_trays_numbers o_trays_sizes v1 v2 v3 v4 v5).bind fun u142 =>
  (X11_accepted o_latestStatus).bind fun u146 =>
  if isZ u146.1 then some (u146.1, u146.2, u142) else none
  else
  (X11_refused o_latestStatus (8 : Int32)).bind fun u92 =>
  if isZ u92.1 then some (u92.1, u92.2, o_trays_numbers) else none
  else
  X11_pour_j64 o_latestStatus o_trays_numbers o_trays_sorts o_trays_sizes
  else
  X11_pour_j64 o_latestStatus o_trays_numbers o_trays_sorts o_trays_sizes
  else
  X11_pour_j36 o_latestStatus o_trays_numbers o_trays_sorts o_trays_sizes
abbrev wd_X11_pour (E : vE) (a_o a_o_city a_o_ahead a_o_marks a_o_tape a_o_cityReader a_o_weeksReader a_o_trays a_o_planner a_o_ruler a_o_life a_o_latestLife a_o_trays_numbers a_o_trays_sorts a_o_trays_sizes : Nat) (o_marked : Int32) (o_wasLived : Int32) (o_wasParsed : Int32) (o_faultKind : Int32) (o_faultPlace : Int32) (o_latestStatus : Int32) (o_fractionTop : Int64) (o_fractionBottom : Int64) (o_trays_numbers : Nat → Int64) (o_trays_sorts : Nat → Int32) (o_trays_sizes : Nat → Int32) : va_W := [(a_o, .inr (11, [.ref a_o_city, .ref a_o_ahead, .ref a_o_marks, .int o_marked, .ref a_o_tape, .ref a_o_cityReader, .ref a_o_weeksReader, .ref a_o_trays, .ref a_o_planner, .ref a_o_ruler, .ref a_o_life, .ref a_o_latestLife, .int o_wasLived, .int o_wasParsed, .int o_faultKind, .int o_faultPlace, .int o_latestStatus, .long o_fractionTop, .long o_fractionBottom])), (a_o_trays, .inr (9, [.ref a_o_trays_numbers, .ref a_o_trays_sorts, .ref a_o_trays_sizes])), (a_o_trays_numbers, .inl (E.2.2.1, 240, .inr (.inl o_trays_numbers))), (a_o_trays_sorts, .inl (E.2.1, 4, .inl o_trays_sorts)), (a_o_trays_sizes, .inl (E.2.1, 4, .inl o_trays_sizes))]
set_option maxHeartbeats 4000000 in
set_option maxRecDepth 100000 in
theorem ct_X11_pour (l : Launch) (E : vE) (a_o a_o_city a_o_ahead a_o_marks a_o_tape a_o_cityReader a_o_weeksReader a_o_trays a_o_planner a_o_ruler a_o_life a_o_latestLife a_o_trays_numbers a_o_trays_sorts a_o_trays_sizes : Nat) (o_marked : Int32) (o_wasLived : Int32) (o_wasParsed : Int32) (o_faultKind : Int32) (o_faultPlace : Int32) (o_latestStatus : Int32) (o_fractionTop : Int64) (o_fractionBottom : Int64) (o_trays_numbers : Nat → Int64) (o_trays_sorts : Nat → Int32) (o_trays_sizes : Nat → Int32) (v1 : Int32) (v2 : Int32) (v3 : Int32) (v4 : Int32) (v5 : Int32) (u : Int32 × Int32 × (Nat → Int64)) (hf : X11_pour o_latestStatus o_trays_numbers o_trays_sorts o_trays_sizes v1 v2 v3 v4 v5 = some u) :
    CtI l yX11_pour cX11_pour 6 (some .boolean) 3 E [.ref a_o, .int v1, .int v2, .int v3, .int v4, .int v5] (wd_X11_pour E a_o a_o_city a_o_ahead a_o_marks a_o_tape a_o_cityReader a_o_weeksReader a_o_trays a_o_planner a_o_ruler a_o_life a_o_latestLife a_o_trays_numbers a_o_trays_sorts a_o_trays_sizes o_marked o_wasLived o_wasParsed o_faultKind o_faultPlace o_latestStatus o_fractionTop o_fractionBottom o_trays_numbers o_trays_sorts o_trays_sizes) (wd_X11_pour E a_o a_o_city a_o_ahead a_o_marks a_o_tape a_o_cityReader a_o_weeksReader a_o_trays a_o_planner a_o_ruler a_o_life a_o_latestLife a_o_trays_numbers a_o_trays_sorts a_o_trays_sizes o_marked o_wasLived o_wasParsed o_faultKind o_faultPlace u.2.1 o_fractionTop o_fractionBottom u.2.2 o_trays_sorts o_trays_sizes) u.1 := by
  refine ctI (by decide) (Nat.le_of_ble_eq_true rfl) ?_
  intro p e s m below meth cd A ls aa QQ hq cx hP hD hS hl
  obtain ⟨⟨hx, hb, hml, hown, hts⟩, hr, hlocks, hK, hA, hX⟩ := id cx
  have hl : lv_has ls 6 [(0, .ref a_o), (1, .int v1), (2, .int v2), (3, .int v3), (4, .int v4), (5, .int v5)] := hl
  have hj125 : ∀ (o_latestStatus_j125 : Int32) (o_trays_numbers_j125 : Nat → Int64) (H : Heap) (locs : List Loc) (ls : Array Slot), X11_pour_j125 o_latestStatus_j125 o_trays_numbers_j125 o_trays_sorts o_trays_sizes = some u → va_P E.1 vwCl (wd_X11_pour E a_o a_o_city a_o_ahead a_o_marks a_o_tape a_o_cityReader a_o_weeksReader a_o_trays a_o_planner a_o_ruler a_o_life a_o_latestLife a_o_trays_numbers a_o_trays_sorts a_o_trays_sizes o_marked o_wasLived o_wasParsed o_faultKind o_faultPlace o_latestStatus_j125 o_fractionTop o_fractionBottom o_trays_numbers_j125 o_trays_sorts o_trays_sizes) H → va_D A (wd_X11_pour E a_o a_o_city a_o_ahead a_o_marks a_o_tape a_o_cityReader a_o_weeksReader a_o_trays a_o_planner a_o_ruler a_o_life a_o_latestLife a_o_trays_numbers a_o_trays_sorts a_o_trays_sizes o_marked o_wasLived o_wasParsed o_faultKind o_faultPlace o_latestStatus_j125 o_fractionTop o_fractionBottom o_trays_numbers_j125 o_trays_sorts o_trays_sizes) → va_S A s.heap H locs → lv_has ls 6 [(0, .ref a_o)] → W p l e (rmd 3) s m aa below meth cd H locs 0 0 QQ (F0 m 125 ls []) := by
    intro o_latestStatus_j125 o_trays_numbers_j125 H locs ls hf hP hD hS hl
    unfold X11_pour_j125 at hf
    refine lv_aload_n hx hb dX11_pour_125 rfl (lv_at hl 0 rfl) ?_
    refine lv_iconst (v := 3) hx hb dX11_pour_126 (by decide) ?_
    obtain ⟨u127, hu127, hf⟩ := bd hf
    refine callVI (wn := (wd_X11_pour E a_o a_o_city a_o_ahead a_o_marks a_o_tape a_o_cityReader a_o_weeksReader a_o_trays a_o_planner a_o_ruler a_o_life a_o_latestLife a_o_trays_numbers a_o_trays_sorts a_o_trays_sizes o_marked o_wasLived o_wasParsed o_faultKind o_faultPlace u127.2 o_fractionTop o_fractionBottom o_trays_numbers_j125 o_trays_sorts o_trays_sizes)) (n1 := 5) (ct_X11_refused l E a_o a_o_city a_o_ahead a_o_marks a_o_tape a_o_cityReader a_o_weeksReader a_o_trays a_o_planner a_o_ruler a_o_life a_o_latestLife o_marked o_wasLived o_wasParsed o_faultKind o_faultPlace o_latestStatus_j125 o_fractionTop o_fractionBottom (3 : Int32) u127 hu127) [0] cal_X11_refused cav_X11_refused lk_X11_100 cx hP hD hS hl dX11_pour_127 rfl rfl rfl rfl (Nat.le_of_ble_eq_true rfl) ⟨Nat.le_of_ble_eq_true rfl, Nat.le_of_ble_eq_true rfl⟩ rfl (by decide +kernel) rfl [some 0, none, none, none, none] rfl (by decide +kernel) rfl (fun H locs hP hD hS => ?_)
    obtain ⟨hz, hf⟩ := ck hf
    obtain rfl := Option.some.inj hf
    subst hq
    exact retZ cx hz hP hD hS dX11_pour_130
  have hj64 : ∀ (o_latestStatus_j64 : Int32) (o_trays_numbers_j64 : Nat → Int64) (H : Heap) (locs : List Loc) (ls : Array Slot), X11_pour_j64 o_latestStatus_j64 o_trays_numbers_j64 o_trays_sorts o_trays_sizes = some u → va_P E.1 vwCl (wd_X11_pour E a_o a_o_city a_o_ahead a_o_marks a_o_tape a_o_cityReader a_o_weeksReader a_o_trays a_o_planner a_o_ruler a_o_life a_o_latestLife a_o_trays_numbers a_o_trays_sorts a_o_trays_sizes o_marked o_wasLived o_wasParsed o_faultKind o_faultPlace o_latestStatus_j64 o_fractionTop o_fractionBottom o_trays_numbers_j64 o_trays_sorts o_trays_sizes) H → va_D A (wd_X11_pour E a_o a_o_city a_o_ahead a_o_marks a_o_tape a_o_cityReader a_o_weeksReader a_o_trays a_o_planner a_o_ruler a_o_life a_o_latestLife a_o_trays_numbers a_o_trays_sorts a_o_trays_sizes o_marked o_wasLived o_wasParsed o_faultKind o_faultPlace o_latestStatus_j64 o_fractionTop o_fractionBottom o_trays_numbers_j64 o_trays_sorts o_trays_sizes) → va_S A s.heap H locs → lv_has ls 6 [(0, .ref a_o)] → W p l e (rmd 3) s m aa below meth cd H locs 0 0 QQ (F0 m 64 ls []) := by
    intro o_latestStatus_j64 o_trays_numbers_j64 H locs ls hf hP hD hS hl
    unfold X11_pour_j64 at hf
    refine lv_aload_n hx hb dX11_pour_64 rfl (lv_at hl 0 rfl) ?_
    refine lv_iconst (v := 2) hx hb dX11_pour_65 (by decide) ?_
    obtain ⟨u66, hu66, hf⟩ := bd hf
    refine callVI (wn := (wd_X11_pour E a_o a_o_city a_o_ahead a_o_marks a_o_tape a_o_cityReader a_o_weeksReader a_o_trays a_o_planner a_o_ruler a_o_life a_o_latestLife a_o_trays_numbers a_o_trays_sorts a_o_trays_sizes o_marked o_wasLived o_wasParsed o_faultKind o_faultPlace u66.2 o_fractionTop o_fractionBottom o_trays_numbers_j64 o_trays_sorts o_trays_sizes)) (n1 := 5) (ct_X11_refused l E a_o a_o_city a_o_ahead a_o_marks a_o_tape a_o_cityReader a_o_weeksReader a_o_trays a_o_planner a_o_ruler a_o_life a_o_latestLife o_marked o_wasLived o_wasParsed o_faultKind o_faultPlace o_latestStatus_j64 o_fractionTop o_fractionBottom (2 : Int32) u66 hu66) [0] cal_X11_refused cav_X11_refused lk_X11_100 cx hP hD hS hl dX11_pour_66 rfl rfl rfl rfl (Nat.le_of_ble_eq_true rfl) ⟨Nat.le_of_ble_eq_true rfl, Nat.le_of_ble_eq_true rfl⟩ rfl (by decide +kernel) rfl [some 0, none, none, none, none] rfl (by decide +kernel) rfl (fun H locs hP hD hS => ?_)
    obtain ⟨hz, hf⟩ := ck hf
    obtain rfl := Option.some.inj hf
    subst hq
    exact retZ cx hz hP hD hS dX11_pour_69
  have hj36 : ∀ (o_latestStatus_j36 : Int32) (o_trays_numbers_j36 : Nat → Int64) (H : Heap) (locs : List Loc) (ls : Array Slot), X11_pour_j36 o_latestStatus_j36 o_trays_numbers_j36 o_trays_sorts o_trays_sizes = some u → va_P E.1 vwCl (wd_X11_pour E a_o a_o_city a_o_ahead a_o_marks a_o_tape a_o_cityReader a_o_weeksReader a_o_trays a_o_planner a_o_ruler a_o_life a_o_latestLife a_o_trays_numbers a_o_trays_sorts a_o_trays_sizes o_marked o_wasLived o_wasParsed o_faultKind o_faultPlace o_latestStatus_j36 o_fractionTop o_fractionBottom o_trays_numbers_j36 o_trays_sorts o_trays_sizes) H → va_D A (wd_X11_pour E a_o a_o_city a_o_ahead a_o_marks a_o_tape a_o_cityReader a_o_weeksReader a_o_trays a_o_planner a_o_ruler a_o_life a_o_latestLife a_o_trays_numbers a_o_trays_sorts a_o_trays_sizes o_marked o_wasLived o_wasParsed o_faultKind o_faultPlace o_latestStatus_j36 o_fractionTop o_fractionBottom o_trays_numbers_j36 o_trays_sorts o_trays_sizes) → va_S A s.heap H locs → lv_has ls 6 [(0, .ref a_o)] → W p l e (rmd 3) s m aa below meth cd H locs 0 0 QQ (F0 m 36 ls []) := by
    intro o_latestStatus_j36 o_trays_numbers_j36 H locs ls hf hP hD hS hl
    unfold X11_pour_j36 at hf
    refine lv_aload_n hx hb dX11_pour_36 rfl (lv_at hl 0 rfl) ?_
    refine lv_iconst (v := 1) hx hb dX11_pour_37 (by decide) ?_
    obtain ⟨u38, hu38, hf⟩ := bd hf
    refine callVI (wn := (wd_X11_pour E a_o a_o_city a_o_ahead a_o_marks a_o_tape a_o_cityReader a_o_weeksReader a_o_trays a_o_planner a_o_ruler a_o_life a_o_latestLife a_o_trays_numbers a_o_trays_sorts a_o_trays_sizes o_marked o_wasLived o_wasParsed o_faultKind o_faultPlace u38.2 o_fractionTop o_fractionBottom o_trays_numbers_j36 o_trays_sorts o_trays_sizes)) (n1 := 5) (ct_X11_refused l E a_o a_o_city a_o_ahead a_o_marks a_o_tape a_o_cityReader a_o_weeksReader a_o_trays a_o_planner a_o_ruler a_o_life a_o_latestLife o_marked o_wasLived o_wasParsed o_faultKind o_faultPlace o_latestStatus_j36 o_fractionTop o_fractionBottom (1 : Int32) u38 hu38) [0] cal_X11_refused cav_X11_refused lk_X11_100 cx hP hD hS hl dX11_pour_38 rfl rfl rfl rfl (Nat.le_of_ble_eq_true rfl) ⟨Nat.le_of_ble_eq_true rfl, Nat.le_of_ble_eq_true rfl⟩ rfl (by decide +kernel) rfl [some 0, none, none, none, none] rfl (by decide +kernel) rfl (fun H locs hP hD hS => ?_)
    obtain ⟨hz, hf⟩ := ck hf
    obtain rfl := Option.some.inj hf
    subst hq
    exact retZ cx hz hP hD hS dX11_pour_41
  unfold X11_pour at hf
  refine lv_aload_n hx hb dX11_pour_0 rfl (lv_at hl 0 rfl) ?_
  refine va_get (D := E.1) (ci := 11) (v := .ref a_o_trays) (C := RX11) (T := TX11) (N := 19) hx hb hts inX11 hown hK hP 0 rfl rfl 7 (by decide) (hts _ fl_X11_49) (fun _ h9 => h9) rfl dX11_pour_1 ?_
  refine lv_iload_n hx hb dX11_pour_4 rfl (lv_at hl 1 rfl) ?_
  obtain ⟨u5, hu5, hf⟩ := bd hf
  refine keepVI (ct_X9_isTray l E a_o_trays a_o_trays_numbers a_o_trays_sorts a_o_trays_sizes v1 u5 hu5) [1] cal_X9_isTray cav_X9_isTray lk_X11_92 cx hP hD hS hl dX11_pour_5 rfl rfl rfl rfl (Nat.le_of_ble_eq_true rfl) ⟨Nat.le_of_ble_eq_true rfl, Nat.le_of_ble_eq_true rfl⟩ rfl (by decide) (fun H locs hP hS => ?_)
  refine lv_if_eq (tgt := 36) hx hb dX11_pour_8 (by decide) (fun hc => ?_) (fun hc => ?_)
  · have hf := it_t hc hf
    exact hj36 _ _ _ _ _ hf hP hD hS (lv_sub hl [0] rfl)
  · have hf := it_f hc hf
    refine lv_aload_n hx hb dX11_pour_11 rfl (lv_at hl 0 rfl) ?_
    refine va_get (D := E.1) (ci := 11) (v := .ref a_o_trays) (C := RX11) (T := TX11) (N := 19) hx hb hts inX11 hown hK hP 0 rfl rfl 7 (by decide) (hts _ fl_X11_49) (fun _ h9 => h9) rfl dX11_pour_12 ?_
    refine lv_iload_n hx hb dX11_pour_15 rfl (lv_at hl 3 rfl) ?_
    obtain ⟨u16, hu16, hf⟩ := bd hf
    refine keepVI (ct_X9_isTray l E a_o_trays a_o_trays_numbers a_o_trays_sorts a_o_trays_sizes v3 u16 hu16) [1] cal_X9_isTray cav_X9_isTray lk_X11_92 cx hP hD hS hl dX11_pour_16 rfl rfl rfl rfl (Nat.le_of_ble_eq_true rfl) ⟨Nat.le_of_ble_eq_true rfl, Nat.le_of_ble_eq_true rfl⟩ rfl (by decide) (fun H locs hP hS => ?_)
    refine lv_if_eq (tgt := 36) hx hb dX11_pour_19 (by decide) (fun hc => ?_) (fun hc => ?_)
    · have hf := it_t hc hf
      exact hj36 _ _ _ _ _ hf hP hD hS (lv_sub hl [0] rfl)
    · have hf := it_f hc hf
      refine lv_iload_n hx hb dX11_pour_22 rfl (lv_at hl 2 rfl) ?_
      refine lv_if_lt (tgt := 36) hx hb dX11_pour_23 (by decide) (fun hc => ?_) (fun hc => ?_)
      · have hf := it_t hc hf
        exact hj36 _ _ _ _ _ hf hP hD hS (lv_sub hl [0] rfl)
      · have hf := it_f hc hf
        refine lv_iload hx hb dX11_pour_26 (lv_at hl 4 rfl) ?_
        refine lv_if_lt (tgt := 36) hx hb dX11_pour_28 (by decide) (fun hc => ?_) (fun hc => ?_)
        · have hf := it_t hc hf
          exact hj36 _ _ _ _ _ hf hP hD hS (lv_sub hl [0] rfl)
        · have hf := it_f hc hf
          refine lv_iload hx hb dX11_pour_31 (lv_at hl 5 rfl) ?_
          refine lv_if_ge (tgt := 42) hx hb dX11_pour_33 (by decide) (fun hc => ?_) (fun hc => ?_)
          · have hf := it_t hc hf
            refine lv_aload_n hx hb dX11_pour_42 rfl (lv_at hl 0 rfl) ?_
            refine va_get (D := E.1) (ci := 11) (v := .ref a_o_trays) (C := RX11) (T := TX11) (N := 19) hx hb hts inX11 hown hK hP 0 rfl rfl 7 (by decide) (hts _ fl_X11_49) (fun _ h9 => h9) rfl dX11_pour_43 ?_
            refine lv_iload_n hx hb dX11_pour_46 rfl (lv_at hl 1 rfl) ?_
            obtain ⟨u47, hu47, hf⟩ := bd hf
            refine keepVI (ct_X9_isMissing l E a_o_trays a_o_trays_numbers a_o_trays_sorts a_o_trays_sizes o_trays_sizes v1 u47 hu47) [1, 4] cal_X9_isMissing cav_X9_isMissing lk_X11_127 cx hP hD hS hl dX11_pour_47 rfl rfl rfl rfl (Nat.le_of_ble_eq_true rfl) ⟨Nat.le_of_ble_eq_true rfl, Nat.le_of_ble_eq_true rfl⟩ rfl (by decide) (fun H locs hP hS => ?_)
            refine lv_if_ne (tgt := 64) hx hb dX11_pour_50 (by decide) (fun hc => ?_) (fun hc => ?_)
            · have hf := it_f hc hf
              exact hj64 _ _ _ _ _ hf hP hD hS (lv_sub hl [0] rfl)
            · have hf := it_t hc hf
              refine lv_aload_n hx hb dX11_pour_53 rfl (lv_at hl 0 rfl) ?_
              refine va_get (D := E.1) (ci := 11) (v := .ref a_o_trays) (C := RX11) (T := TX11) (N := 19) hx hb hts inX11 hown hK hP 0 rfl rfl 7 (by decide) (hts _ fl_X11_49) (fun _ h9 => h9) rfl dX11_pour_54 ?_
              refine lv_iload_n hx hb dX11_pour_57 rfl (lv_at hl 3 rfl) ?_
              obtain ⟨u58, hu58, hf⟩ := bd hf
              refine keepVI (ct_X9_isMissing l E a_o_trays a_o_trays_numbers a_o_trays_sorts a_o_trays_sizes o_trays_sizes v3 u58 hu58) [1, 4] cal_X9_isMissing cav_X9_isMissing lk_X11_127 cx hP hD hS hl dX11_pour_58 rfl rfl rfl rfl (Nat.le_of_ble_eq_true rfl) ⟨Nat.le_of_ble_eq_true rfl, Nat.le_of_ble_eq_true rfl⟩ rfl (by decide) (fun H locs hP hS => ?_)
              refine lv_if_eq (tgt := 70) hx hb dX11_pour_61 (by decide) (fun hc => ?_) (fun hc => ?_)
              · have hf := it_t hc hf
                refine lv_aload_n hx hb dX11_pour_70 rfl (lv_at hl 0 rfl) ?_
                refine va_get (D := E.1) (ci := 11) (v := .ref a_o_trays) (C := RX11) (T := TX11) (N := 19) hx hb hts inX11 hown hK hP 0 rfl rfl 7 (by decide) (hts _ fl_X11_49) (fun _ h9 => h9) rfl dX11_pour_71 ?_
                refine lv_iload_n hx hb dX11_pour_74 rfl (lv_at hl 1 rfl) ?_
                obtain ⟨u75, hu75, hf⟩ := bd hf
                refine keepVI (ct_X9_sortOf l E a_o_trays a_o_trays_numbers a_o_trays_sorts a_o_trays_sizes o_trays_sorts v1 u75 hu75) [1, 3] cal_X9_sortOf cav_X9_sortOf lk_X11_130 cx hP hD hS hl dX11_pour_75 rfl rfl rfl rfl (Nat.le_of_ble_eq_true rfl) ⟨Nat.le_of_ble_eq_true rfl, Nat.le_of_ble_eq_true rfl⟩ rfl (by decide) (fun H locs hP hS => ?_)
                refine lv_aload_n hx hb dX11_pour_78 rfl (lv_at hl 0 rfl) ?_
                refine va_get (D := E.1) (ci := 11) (v := .ref a_o_trays) (C := RX11) (T := TX11) (N := 19) hx hb hts inX11 hown hK hP 0 rfl rfl 7 (by decide) (hts _ fl_X11_49) (fun _ h9 => h9) rfl dX11_pour_79 ?_
                refine lv_iload_n hx hb dX11_pour_82 rfl (lv_at hl 3 rfl) ?_
                obtain ⟨u83, hu83, hf⟩ := bd hf
                refine keepVI (ct_X9_sortOf l E a_o_trays a_o_trays_numbers a_o_trays_sorts a_o_trays_sizes o_trays_sorts v3 u83 hu83) [1, 3] cal_X9_sortOf cav_X9_sortOf lk_X11_130 cx hP hD hS hl dX11_pour_83 rfl rfl rfl rfl (Nat.le_of_ble_eq_true rfl) ⟨Nat.le_of_ble_eq_true rfl, Nat.le_of_ble_eq_true rfl⟩ rfl (by decide) (fun H locs hP hS => ?_)
                refine lv_icmp_eq (tgt := 96) hx hb dX11_pour_86 (by decide) (fun hc => ?_) (fun hc => ?_)
                · have hf := it_t hc hf
                  refine lv_aload_n hx hb dX11_pour_96 rfl (lv_at hl 0 rfl) ?_
                  refine va_get (D := E.1) (ci := 11) (v := .ref a_o_trays) (C := RX11) (T := TX11) (N := 19) hx hb hts inX11 hown hK hP 0 rfl rfl 7 (by decide) (hts _ fl_X11_49) (fun _ h9 => h9) rfl dX11_pour_97 ?_
                  refine lv_iload_n hx hb dX11_pour_100 rfl (lv_at hl 1 rfl) ?_
                  refine lv_iload_n hx hb dX11_pour_101 rfl (lv_at hl 2 rfl) ?_
                  refine lv_iload hx hb dX11_pour_102 (lv_at hl 5 rfl) ?_
                  obtain ⟨u104, hu104, hf⟩ := bd hf
                  refine keepVI (ct_X9_hasRange l E a_o_trays a_o_trays_numbers a_o_trays_sorts a_o_trays_sizes o_trays_sizes v1 v2 v5 u104 hu104) [1, 4] cal_X9_hasRange cav_X9_hasRange lk_X11_133 cx hP hD hS hl dX11_pour_104 rfl rfl rfl rfl (Nat.le_of_ble_eq_true rfl) ⟨Nat.le_of_ble_eq_true rfl, Nat.le_of_ble_eq_true rfl⟩ rfl (by decide) (fun H locs hP hS => ?_)
                  refine lv_if_eq (tgt := 125) hx hb dX11_pour_107 (by decide) (fun hc => ?_) (fun hc => ?_)
                  · have hf := it_t hc hf
                    exact hj125 _ _ _ _ _ hf hP hD hS (lv_sub hl [0] rfl)
                  · have hf := it_f hc hf
                    refine lv_aload_n hx hb dX11_pour_110 rfl (lv_at hl 0 rfl) ?_
                    refine va_get (D := E.1) (ci := 11) (v := .ref a_o_trays) (C := RX11) (T := TX11) (N := 19) hx hb hts inX11 hown hK hP 0 rfl rfl 7 (by decide) (hts _ fl_X11_49) (fun _ h9 => h9) rfl dX11_pour_111 ?_
                    refine lv_iload_n hx hb dX11_pour_114 rfl (lv_at hl 3 rfl) ?_
                    refine lv_iload hx hb dX11_pour_115 (lv_at hl 4 rfl) ?_
                    refine lv_iload hx hb dX11_pour_117 (lv_at hl 5 rfl) ?_
                    obtain ⟨u119, hu119, hf⟩ := bd hf
                    refine keepVI (ct_X9_hasRange l E a_o_trays a_o_trays_numbers a_o_trays_sorts a_o_trays_sizes o_trays_sizes v3 v4 v5 u119 hu119) [1, 4] cal_X9_hasRange cav_X9_hasRange lk_X11_133 cx hP hD hS hl dX11_pour_119 rfl rfl rfl rfl (Nat.le_of_ble_eq_true rfl) ⟨Nat.le_of_ble_eq_true rfl, Nat.le_of_ble_eq_true rfl⟩ rfl (by decide) (fun H locs hP hS => ?_)
                    refine lv_if_ne (tgt := 131) hx hb dX11_pour_122 (by decide) (fun hc => ?_) (fun hc => ?_)
                    · have hf := it_f hc hf
                      refine lv_aload_n hx hb dX11_pour_131 rfl (lv_at hl 0 rfl) ?_
                      refine va_get (D := E.1) (ci := 11) (v := .ref a_o_trays) (C := RX11) (T := TX11) (N := 19) hx hb hts inX11 hown hK hP 0 rfl rfl 7 (by decide) (hts _ fl_X11_49) (fun _ h9 => h9) rfl dX11_pour_132 ?_
                      refine lv_iload_n hx hb dX11_pour_135 rfl (lv_at hl 1 rfl) ?_
                      refine lv_iload_n hx hb dX11_pour_136 rfl (lv_at hl 2 rfl) ?_
                      refine lv_iload_n hx hb dX11_pour_137 rfl (lv_at hl 3 rfl) ?_
                      refine lv_iload hx hb dX11_pour_138 (lv_at hl 4 rfl) ?_
                      refine lv_iload hx hb dX11_pour_140 (lv_at hl 5 rfl) ?_
                      obtain ⟨u142, hu142, hf⟩ := bd hf
                      refine callVV (wn := (wd_X11_pour E a_o a_o_city a_o_ahead a_o_marks a_o_tape a_o_cityReader a_o_weeksReader a_o_trays a_o_planner a_o_ruler a_o_life a_o_latestLife a_o_trays_numbers a_o_trays_sorts a_o_trays_sizes o_marked o_wasLived o_wasParsed o_faultKind o_faultPlace o_latestStatus o_fractionTop o_fractionBottom u142 o_trays_sorts o_trays_sizes)) (n1 := 5) (ct_X9_move l E a_o_trays a_o_trays_numbers a_o_trays_sorts a_o_trays_sizes o_trays_numbers o_trays_sizes v1 v2 v3 v4 v5 u142 hu142) [1, 2, 4] cal_X9_move cav_X9_move lk_X11_136 cx hP hD hS hl dX11_pour_142 rfl rfl rfl rfl (Nat.le_of_ble_eq_true rfl) ⟨Nat.le_of_ble_eq_true rfl, Nat.le_of_ble_eq_true rfl⟩ rfl (by decide +kernel) rfl [none, some 0, some 1, none, some 2] rfl (by decide +kernel) rfl (fun H locs hP hD hS => ?_)
                      refine lv_aload_n hx hb dX11_pour_145 rfl (lv_at hl 0 rfl) ?_
                      obtain ⟨u146, hu146, hf⟩ := bd hf
                      refine callVI (wn := (wd_X11_pour E a_o a_o_city a_o_ahead a_o_marks a_o_tape a_o_cityReader a_o_weeksReader a_o_trays a_o_planner a_o_ruler a_o_life a_o_latestLife a_o_trays_numbers a_o_trays_sorts a_o_trays_sizes o_marked o_wasLived o_wasParsed o_faultKind o_faultPlace u146.2 o_fractionTop o_fractionBottom u142 o_trays_sorts o_trays_sizes)) (n1 := 5) (ct_X11_accepted l E a_o a_o_city a_o_ahead a_o_marks a_o_tape a_o_cityReader a_o_weeksReader a_o_trays a_o_planner a_o_ruler a_o_life a_o_latestLife o_marked o_wasLived o_wasParsed o_faultKind o_faultPlace o_latestStatus o_fractionTop o_fractionBottom u146 hu146) [0] cal_X11_accepted cav_X11_accepted lk_X11_107 cx hP hD hS hl dX11_pour_146 rfl rfl rfl rfl (Nat.le_of_ble_eq_true rfl) ⟨Nat.le_of_ble_eq_true rfl, Nat.le_of_ble_eq_true rfl⟩ rfl (by decide +kernel) rfl [some 0, none, none, none, none] rfl (by decide +kernel) rfl (fun H locs hP hD hS => ?_)
                      obtain ⟨hz, hf⟩ := ck hf
                      obtain rfl := Option.some.inj hf
                      subst hq
                      exact retZ cx hz hP hD hS dX11_pour_149
                    · have hf := it_t hc hf
                      exact hj125 _ _ _ _ _ hf hP hD hS (lv_sub hl [0] rfl)
                · have hf := it_f hc hf
                  refine lv_aload_n hx hb dX11_pour_89 rfl (lv_at hl 0 rfl) ?_
                  refine lv_bipush (v := 8) hx hb dX11_pour_90 (by decide) ?_
                  obtain ⟨u92, hu92, hf⟩ := bd hf
                  refine callVI (wn := (wd_X11_pour E a_o a_o_city a_o_ahead a_o_marks a_o_tape a_o_cityReader a_o_weeksReader a_o_trays a_o_planner a_o_ruler a_o_life a_o_latestLife a_o_trays_numbers a_o_trays_sorts a_o_trays_sizes o_marked o_wasLived o_wasParsed o_faultKind o_faultPlace u92.2 o_fractionTop o_fractionBottom o_trays_numbers o_trays_sorts o_trays_sizes)) (n1 := 5) (ct_X11_refused l E a_o a_o_city a_o_ahead a_o_marks a_o_tape a_o_cityReader a_o_weeksReader a_o_trays a_o_planner a_o_ruler a_o_life a_o_latestLife o_marked o_wasLived o_wasParsed o_faultKind o_faultPlace o_latestStatus o_fractionTop o_fractionBottom (8 : Int32) u92 hu92) [0] cal_X11_refused cav_X11_refused lk_X11_100 cx hP hD hS hl dX11_pour_92 rfl rfl rfl rfl (Nat.le_of_ble_eq_true rfl) ⟨Nat.le_of_ble_eq_true rfl, Nat.le_of_ble_eq_true rfl⟩ rfl (by decide +kernel) rfl [some 0, none, none, none, none] rfl (by decide +kernel) rfl (fun H locs hP hD hS => ?_)
                  obtain ⟨hz, hf⟩ := ck hf
                  obtain rfl := Option.some.inj hf
                  subst hq
                  exact retZ cx hz hP hD hS dX11_pour_95
              · have hf := it_f hc hf
                exact hj64 _ _ _ _ _ hf hP hD hS (lv_sub hl [0] rfl)
          · have hf := it_f hc hf
            exact hj36 _ _ _ _ _ hf hP hD hS (lv_sub hl [0] rfl)
def X11_feed (o_tape_held : Int32) (o_tape_text : Nat → Int32) (v1 : Int32) (v2 : Int32) (v3 : Int32) (v4 : Int32) (v5 : Int32) : Option (Int32 × Int32 × (Nat → Int32)) :=
  (X8_hasRoomFor o_tape_held (20 : Int32)).bind fun u6 =>
  if u6 = 0 then
  some ((-1), o_tape_held, o_tape_text)
  else
  (X8_append o_tape_held o_tape_text v1).bind fun u19 =>
  (X8_append u19.1 u19.2 v2).bind fun u27 =>
  (X8_append u27.1 u27.2 v3).bind fun u35 =>
  (X8_append u35.1 u35.2 v4).bind fun u44 =>
  (X8_append u44.1 u44.2 v5).bind fun u53 =>
  some (u53.1, u53.1, u53.2)
abbrev wd_X11_feed (E : vE) (a_o a_o_city a_o_ahead a_o_marks a_o_tape a_o_cityReader a_o_weeksReader a_o_trays a_o_planner a_o_ruler a_o_life a_o_latestLife a_o_tape_text : Nat) (o_marked : Int32) (o_wasLived : Int32) (o_wasParsed : Int32) (o_faultKind : Int32) (o_faultPlace : Int32) (o_latestStatus : Int32) (o_fractionTop : Int64) (o_fractionBottom : Int64) (o_tape_held : Int32) (o_tape_length : Int32) (o_tape_place : Int32) (o_tape_next : Int32) (o_tape_sort : Int32) (o_tape_value : Int32) (o_tape_code : Int64) (o_tape_fault : Int32) (o_tape_faultPlace : Int32) (o_tape_text : Nat → Int32) : va_W := [(a_o, .inr (11, [.ref a_o_city, .ref a_o_ahead, .ref a_o_marks, .int o_marked, .ref a_o_tape, .ref a_o_cityReader, .ref a_o_weeksReader, .ref a_o_trays, .ref a_o_planner, .ref a_o_ruler, .ref a_o_life, .ref a_o_latestLife, .int o_wasLived, .int o_wasParsed, .int o_faultKind, .int o_faultPlace, .int o_latestStatus, .long o_fractionTop, .long o_fractionBottom])), (a_o_tape, .inr (8, [.ref a_o_tape_text, .int o_tape_held, .int o_tape_length, .int o_tape_place, .int o_tape_next, .int o_tape_sort, .int o_tape_value, .long o_tape_code, .int o_tape_fault, .int o_tape_faultPlace])), (a_o_tape_text, .inl (E.2.1, 900, .inl o_tape_text))]
set_option maxHeartbeats 4000000 in
set_option maxRecDepth 100000 in
theorem ct_X11_feed (l : Launch) (E : vE) (a_o a_o_city a_o_ahead a_o_marks a_o_tape a_o_cityReader a_o_weeksReader a_o_trays a_o_planner a_o_ruler a_o_life a_o_latestLife a_o_tape_text : Nat) (o_marked : Int32) (o_wasLived : Int32) (o_wasParsed : Int32) (o_faultKind : Int32) (o_faultPlace : Int32) (o_latestStatus : Int32) (o_fractionTop : Int64) (o_fractionBottom : Int64) (o_tape_held : Int32) (o_tape_length : Int32) (o_tape_place : Int32) (o_tape_next : Int32) (o_tape_sort : Int32) (o_tape_value : Int32) (o_tape_code : Int64) (o_tape_fault : Int32) (o_tape_faultPlace : Int32) (o_tape_text : Nat → Int32) (v1 : Int32) (v2 : Int32) (v3 : Int32) (v4 : Int32) (v5 : Int32) (u : Int32 × Int32 × (Nat → Int32)) (hf : X11_feed o_tape_held o_tape_text v1 v2 v3 v4 v5 = some u) :
    CtI l yX11_feed cX11_feed 6 (some .int) 2 E [.ref a_o, .int v1, .int v2, .int v3, .int v4, .int v5] (wd_X11_feed E a_o a_o_city a_o_ahead a_o_marks a_o_tape a_o_cityReader a_o_weeksReader a_o_trays a_o_planner a_o_ruler a_o_life a_o_latestLife a_o_tape_text o_marked o_wasLived o_wasParsed o_faultKind o_faultPlace o_latestStatus o_fractionTop o_fractionBottom o_tape_held o_tape_length o_tape_place o_tape_next o_tape_sort o_tape_value o_tape_code o_tape_fault o_tape_faultPlace o_tape_text) (wd_X11_feed E a_o a_o_city a_o_ahead a_o_marks a_o_tape a_o_cityReader a_o_weeksReader a_o_trays a_o_planner a_o_ruler a_o_life a_o_latestLife a_o_tape_text o_marked o_wasLived o_wasParsed o_faultKind o_faultPlace o_latestStatus o_fractionTop o_fractionBottom u.2.1 o_tape_length o_tape_place o_tape_next o_tape_sort o_tape_value o_tape_code o_tape_fault o_tape_faultPlace u.2.2) u.1 := by
  refine ctI (by decide) (Nat.le_of_ble_eq_true rfl) ?_
  intro p e s m below meth cd A ls aa QQ hq cx hP hD hS hl
  obtain ⟨⟨hx, hb, hml, hown, hts⟩, hr, hlocks, hK, hA, hX⟩ := id cx
  have hl : lv_has ls 6 [(0, .ref a_o), (1, .int v1), (2, .int v2), (3, .int v3), (4, .int v4), (5, .int v5)] := hl
  unfold X11_feed at hf
  refine lv_aload_n hx hb dX11_feed_0 rfl (lv_at hl 0 rfl) ?_
  refine va_get (D := E.1) (ci := 11) (v := .ref a_o_tape) (C := RX11) (T := TX11) (N := 19) hx hb hts inX11 hown hK hP 0 rfl rfl 4 (by decide) (hts _ fl_X11_26) (fun _ h9 => h9) rfl dX11_feed_1 ?_
  refine lv_bipush (v := 20) hx hb dX11_feed_4 (by decide) ?_
  obtain ⟨u6, hu6, hf⟩ := bd hf
  refine keepVI (ct_X8_hasRoomFor l E a_o_tape a_o_tape_text o_tape_held o_tape_length o_tape_place o_tape_next o_tape_sort o_tape_value o_tape_code o_tape_fault o_tape_faultPlace (20 : Int32) u6 hu6) [1] cal_X8_hasRoomFor cav_X8_hasRoomFor lk_X11_140 cx hP hD hS hl dX11_feed_6 rfl rfl rfl rfl (Nat.le_of_ble_eq_true rfl) ⟨Nat.le_of_ble_eq_true rfl, Nat.le_of_ble_eq_true rfl⟩ rfl (by decide) (fun H locs hP hS => ?_)
  refine lv_if_ne (tgt := 14) hx hb dX11_feed_9 (by decide) (fun hc => ?_) (fun hc => ?_)
  · have hf := it_f hc hf
    refine lv_aload_n hx hb dX11_feed_14 rfl (lv_at hl 0 rfl) ?_
    refine va_get (D := E.1) (ci := 11) (v := .ref a_o_tape) (C := RX11) (T := TX11) (N := 19) hx hb hts inX11 hown hK hP 0 rfl rfl 4 (by decide) (hts _ fl_X11_26) (fun _ h9 => h9) rfl dX11_feed_15 ?_
    refine lv_iload_n hx hb dX11_feed_18 rfl (lv_at hl 1 rfl) ?_
    obtain ⟨u19, hu19, hf⟩ := bd hf
    refine callVV (wn := (wd_X11_feed E a_o a_o_city a_o_ahead a_o_marks a_o_tape a_o_cityReader a_o_weeksReader a_o_trays a_o_planner a_o_ruler a_o_life a_o_latestLife a_o_tape_text o_marked o_wasLived o_wasParsed o_faultKind o_faultPlace o_latestStatus o_fractionTop o_fractionBottom u19.1 o_tape_length o_tape_place o_tape_next o_tape_sort o_tape_value o_tape_code o_tape_fault o_tape_faultPlace u19.2)) (n1 := 3) (ct_X8_append l E a_o_tape a_o_tape_text o_tape_held o_tape_length o_tape_place o_tape_next o_tape_sort o_tape_value o_tape_code o_tape_fault o_tape_faultPlace o_tape_text v1 u19 hu19) [1, 2] cal_X8_append cav_X8_append lk_X11_143 cx hP hD hS hl dX11_feed_19 rfl rfl rfl rfl (Nat.le_of_ble_eq_true rfl) ⟨Nat.le_of_ble_eq_true rfl, Nat.le_of_ble_eq_true rfl⟩ rfl (by decide +kernel) rfl [none, some 0, some 1] rfl (by decide +kernel) rfl (fun H locs hP hD hS => ?_)
    refine lv_aload_n hx hb dX11_feed_22 rfl (lv_at hl 0 rfl) ?_
    refine va_get (D := E.1) (ci := 11) (v := .ref a_o_tape) (C := RX11) (T := TX11) (N := 19) hx hb hts inX11 hown hK hP 0 rfl rfl 4 (by decide) (hts _ fl_X11_26) (fun _ h9 => h9) rfl dX11_feed_23 ?_
    refine lv_iload_n hx hb dX11_feed_26 rfl (lv_at hl 2 rfl) ?_
    obtain ⟨u27, hu27, hf⟩ := bd hf
    refine callVV (wn := (wd_X11_feed E a_o a_o_city a_o_ahead a_o_marks a_o_tape a_o_cityReader a_o_weeksReader a_o_trays a_o_planner a_o_ruler a_o_life a_o_latestLife a_o_tape_text o_marked o_wasLived o_wasParsed o_faultKind o_faultPlace o_latestStatus o_fractionTop o_fractionBottom u27.1 o_tape_length o_tape_place o_tape_next o_tape_sort o_tape_value o_tape_code o_tape_fault o_tape_faultPlace u27.2)) (n1 := 3) (ct_X8_append l E a_o_tape a_o_tape_text u19.1 o_tape_length o_tape_place o_tape_next o_tape_sort o_tape_value o_tape_code o_tape_fault o_tape_faultPlace u19.2 v2 u27 hu27) [1, 2] cal_X8_append cav_X8_append lk_X11_143 cx hP hD hS hl dX11_feed_27 rfl rfl rfl rfl (Nat.le_of_ble_eq_true rfl) ⟨Nat.le_of_ble_eq_true rfl, Nat.le_of_ble_eq_true rfl⟩ rfl (by decide +kernel) rfl [none, some 0, some 1] rfl (by decide +kernel) rfl (fun H locs hP hD hS => ?_)
    refine lv_aload_n hx hb dX11_feed_30 rfl (lv_at hl 0 rfl) ?_
    refine va_get (D := E.1) (ci := 11) (v := .ref a_o_tape) (C := RX11) (T := TX11) (N := 19) hx hb hts inX11 hown hK hP 0 rfl rfl 4 (by decide) (hts _ fl_X11_26) (fun _ h9 => h9) rfl dX11_feed_31 ?_
    refine lv_iload_n hx hb dX11_feed_34 rfl (lv_at hl 3 rfl) ?_
    obtain ⟨u35, hu35, hf⟩ := bd hf
    refine callVV (wn := (wd_X11_feed E a_o a_o_city a_o_ahead a_o_marks a_o_tape a_o_cityReader a_o_weeksReader a_o_trays a_o_planner a_o_ruler a_o_life a_o_latestLife a_o_tape_text o_marked o_wasLived o_wasParsed o_faultKind o_faultPlace o_latestStatus o_fractionTop o_fractionBottom u35.1 o_tape_length o_tape_place o_tape_next o_tape_sort o_tape_value o_tape_code o_tape_fault o_tape_faultPlace u35.2)) (n1 := 3) (ct_X8_append l E a_o_tape a_o_tape_text u27.1 o_tape_length o_tape_place o_tape_next o_tape_sort o_tape_value o_tape_code o_tape_fault o_tape_faultPlace u27.2 v3 u35 hu35) [1, 2] cal_X8_append cav_X8_append lk_X11_143 cx hP hD hS hl dX11_feed_35 rfl rfl rfl rfl (Nat.le_of_ble_eq_true rfl) ⟨Nat.le_of_ble_eq_true rfl, Nat.le_of_ble_eq_true rfl⟩ rfl (by decide +kernel) rfl [none, some 0, some 1] rfl (by decide +kernel) rfl (fun H locs hP hD hS => ?_)
    refine lv_aload_n hx hb dX11_feed_38 rfl (lv_at hl 0 rfl) ?_
    refine va_get (D := E.1) (ci := 11) (v := .ref a_o_tape) (C := RX11) (T := TX11) (N := 19) hx hb hts inX11 hown hK hP 0 rfl rfl 4 (by decide) (hts _ fl_X11_26) (fun _ h9 => h9) rfl dX11_feed_39 ?_
    refine lv_iload hx hb dX11_feed_42 (lv_at hl 4 rfl) ?_
    obtain ⟨u44, hu44, hf⟩ := bd hf
    refine callVV (wn := (wd_X11_feed E a_o a_o_city a_o_ahead a_o_marks a_o_tape a_o_cityReader a_o_weeksReader a_o_trays a_o_planner a_o_ruler a_o_life a_o_latestLife a_o_tape_text o_marked o_wasLived o_wasParsed o_faultKind o_faultPlace o_latestStatus o_fractionTop o_fractionBottom u44.1 o_tape_length o_tape_place o_tape_next o_tape_sort o_tape_value o_tape_code o_tape_fault o_tape_faultPlace u44.2)) (n1 := 3) (ct_X8_append l E a_o_tape a_o_tape_text u35.1 o_tape_length o_tape_place o_tape_next o_tape_sort o_tape_value o_tape_code o_tape_fault o_tape_faultPlace u35.2 v4 u44 hu44) [1, 2] cal_X8_append cav_X8_append lk_X11_143 cx hP hD hS hl dX11_feed_44 rfl rfl rfl rfl (Nat.le_of_ble_eq_true rfl) ⟨Nat.le_of_ble_eq_true rfl, Nat.le_of_ble_eq_true rfl⟩ rfl (by decide +kernel) rfl [none, some 0, some 1] rfl (by decide +kernel) rfl (fun H locs hP hD hS => ?_)
    refine lv_aload_n hx hb dX11_feed_47 rfl (lv_at hl 0 rfl) ?_
    refine va_get (D := E.1) (ci := 11) (v := .ref a_o_tape) (C := RX11) (T := TX11) (N := 19) hx hb hts inX11 hown hK hP 0 rfl rfl 4 (by decide) (hts _ fl_X11_26) (fun _ h9 => h9) rfl dX11_feed_48 ?_
    refine lv_iload hx hb dX11_feed_51 (lv_at hl 5 rfl) ?_
    obtain ⟨u53, hu53, hf⟩ := bd hf
    refine callVV (wn := (wd_X11_feed E a_o a_o_city a_o_ahead a_o_marks a_o_tape a_o_cityReader a_o_weeksReader a_o_trays a_o_planner a_o_ruler a_o_life a_o_latestLife a_o_tape_text o_marked o_wasLived o_wasParsed o_faultKind o_faultPlace o_latestStatus o_fractionTop o_fractionBottom u53.1 o_tape_length o_tape_place o_tape_next o_tape_sort o_tape_value o_tape_code o_tape_fault o_tape_faultPlace u53.2)) (n1 := 3) (ct_X8_append l E a_o_tape a_o_tape_text u44.1 o_tape_length o_tape_place o_tape_next o_tape_sort o_tape_value o_tape_code o_tape_fault o_tape_faultPlace u44.2 v5 u53 hu53) [1, 2] cal_X8_append cav_X8_append lk_X11_143 cx hP hD hS hl dX11_feed_53 rfl rfl rfl rfl (Nat.le_of_ble_eq_true rfl) ⟨Nat.le_of_ble_eq_true rfl, Nat.le_of_ble_eq_true rfl⟩ rfl (by decide +kernel) rfl [none, some 0, some 1] rfl (by decide +kernel) rfl (fun H locs hP hD hS => ?_)
    refine lv_aload_n hx hb dX11_feed_56 rfl (lv_at hl 0 rfl) ?_
    refine va_get (D := E.1) (ci := 11) (v := .ref a_o_tape) (C := RX11) (T := TX11) (N := 19) hx hb hts inX11 hown hK hP 0 rfl rfl 4 (by decide) (hts _ fl_X11_26) (fun _ h9 => h9) rfl dX11_feed_57 ?_
    refine va_get (D := E.1) (ci := 8) (v := .int u53.1) (C := RX8) (T := TX8) (N := 10) hx hb hts inX8 hown hK hP 1 rfl rfl 1 (by decide) (hts _ fl_X11_147) (fun _ h9 => h9) rfl dX11_feed_60 ?_
    obtain rfl := Option.some.inj hf
    subst hq
    exact retI cx hP hD hS dX11_feed_63
  · have hf := it_t hc hf
    refine lv_iconst (v := (-1)) hx hb dX11_feed_12 (by decide) ?_
    obtain rfl := Option.some.inj hf
    subst hq
    exact retI cx hP hD hS dX11_feed_13
def X11_keepFault (o_wasParsed : Int32) (o_faultKind : Int32) (o_faultPlace : Int32) (o_tape_fault : Int32) (o_tape_faultPlace : Int32) : Option (Int32 × Int32 × Int32) :=
  some (1, o_tape_fault, o_tape_faultPlace)
abbrev wd_X11_keepFault (E : vE) (a_o a_o_city a_o_ahead a_o_marks a_o_tape a_o_cityReader a_o_weeksReader a_o_trays a_o_planner a_o_ruler a_o_life a_o_latestLife a_o_tape_text : Nat) (o_marked : Int32) (o_wasLived : Int32) (o_wasParsed : Int32) (o_faultKind : Int32) (o_faultPlace : Int32) (o_latestStatus : Int32) (o_fractionTop : Int64) (o_fractionBottom : Int64) (o_tape_held : Int32) (o_tape_length : Int32) (o_tape_place : Int32) (o_tape_next : Int32) (o_tape_sort : Int32) (o_tape_value : Int32) (o_tape_code : Int64) (o_tape_fault : Int32) (o_tape_faultPlace : Int32) : va_W := [(a_o, .inr (11, [.ref a_o_city, .ref a_o_ahead, .ref a_o_marks, .int o_marked, .ref a_o_tape, .ref a_o_cityReader, .ref a_o_weeksReader, .ref a_o_trays, .ref a_o_planner, .ref a_o_ruler, .ref a_o_life, .ref a_o_latestLife, .int o_wasLived, .int o_wasParsed, .int o_faultKind, .int o_faultPlace, .int o_latestStatus, .long o_fractionTop, .long o_fractionBottom])), (a_o_tape, .inr (8, [.ref a_o_tape_text, .int o_tape_held, .int o_tape_length, .int o_tape_place, .int o_tape_next, .int o_tape_sort, .int o_tape_value, .long o_tape_code, .int o_tape_fault, .int o_tape_faultPlace]))]
set_option maxHeartbeats 4000000 in
set_option maxRecDepth 100000 in
theorem ct_X11_keepFault (l : Launch) (E : vE) (a_o a_o_city a_o_ahead a_o_marks a_o_tape a_o_cityReader a_o_weeksReader a_o_trays a_o_planner a_o_ruler a_o_life a_o_latestLife a_o_tape_text : Nat) (o_marked : Int32) (o_wasLived : Int32) (o_wasParsed : Int32) (o_faultKind : Int32) (o_faultPlace : Int32) (o_latestStatus : Int32) (o_fractionTop : Int64) (o_fractionBottom : Int64) (o_tape_held : Int32) (o_tape_length : Int32) (o_tape_place : Int32) (o_tape_next : Int32) (o_tape_sort : Int32) (o_tape_value : Int32) (o_tape_code : Int64) (o_tape_fault : Int32) (o_tape_faultPlace : Int32) (u : Int32 × Int32 × Int32) (hf : X11_keepFault o_wasParsed o_faultKind o_faultPlace o_tape_fault o_tape_faultPlace = some u) :
    CtV l yX11_keepFault cX11_keepFault 1 none 0 E [.ref a_o] (wd_X11_keepFault E a_o a_o_city a_o_ahead a_o_marks a_o_tape a_o_cityReader a_o_weeksReader a_o_trays a_o_planner a_o_ruler a_o_life a_o_latestLife a_o_tape_text o_marked o_wasLived o_wasParsed o_faultKind o_faultPlace o_latestStatus o_fractionTop o_fractionBottom o_tape_held o_tape_length o_tape_place o_tape_next o_tape_sort o_tape_value o_tape_code o_tape_fault o_tape_faultPlace) (wd_X11_keepFault E a_o a_o_city a_o_ahead a_o_marks a_o_tape a_o_cityReader a_o_weeksReader a_o_trays a_o_planner a_o_ruler a_o_life a_o_latestLife a_o_tape_text o_marked o_wasLived u.1 u.2.1 u.2.2 o_latestStatus o_fractionTop o_fractionBottom o_tape_held o_tape_length o_tape_place o_tape_next o_tape_sort o_tape_value o_tape_code o_tape_fault o_tape_faultPlace) := by
  refine ctV (by decide) (Nat.le_of_ble_eq_true rfl) ?_
  intro p e s m below meth cd A ls aa QQ hq cx hP hD hS hl
  obtain ⟨⟨hx, hb, hml, hown, hts⟩, hr, hlocks, hK, hA, hX⟩ := id cx
  have hl : lv_has ls 1 [(0, .ref a_o)] := hl
  unfold X11_keepFault at hf
  refine lv_aload_n hx hb dX11_keepFault_0 rfl (lv_at hl 0 rfl) ?_
  refine lv_iconst (v := 1) hx hb dX11_keepFault_1 (by decide) ?_
  refine va_put (D := E.1) (ci := 11) (v := .int 1) (ty := .boolean) (C := RX11) (T := TX11) (N := 19) hx hb hts inX11 tyX11 tyX11_ok nmX11 hown hK hP hD hS 0 rfl rfl 13 (by decide) (hts _ fl_X11_201) (fun _ h9 => h9) rfl (by decide +kernel) rfl rfl (Nat.le_of_ble_eq_true rfl) dX11_keepFault_2 (fun H locs hP hD hS => ?_)
  have hP : va_P E.1 vwCl (wd_X11_keepFault E a_o a_o_city a_o_ahead a_o_marks a_o_tape a_o_cityReader a_o_weeksReader a_o_trays a_o_planner a_o_ruler a_o_life a_o_latestLife a_o_tape_text o_marked o_wasLived 1 o_faultKind o_faultPlace o_latestStatus o_fractionTop o_fractionBottom o_tape_held o_tape_length o_tape_place o_tape_next o_tape_sort o_tape_value o_tape_code o_tape_fault o_tape_faultPlace) H := hP
  have hD : va_D A (wd_X11_keepFault E a_o a_o_city a_o_ahead a_o_marks a_o_tape a_o_cityReader a_o_weeksReader a_o_trays a_o_planner a_o_ruler a_o_life a_o_latestLife a_o_tape_text o_marked o_wasLived 1 o_faultKind o_faultPlace o_latestStatus o_fractionTop o_fractionBottom o_tape_held o_tape_length o_tape_place o_tape_next o_tape_sort o_tape_value o_tape_code o_tape_fault o_tape_faultPlace) := hD
  refine lv_aload_n hx hb dX11_keepFault_5 rfl (lv_at hl 0 rfl) ?_
  refine lv_aload_n hx hb dX11_keepFault_6 rfl (lv_at hl 0 rfl) ?_
  refine va_get (D := E.1) (ci := 11) (v := .ref a_o_tape) (C := RX11) (T := TX11) (N := 19) hx hb hts inX11 hown hK hP 0 rfl rfl 4 (by decide) (hts _ fl_X11_26) (fun _ h9 => h9) rfl dX11_keepFault_7 ?_
  refine va_get (D := E.1) (ci := 8) (v := .int o_tape_fault) (C := RX8) (T := TX8) (N := 10) hx hb hts inX8 hown hK hP 1 rfl rfl 8 (by decide) (hts _ fl_X11_397) (fun _ h9 => h9) rfl dX11_keepFault_10 ?_
  refine va_put (D := E.1) (ci := 11) (v := .int o_tape_fault) (ty := .int) (C := RX11) (T := TX11) (N := 19) hx hb hts inX11 tyX11 tyX11_ok nmX11 hown hK hP hD hS 0 rfl rfl 14 (by decide) (hts _ fl_X11_204) (fun _ h9 => h9) rfl (by decide +kernel) rfl rfl (Nat.le_of_ble_eq_true rfl) dX11_keepFault_13 (fun H locs hP hD hS => ?_)
  have hP : va_P E.1 vwCl (wd_X11_keepFault E a_o a_o_city a_o_ahead a_o_marks a_o_tape a_o_cityReader a_o_weeksReader a_o_trays a_o_planner a_o_ruler a_o_life a_o_latestLife a_o_tape_text o_marked o_wasLived 1 o_tape_fault o_faultPlace o_latestStatus o_fractionTop o_fractionBottom o_tape_held o_tape_length o_tape_place o_tape_next o_tape_sort o_tape_value o_tape_code o_tape_fault o_tape_faultPlace) H := hP
  have hD : va_D A (wd_X11_keepFault E a_o a_o_city a_o_ahead a_o_marks a_o_tape a_o_cityReader a_o_weeksReader a_o_trays a_o_planner a_o_ruler a_o_life a_o_latestLife a_o_tape_text o_marked o_wasLived 1 o_tape_fault o_faultPlace o_latestStatus o_fractionTop o_fractionBottom o_tape_held o_tape_length o_tape_place o_tape_next o_tape_sort o_tape_value o_tape_code o_tape_fault o_tape_faultPlace) := hD
  refine lv_aload_n hx hb dX11_keepFault_16 rfl (lv_at hl 0 rfl) ?_
  refine lv_aload_n hx hb dX11_keepFault_17 rfl (lv_at hl 0 rfl) ?_
  refine va_get (D := E.1) (ci := 11) (v := .ref a_o_tape) (C := RX11) (T := TX11) (N := 19) hx hb hts inX11 hown hK hP 0 rfl rfl 4 (by decide) (hts _ fl_X11_26) (fun _ h9 => h9) rfl dX11_keepFault_18 ?_
  refine va_get (D := E.1) (ci := 8) (v := .int o_tape_faultPlace) (C := RX8) (T := TX8) (N := 10) hx hb hts inX8 hown hK hP 1 rfl rfl 9 (by decide) (hts _ fl_X11_400) (fun _ h9 => h9) rfl dX11_keepFault_21 ?_
  refine va_put (D := E.1) (ci := 11) (v := .int o_tape_faultPlace) (ty := .int) (C := RX11) (T := TX11) (N := 19) hx hb hts inX11 tyX11 tyX11_ok nmX11 hown hK hP hD hS 0 rfl rfl 15 (by decide) (hts _ fl_X11_78) (fun _ h9 => h9) rfl (by decide +kernel) rfl rfl (Nat.le_of_ble_eq_true rfl) dX11_keepFault_24 (fun H locs hP hD hS => ?_)
  have hP : va_P E.1 vwCl (wd_X11_keepFault E a_o a_o_city a_o_ahead a_o_marks a_o_tape a_o_cityReader a_o_weeksReader a_o_trays a_o_planner a_o_ruler a_o_life a_o_latestLife a_o_tape_text o_marked o_wasLived 1 o_tape_fault o_tape_faultPlace o_latestStatus o_fractionTop o_fractionBottom o_tape_held o_tape_length o_tape_place o_tape_next o_tape_sort o_tape_value o_tape_code o_tape_fault o_tape_faultPlace) H := hP
  have hD : va_D A (wd_X11_keepFault E a_o a_o_city a_o_ahead a_o_marks a_o_tape a_o_cityReader a_o_weeksReader a_o_trays a_o_planner a_o_ruler a_o_life a_o_latestLife a_o_tape_text o_marked o_wasLived 1 o_tape_fault o_tape_faultPlace o_latestStatus o_fractionTop o_fractionBottom o_tape_held o_tape_length o_tape_place o_tape_next o_tape_sort o_tape_value o_tape_code o_tape_fault o_tape_faultPlace) := hD
  obtain rfl := Option.some.inj hf
  subst hq
  exact retV cx hP hD hS dX11_keepFault_27
def X11_answer (o_latestStatus : Int32) (v1 : Int32) : Option (Int32 × Int32) :=
  some (v1, 0)
abbrev wd_X11_answer (E : vE) (a_o a_o_city a_o_ahead a_o_marks a_o_tape a_o_cityReader a_o_weeksReader a_o_trays a_o_planner a_o_ruler a_o_life a_o_latestLife : Nat) (o_marked : Int32) (o_wasLived : Int32) (o_wasParsed : Int32) (o_faultKind : Int32) (o_faultPlace : Int32) (o_latestStatus : Int32) (o_fractionTop : Int64) (o_fractionBottom : Int64) : va_W := [(a_o, .inr (11, [.ref a_o_city, .ref a_o_ahead, .ref a_o_marks, .int o_marked, .ref a_o_tape, .ref a_o_cityReader, .ref a_o_weeksReader, .ref a_o_trays, .ref a_o_planner, .ref a_o_ruler, .ref a_o_life, .ref a_o_latestLife, .int o_wasLived, .int o_wasParsed, .int o_faultKind, .int o_faultPlace, .int o_latestStatus, .long o_fractionTop, .long o_fractionBottom]))]
set_option maxHeartbeats 4000000 in
set_option maxRecDepth 100000 in
theorem ct_X11_answer (l : Launch) (E : vE) (a_o a_o_city a_o_ahead a_o_marks a_o_tape a_o_cityReader a_o_weeksReader a_o_trays a_o_planner a_o_ruler a_o_life a_o_latestLife : Nat) (o_marked : Int32) (o_wasLived : Int32) (o_wasParsed : Int32) (o_faultKind : Int32) (o_faultPlace : Int32) (o_latestStatus : Int32) (o_fractionTop : Int64) (o_fractionBottom : Int64) (v1 : Int32) (u : Int32 × Int32) (hf : X11_answer o_latestStatus v1 = some u) :
    CtI l yX11_answer cX11_answer 2 (some .int) 0 E [.ref a_o, .int v1] (wd_X11_answer E a_o a_o_city a_o_ahead a_o_marks a_o_tape a_o_cityReader a_o_weeksReader a_o_trays a_o_planner a_o_ruler a_o_life a_o_latestLife o_marked o_wasLived o_wasParsed o_faultKind o_faultPlace o_latestStatus o_fractionTop o_fractionBottom) (wd_X11_answer E a_o a_o_city a_o_ahead a_o_marks a_o_tape a_o_cityReader a_o_weeksReader a_o_trays a_o_planner a_o_ruler a_o_life a_o_latestLife o_marked o_wasLived o_wasParsed o_faultKind o_faultPlace u.2 o_fractionTop o_fractionBottom) u.1 := by
  refine ctI (by decide) (Nat.le_of_ble_eq_true rfl) ?_
  intro p e s m below meth cd A ls aa QQ hq cx hP hD hS hl
  obtain ⟨⟨hx, hb, hml, hown, hts⟩, hr, hlocks, hK, hA, hX⟩ := id cx
  have hl : lv_has ls 2 [(0, .ref a_o), (1, .int v1)] := hl
  unfold X11_answer at hf
  refine lv_aload_n hx hb dX11_answer_0 rfl (lv_at hl 0 rfl) ?_
  refine lv_iconst (v := 0) hx hb dX11_answer_1 (by decide) ?_
  refine va_put (D := E.1) (ci := 11) (v := .int 0) (ty := .int) (C := RX11) (T := TX11) (N := 19) hx hb hts inX11 tyX11 tyX11_ok nmX11 hown hK hP hD hS 0 rfl rfl 16 (by decide) (hts _ fl_X11_86) (fun _ h9 => h9) rfl (by decide +kernel) rfl rfl (Nat.le_of_ble_eq_true rfl) dX11_answer_2 (fun H locs hP hD hS => ?_)
  have hP : va_P E.1 vwCl (wd_X11_answer E a_o a_o_city a_o_ahead a_o_marks a_o_tape a_o_cityReader a_o_weeksReader a_o_trays a_o_planner a_o_ruler a_o_life a_o_latestLife o_marked o_wasLived o_wasParsed o_faultKind o_faultPlace 0 o_fractionTop o_fractionBottom) H := hP
  have hD : va_D A (wd_X11_answer E a_o a_o_city a_o_ahead a_o_marks a_o_tape a_o_cityReader a_o_weeksReader a_o_trays a_o_planner a_o_ruler a_o_life a_o_latestLife o_marked o_wasLived o_wasParsed o_faultKind o_faultPlace 0 o_fractionTop o_fractionBottom) := hD
  refine lv_iload_n hx hb dX11_answer_5 rfl (lv_at hl 1 rfl) ?_
  obtain rfl := Option.some.inj hf
  subst hq
  exact retI cx hP hD hS dX11_answer_6
def X11_city (F : Nat) (o_wasParsed : Int32) (o_faultKind : Int32) (o_faultPlace : Int32) (o_latestStatus : Int32) (o_city_wage : Int32) (o_city_delay : Int32) (o_city_odds : Int32) (o_city_clock : Int32) (o_city_hasWeeks : Int32) (o_city_streets_corners : Int32) (o_city_streets_roads_many : Int32) (o_city_streets_roads_cells : Nat → Int32) (o_city_streets_takes : Nat → Int32) (o_city_streets_hours : Nat → Int32) (o_city_names_many : Int32) (o_city_names_codes : Nat → Int64) (o_city_names_sorts : Nat → Int32) (o_city_names_numbers : Nat → Int32) (o_city_extras_many : Int32) (o_city_extras_cells : Nat → Int32) (o_city_happenings_many : Int32) (o_city_happenings_cells : Nat → Int32) (o_city_watchers_many : Int32) (o_city_watchers_cells : Nat → Int32) (o_city_weeks_many : Int32) (o_city_weeks_cells : Nat → Int32) (o_tape_held : Int32) (o_tape_length : Int32) (o_tape_place : Int32) (o_tape_next : Int32) (o_tape_sort : Int32) (o_tape_value : Int32) (o_tape_code : Int64) (o_tape_fault : Int32) (o_tape_faultPlace : Int32) (o_tape_text : Nat → Int32) (o_cityReader_rulesTold : Int32) (o_cityReader_draft_wage : Int32) (o_cityReader_draft_delay : Int32) (o_cityReader_draft_odds : Int32) (o_cityReader_draft_clock : Int32) (o_cityReader_draft_hasWeeks : Int32) (o_cityReader_draft_streets_corners : Int32) (o_cityReader_draft_streets_roads_many : Int32) (o_cityReader_draft_streets_roads_cells : Nat → Int32) (o_cityReader_draft_streets_takes : Nat → Int32) (o_cityReader_draft_streets_hours : Nat → Int32) (o_cityReader_draft_names_many : Int32) (o_cityReader_draft_names_codes : Nat → Int64) (o_cityReader_draft_names_sorts : Nat → Int32) (o_cityReader_draft_names_numbers : Nat → Int32) (o_cityReader_draft_extras_many : Int32) (o_cityReader_draft_extras_cells : Nat → Int32) (o_cityReader_draft_happenings_many : Int32) (o_cityReader_draft_happenings_cells : Nat → Int32) (o_cityReader_draft_watchers_many : Int32) (o_cityReader_draft_watchers_cells : Nat → Int32) (o_cityReader_draft_weeks_many : Int32) (o_cityReader_draft_weeks_cells : Nat → Int32) (v1 : Int32) : Option (vS) :=
  (X11_within v1 (0 : Int32) o_tape_held).bind fun u9 =>
  if u9 = 0 then
  (X11_none o_latestStatus (1 : Int32)).bind fun u17 =>
  some (mkS [u17.1, o_wasParsed, o_faultKind, o_faultPlace, u17.2, o_city_wage, o_city_delay, o_city_odds, o_city_clock, o_city_hasWeeks, o_city_streets_corners, o_city_streets_roads_many, o_city_names_many, o_city_extras_many, o_city_happenings_many, o_city_watchers_many, o_city_weeks_many, o_tape_held, o_tape_length, o_tape_place, o_tape_next, o_tape_sort, o_tape_value, o_tape_fault, o_tape_faultPlace, o_cityReader_rulesTold, o_cityReader_draft_wage, o_cityReader_draft_delay, o_cityReader_draft_odds, o_cityReader_draft_clock, o_cityReader_draft_hasWeeks, o_cityReader_draft_streets_corners, o_cityReader_draft_streets_roads_many, o_cityReader_draft_names_many, o_cityReader_draft_extras_many, o_cityReader_draft_happenings_many, o_cityReader_draft_watchers_many, o_cityReader_draft_weeks_many] [o_tape_code] [o_city_streets_roads_cells, o_city_streets_takes, o_city_streets_hours, o_city_names_sorts, o_city_names_numbers, o_city_extras_cells, o_city_happenings_cells, o_city_watchers_cells, o_city_weeks_cells, o_cityReader_draft_streets_roads_cells, o_cityReader_draft_streets_takes, o_cityReader_draft_streets_hours, o_cityReader_draft_names_sorts, o_cityReader_draft_names_numbers, o_cityReader_draft_extras_cells, o_cityReader_draft_happenings_cells, o_cityReader_draft_watchers_cells] [o_city_names_codes, o_cityReader_draft_names_codes])
  else
  (X1_parse F o_cityReader_rulesTold o_tape_held o_tape_length o_tape_place o_tape_next o_tape_sort o_tape_value o_tape_code o_tape_fault o_tape_faultPlace o_tape_text o_cityReader_draft_wage o_cityReader_draft_delay o_cityReader_draft_odds o_cityReader_draft_clock o_cityReader_draft_hasWeeks o_cityReader_draft_streets_corners o_cityReader_draft_streets_roads_many o_cityReader_draft_streets_roads_cells o_cityReader_draft_streets_takes o_cityReader_draft_streets_hours o_cityReader_draft_names_many o_cityReader_draft_names_codes o_cityReader_draft_names_sorts o_cityReader_draft_names_numbers o_cityReader_draft_extras_many o_cityReader_draft_extras_cells o_cityReader_draft_happenings_many o_cityReader_draft_happenings_cells o_cityReader_draft_watchers_many o_cityReader_draft_watchers_cells o_cityReader_draft_weeks_many v1).bind fun u26 =>
  (X11_keepFault o_wasParsed o_faultKind o_faultPlace (u26.1 8) (u26.1 9)).bind fun u31 =>
  if (u26.1 0) = 0 then
  (X11_none o_latestStatus (9 : Int32)).bind fun u41 =>
  some (mkS [u41.1, u31.1, u31.2.1, u31.2.2, u41.2, o_city_wage, o_city_delay, o_city_odds, o_city_clock, o_city_hasWeeks, o_city_streets_corners, o_city_streets_roads_many, o_city_names_many, o_city_extras_many, o_city_happenings_many, o_city_watchers_many, o_city_weeks_many, (u26.1 2), (u26.1 3), (u26.1 4), (u26.1 5), (u26.1 6), (u26.1 7), (u26.1 8), (u26.1 9), (u26.1 1), (u26.1 10), (u26.1 11), (u26.1 12), (u26.1 13), (u26.1 14), (u26.1 15), (u26.1 16), (u26.1 17), (u26.1 18), (u26.1 19), (u26.1 20), (u26.1 21)] [(u26.2.1 0)] [o_city_streets_roads_cells, o_city_streets_takes, o_city_streets_hours, o_city_names_sorts, o_city_names_numbers, o_city_extras_cells, o_city_happenings_cells, o_city_watchers_cells, o_city_weeks_cells, (u26.2.2.1 0), (u26.2.2.1 1), (u26.2.2.1 2), (u26.2.2.1 3), (u26.2.2.1 4), (u26.2.2.1 5), (u26.2.2.1 6), (u26.2.2.1 7)] [o_city_names_codes, (u26.2.2.2 0)])
  else
  (X0_copyFrom o_city_wage o_city_delay o_city_odds o_city_clock o_city_hasWeeks o_city_streets_corners o_city_streets_roads_many o_city_streets_roads_cells o_city_streets_takes o_city_streets_hours o_city_names_many o_city_names_codes o_city_names_sorts o_city_names_numbers o_city_extras_many o_city_extras_cells o_city_happenings_many o_city_happenings_cells o_city_watchers_many o_city_watchers_cells o_city_weeks_many o_city_weeks_cells (u26.1 10) (u26.1 11) (u26.1 12) (u26.1 13) (u26.1 14) (u26.1 15) (u26.1 16) (u26.2.2.1 0) (u26.2.2.1 1) (u26.2.2.1 2) (u26.1 17) (u26.2.2.2 0) (u26.2.2.1 3) (u26.2.2.1 4) (u26.1 18) (u26.2.2.1 5) (u26.1 19) (u26.2.2.1 6) (u26.1 20) (u26.2.2.1 7) (u26.1 21) o_cityReader_draft_weeks_cells).bind fun u56 =>
  (X11_answer o_latestStatus (u56.1 5)).bind fun u70 =>
  some (mkS [u70.1, u31.1, u31.2.1, u31.2.2, u70.2, (u56.1 0), (u56.1 1), (u56.1 2), (u56.1 3), (u56.1 4), (u56.1 5), (u56.1 6), (u56.1 7), (u56.1 8), (u56.1 9), (u56.1 10), (u56.1 11), (u26.1 2), (u26.1 3), (u26.1 4), (u26.1 5), (u26.1 6), (u26.1 7), (u26.1 8), (u26.1 9), (u26.1 1), (u26.1 10), (u26.1 11), (u26.1 12), (u26.1 13), (u26.1 14), (u26.1 15), (u26.1 16), (u26.1 17), (u26.1 18), (u26.1 19), (u26.1 20), (u26.1 21)] [(u26.2.1 0)] [(u56.2.2.1 0), (u56.2.2.1 1), (u56.2.2.1 2), (u56.2.2.1 3), (u56.2.2.1 4), (u56.2.2.1 5), (u56.2.2.1 6), (u56.2.2.1 7), (u56.2.2.1 8), (u26.2.2.1 0), (u26.2.2.1 1), (u26.2.2.1 2), (u26.2.2.1 3), (u26.2.2.1 4), (u26.2.2.1 5), (u26.2.2.1 6), (u26.2.2.1 7)] [(u56.2.2.2 0), (u26.2.2.2 0)])
abbrev wd_X11_city (E : vE) (a_o a_o_city a_o_ahead a_o_marks a_o_tape a_o_cityReader a_o_weeksReader a_o_trays a_o_planner a_o_ruler a_o_life a_o_latestLife a_o_city_streets a_o_city_names a_o_city_extras a_o_city_happenings a_o_city_watchers a_o_city_weeks a_o_city_streets_roads a_o_city_streets_takes a_o_city_streets_hours a_o_city_streets_roads_cells a_o_city_names_codes a_o_city_names_sorts a_o_city_names_numbers a_o_city_extras_cells a_o_city_happenings_cells a_o_city_watchers_cells a_o_city_weeks_cells a_o_tape_text a_o_cityReader_draft a_o_cityReader_draft_streets a_o_cityReader_draft_names a_o_cityReader_draft_extras a_o_cityReader_draft_happenings a_o_cityReader_draft_watchers a_o_cityReader_draft_weeks a_o_cityReader_draft_streets_roads a_o_cityReader_draft_streets_takes a_o_cityReader_draft_streets_hours a_o_cityReader_draft_streets_roads_cells a_o_cityReader_draft_names_codes a_o_cityReader_draft_names_sorts a_o_cityReader_draft_names_numbers a_o_cityReader_draft_extras_cells a_o_cityReader_draft_happenings_cells a_o_cityReader_draft_watchers_cells a_o_cityReader_draft_weeks_cells : Nat) (o_marked : Int32) (o_wasLived : Int32) (o_wasParsed : Int32) (o_faultKind : Int32) (o_faultPlace : Int32) (o_latestStatus : Int32) (o_fractionTop : Int64) (o_fractionBottom : Int64) (o_city_wage : Int32) (o_city_delay : Int32) (o_city_odds : Int32) (o_city_clock : Int32) (o_city_hasWeeks : Int32) (o_city_streets_corners : Int32) (o_city_streets_roads_many : Int32) (o_city_streets_roads_cells : Nat → Int32) (o_city_streets_takes : Nat → Int32) (o_city_streets_hours : Nat → Int32) (o_city_names_many : Int32) (o_city_names_codes : Nat → Int64) (o_city_names_sorts : Nat → Int32) (o_city_names_numbers : Nat → Int32) (o_city_extras_many : Int32) (o_city_extras_cells : Nat → Int32) (o_city_happenings_many : Int32) (o_city_happenings_cells : Nat → Int32) (o_city_watchers_many : Int32) (o_city_watchers_cells : Nat → Int32) (o_city_weeks_many : Int32) (o_city_weeks_cells : Nat → Int32) (o_tape_held : Int32) (o_tape_length : Int32) (o_tape_place : Int32) (o_tape_next : Int32) (o_tape_sort : Int32) (o_tape_value : Int32) (o_tape_code : Int64) (o_tape_fault : Int32) (o_tape_faultPlace : Int32) (o_tape_text : Nat → Int32) (o_cityReader_rulesTold : Int32) (o_cityReader_draft_wage : Int32) (o_cityReader_draft_delay : Int32) (o_cityReader_draft_odds : Int32) (o_cityReader_draft_clock : Int32) (o_cityReader_draft_hasWeeks : Int32) (o_cityReader_draft_streets_corners : Int32) (o_cityReader_draft_streets_roads_many : Int32) (o_cityReader_draft_streets_roads_cells : Nat → Int32) (o_cityReader_draft_streets_takes : Nat → Int32) (o_cityReader_draft_streets_hours : Nat → Int32) (o_cityReader_draft_names_many : Int32) (o_cityReader_draft_names_codes : Nat → Int64) (o_cityReader_draft_names_sorts : Nat → Int32) (o_cityReader_draft_names_numbers : Nat → Int32) (o_cityReader_draft_extras_many : Int32) (o_cityReader_draft_extras_cells : Nat → Int32) (o_cityReader_draft_happenings_many : Int32) (o_cityReader_draft_happenings_cells : Nat → Int32) (o_cityReader_draft_watchers_many : Int32) (o_cityReader_draft_watchers_cells : Nat → Int32) (o_cityReader_draft_weeks_many : Int32) (o_cityReader_draft_weeks_cells : Nat → Int32) : va_W := [(a_o, .inr (11, [.ref a_o_city, .ref a_o_ahead, .ref a_o_marks, .int o_marked, .ref a_o_tape, .ref a_o_cityReader, .ref a_o_weeksReader, .ref a_o_trays, .ref a_o_planner, .ref a_o_ruler, .ref a_o_life, .ref a_o_latestLife, .int o_wasLived, .int o_wasParsed, .int o_faultKind, .int o_faultPlace, .int o_latestStatus, .long o_fractionTop, .long o_fractionBottom])), (a_o_city, .inr (0, [.int o_city_wage, .int o_city_delay, .int o_city_odds, .int o_city_clock, .int o_city_hasWeeks, .ref a_o_city_streets, .ref a_o_city_names, .ref a_o_city_extras, .ref a_o_city_happenings, .ref a_o_city_watchers, .ref a_o_city_weeks])), (a_o_city_streets, .inr (6, [.int o_city_streets_corners, .ref a_o_city_streets_roads, .ref a_o_city_streets_takes, .ref a_o_city_streets_hours])), (a_o_city_streets_roads, .inr (7, [.int 2, .ref a_o_city_streets_roads_cells, .int o_city_streets_roads_many])), (a_o_city_streets_roads_cells, .inl (E.2.1, 24, .inl o_city_streets_roads_cells)), (a_o_city_streets_takes, .inl (E.2.1, 64, .inl o_city_streets_takes)), (a_o_city_streets_hours, .inl (E.2.1, 64, .inl o_city_streets_hours)), (a_o_city_names, .inr (3, [.ref a_o_city_names_codes, .ref a_o_city_names_sorts, .ref a_o_city_names_numbers, .int o_city_names_many])), (a_o_city_names_codes, .inl (E.2.2.1, 27, .inr (.inl o_city_names_codes))), (a_o_city_names_sorts, .inl (E.2.1, 27, .inl o_city_names_sorts)), (a_o_city_names_numbers, .inl (E.2.1, 27, .inl o_city_names_numbers)), (a_o_city_extras, .inr (7, [.int 5, .ref a_o_city_extras_cells, .int o_city_extras_many])), (a_o_city_extras_cells, .inl (E.2.1, 35, .inl o_city_extras_cells)), (a_o_city_happenings, .inr (7, [.int 5, .ref a_o_city_happenings_cells, .int o_city_happenings_many])), (a_o_city_happenings_cells, .inl (E.2.1, 40, .inl o_city_happenings_cells)), (a_o_city_watchers, .inr (7, [.int 3, .ref a_o_city_watchers_cells, .int o_city_watchers_many])), (a_o_city_watchers_cells, .inl (E.2.1, 12, .inl o_city_watchers_cells)), (a_o_city_weeks, .inr (7, [.int 6, .ref a_o_city_weeks_cells, .int o_city_weeks_many])), (a_o_city_weeks_cells, .inl (E.2.1, 180, .inl o_city_weeks_cells)), (a_o_tape, .inr (8, [.ref a_o_tape_text, .int o_tape_held, .int o_tape_length, .int o_tape_place, .int o_tape_next, .int o_tape_sort, .int o_tape_value, .long o_tape_code, .int o_tape_fault, .int o_tape_faultPlace])), (a_o_tape_text, .inl (E.2.1, 900, .inl o_tape_text)), (a_o_cityReader, .inr (1, [.ref a_o_tape, .ref a_o_cityReader_draft, .int o_cityReader_rulesTold])), (a_o_cityReader_draft, .inr (0, [.int o_cityReader_draft_wage, .int o_cityReader_draft_delay, .int o_cityReader_draft_odds, .int o_cityReader_draft_clock, .int o_cityReader_draft_hasWeeks, .ref a_o_cityReader_draft_streets, .ref a_o_cityReader_draft_names, .ref a_o_cityReader_draft_extras, .ref a_o_cityReader_draft_happenings, .ref a_o_cityReader_draft_watchers, .ref a_o_cityReader_draft_weeks])), (a_o_cityReader_draft_streets, .inr (6, [.int o_cityReader_draft_streets_corners, .ref a_o_cityReader_draft_streets_roads, .ref a_o_cityReader_draft_streets_takes, .ref a_o_cityReader_draft_streets_hours])), (a_o_cityReader_draft_streets_roads, .inr (7, [.int 2, .ref a_o_cityReader_draft_streets_roads_cells, .int o_cityReader_draft_streets_roads_many])), (a_o_cityReader_draft_streets_roads_cells, .inl (E.2.1, 24, .inl o_cityReader_draft_streets_roads_cells)), (a_o_cityReader_draft_streets_takes, .inl (E.2.1, 64, .inl o_cityReader_draft_streets_takes)), (a_o_cityReader_draft_streets_hours, .inl (E.2.1, 64, .inl o_cityReader_draft_streets_hours)), (a_o_cityReader_draft_names, .inr (3, [.ref a_o_cityReader_draft_names_codes, .ref a_o_cityReader_draft_names_sorts, .ref a_o_cityReader_draft_names_numbers, .int o_cityReader_draft_names_many])), (a_o_cityReader_draft_names_codes, .inl (E.2.2.1, 27, .inr (.inl o_cityReader_draft_names_codes))), (a_o_cityReader_draft_names_sorts, .inl (E.2.1, 27, .inl o_cityReader_draft_names_sorts)), (a_o_cityReader_draft_names_numbers, .inl (E.2.1, 27, .inl o_cityReader_draft_names_numbers)), (a_o_cityReader_draft_extras, .inr (7, [.int 5, .ref a_o_cityReader_draft_extras_cells, .int o_cityReader_draft_extras_many])), (a_o_cityReader_draft_extras_cells, .inl (E.2.1, 35, .inl o_cityReader_draft_extras_cells)), (a_o_cityReader_draft_happenings, .inr (7, [.int 5, .ref a_o_cityReader_draft_happenings_cells, .int o_cityReader_draft_happenings_many])), (a_o_cityReader_draft_happenings_cells, .inl (E.2.1, 40, .inl o_cityReader_draft_happenings_cells)), (a_o_cityReader_draft_watchers, .inr (7, [.int 3, .ref a_o_cityReader_draft_watchers_cells, .int o_cityReader_draft_watchers_many])), (a_o_cityReader_draft_watchers_cells, .inl (E.2.1, 12, .inl o_cityReader_draft_watchers_cells)), (a_o_cityReader_draft_weeks, .inr (7, [.int 6, .ref a_o_cityReader_draft_weeks_cells, .int o_cityReader_draft_weeks_many])), (a_o_cityReader_draft_weeks_cells, .inl (E.2.1, 180, .inl o_cityReader_draft_weeks_cells))]
set_option maxHeartbeats 4000000 in
set_option maxRecDepth 100000 in
theorem ct_X11_city (l : Launch) (E : vE) (F : Nat) (a_o a_o_city a_o_ahead a_o_marks a_o_tape a_o_cityReader a_o_weeksReader a_o_trays a_o_planner a_o_ruler a_o_life a_o_latestLife a_o_city_streets a_o_city_names a_o_city_extras a_o_city_happenings a_o_city_watchers a_o_city_weeks a_o_city_streets_roads a_o_city_streets_takes a_o_city_streets_hours a_o_city_streets_roads_cells a_o_city_names_codes a_o_city_names_sorts a_o_city_names_numbers a_o_city_extras_cells a_o_city_happenings_cells a_o_city_watchers_cells a_o_city_weeks_cells a_o_tape_text a_o_cityReader_draft a_o_cityReader_draft_streets a_o_cityReader_draft_names a_o_cityReader_draft_extras a_o_cityReader_draft_happenings a_o_cityReader_draft_watchers a_o_cityReader_draft_weeks a_o_cityReader_draft_streets_roads a_o_cityReader_draft_streets_takes a_o_cityReader_draft_streets_hours a_o_cityReader_draft_streets_roads_cells a_o_cityReader_draft_names_codes a_o_cityReader_draft_names_sorts a_o_cityReader_draft_names_numbers a_o_cityReader_draft_extras_cells a_o_cityReader_draft_happenings_cells a_o_cityReader_draft_watchers_cells a_o_cityReader_draft_weeks_cells : Nat) (o_marked : Int32) (o_wasLived : Int32) (o_wasParsed : Int32) (o_faultKind : Int32) (o_faultPlace : Int32) (o_latestStatus : Int32) (o_fractionTop : Int64) (o_fractionBottom : Int64) (o_city_wage : Int32) (o_city_delay : Int32) (o_city_odds : Int32) (o_city_clock : Int32) (o_city_hasWeeks : Int32) (o_city_streets_corners : Int32) (o_city_streets_roads_many : Int32) (o_city_streets_roads_cells : Nat → Int32) (o_city_streets_takes : Nat → Int32) (o_city_streets_hours : Nat → Int32) (o_city_names_many : Int32) (o_city_names_codes : Nat → Int64) (o_city_names_sorts : Nat → Int32) (o_city_names_numbers : Nat → Int32) (o_city_extras_many : Int32) (o_city_extras_cells : Nat → Int32) (o_city_happenings_many : Int32) (o_city_happenings_cells : Nat → Int32) (o_city_watchers_many : Int32) (o_city_watchers_cells : Nat → Int32) (o_city_weeks_many : Int32) (o_city_weeks_cells : Nat → Int32) (o_tape_held : Int32) (o_tape_length : Int32) (o_tape_place : Int32) (o_tape_next : Int32) (o_tape_sort : Int32) (o_tape_value : Int32) (o_tape_code : Int64) (o_tape_fault : Int32) (o_tape_faultPlace : Int32) (o_tape_text : Nat → Int32) (o_cityReader_rulesTold : Int32) (o_cityReader_draft_wage : Int32) (o_cityReader_draft_delay : Int32) (o_cityReader_draft_odds : Int32) (o_cityReader_draft_clock : Int32) (o_cityReader_draft_hasWeeks : Int32) (o_cityReader_draft_streets_corners : Int32) (o_cityReader_draft_streets_roads_many : Int32) (o_cityReader_draft_streets_roads_cells : Nat → Int32) (o_cityReader_draft_streets_takes : Nat → Int32) (o_cityReader_draft_streets_hours : Nat → Int32) (o_cityReader_draft_names_many : Int32) (o_cityReader_draft_names_codes : Nat → Int64) (o_cityReader_draft_names_sorts : Nat → Int32) (o_cityReader_draft_names_numbers : Nat → Int32) (o_cityReader_draft_extras_many : Int32) (o_cityReader_draft_extras_cells : Nat → Int32) (o_cityReader_draft_happenings_many : Int32) (o_cityReader_draft_happenings_cells : Nat → Int32) (o_cityReader_draft_watchers_many : Int32) (o_cityReader_draft_watchers_cells : Nat → Int32) (o_cityReader_draft_weeks_many : Int32) (o_cityReader_draft_weeks_cells : Nat → Int32) (v1 : Int32) (u : vS) (hf : X11_city F o_wasParsed o_faultKind o_faultPlace o_latestStatus o_city_wage o_city_delay o_city_odds o_city_clock o_city_hasWeeks o_city_streets_corners o_city_streets_roads_many o_city_streets_roads_cells o_city_streets_takes o_city_streets_hours o_city_names_many o_city_names_codes o_city_names_sorts o_city_names_numbers o_city_extras_many o_city_extras_cells o_city_happenings_many o_city_happenings_cells o_city_watchers_many o_city_watchers_cells o_city_weeks_many o_city_weeks_cells o_tape_held o_tape_length o_tape_place o_tape_next o_tape_sort o_tape_value o_tape_code o_tape_fault o_tape_faultPlace o_tape_text o_cityReader_rulesTold o_cityReader_draft_wage o_cityReader_draft_delay o_cityReader_draft_odds o_cityReader_draft_clock o_cityReader_draft_hasWeeks o_cityReader_draft_streets_corners o_cityReader_draft_streets_roads_many o_cityReader_draft_streets_roads_cells o_cityReader_draft_streets_takes o_cityReader_draft_streets_hours o_cityReader_draft_names_many o_cityReader_draft_names_codes o_cityReader_draft_names_sorts o_cityReader_draft_names_numbers o_cityReader_draft_extras_many o_cityReader_draft_extras_cells o_cityReader_draft_happenings_many o_cityReader_draft_happenings_cells o_cityReader_draft_watchers_many o_cityReader_draft_watchers_cells o_cityReader_draft_weeks_many o_cityReader_draft_weeks_cells v1 = some u) :
    CtI l yX11_city cX11_city 3 (some .int) 10 E [.ref a_o, .int v1] (wd_X11_city E a_o a_o_city a_o_ahead a_o_marks a_o_tape a_o_cityReader a_o_weeksReader a_o_trays a_o_planner a_o_ruler a_o_life a_o_latestLife a_o_city_streets a_o_city_names a_o_city_extras a_o_city_happenings a_o_city_watchers a_o_city_weeks a_o_city_streets_roads a_o_city_streets_takes a_o_city_streets_hours a_o_city_streets_roads_cells a_o_city_names_codes a_o_city_names_sorts a_o_city_names_numbers a_o_city_extras_cells a_o_city_happenings_cells a_o_city_watchers_cells a_o_city_weeks_cells a_o_tape_text a_o_cityReader_draft a_o_cityReader_draft_streets a_o_cityReader_draft_names a_o_cityReader_draft_extras a_o_cityReader_draft_happenings a_o_cityReader_draft_watchers a_o_cityReader_draft_weeks a_o_cityReader_draft_streets_roads a_o_cityReader_draft_streets_takes a_o_cityReader_draft_streets_hours a_o_cityReader_draft_streets_roads_cells a_o_cityReader_draft_names_codes a_o_cityReader_draft_names_sorts a_o_cityReader_draft_names_numbers a_o_cityReader_draft_extras_cells a_o_cityReader_draft_happenings_cells a_o_cityReader_draft_watchers_cells a_o_cityReader_draft_weeks_cells o_marked o_wasLived o_wasParsed o_faultKind o_faultPlace o_latestStatus o_fractionTop o_fractionBottom o_city_wage o_city_delay o_city_odds o_city_clock o_city_hasWeeks o_city_streets_corners o_city_streets_roads_many o_city_streets_roads_cells o_city_streets_takes o_city_streets_hours o_city_names_many o_city_names_codes o_city_names_sorts o_city_names_numbers o_city_extras_many o_city_extras_cells o_city_happenings_many o_city_happenings_cells o_city_watchers_many o_city_watchers_cells o_city_weeks_many o_city_weeks_cells o_tape_held o_tape_length o_tape_place o_tape_next o_tape_sort o_tape_value o_tape_code o_tape_fault o_tape_faultPlace o_tape_text o_cityReader_rulesTold o_cityReader_draft_wage o_cityReader_draft_delay o_cityReader_draft_odds o_cityReader_draft_clock o_cityReader_draft_hasWeeks o_cityReader_draft_streets_corners o_cityReader_draft_streets_roads_many o_cityReader_draft_streets_roads_cells o_cityReader_draft_streets_takes o_cityReader_draft_streets_hours o_cityReader_draft_names_many o_cityReader_draft_names_codes o_cityReader_draft_names_sorts o_cityReader_draft_names_numbers o_cityReader_draft_extras_many o_cityReader_draft_extras_cells o_cityReader_draft_happenings_many o_cityReader_draft_happenings_cells o_cityReader_draft_watchers_many o_cityReader_draft_watchers_cells o_cityReader_draft_weeks_many o_cityReader_draft_weeks_cells) (wd_X11_city E a_o a_o_city a_o_ahead a_o_marks a_o_tape a_o_cityReader a_o_weeksReader a_o_trays a_o_planner a_o_ruler a_o_life a_o_latestLife a_o_city_streets a_o_city_names a_o_city_extras a_o_city_happenings a_o_city_watchers a_o_city_weeks a_o_city_streets_roads a_o_city_streets_takes a_o_city_streets_hours a_o_city_streets_roads_cells a_o_city_names_codes a_o_city_names_sorts a_o_city_names_numbers a_o_city_extras_cells a_o_city_happenings_cells a_o_city_watchers_cells a_o_city_weeks_cells a_o_tape_text a_o_cityReader_draft a_o_cityReader_draft_streets a_o_cityReader_draft_names a_o_cityReader_draft_extras a_o_cityReader_draft_happenings a_o_cityReader_draft_watchers a_o_cityReader_draft_weeks a_o_cityReader_draft_streets_roads a_o_cityReader_draft_streets_takes a_o_cityReader_draft_streets_hours a_o_cityReader_draft_streets_roads_cells a_o_cityReader_draft_names_codes a_o_cityReader_draft_names_sorts a_o_cityReader_draft_names_numbers a_o_cityReader_draft_extras_cells a_o_cityReader_draft_happenings_cells a_o_cityReader_draft_watchers_cells a_o_cityReader_draft_weeks_cells o_marked o_wasLived (u.1 1) (u.1 2) (u.1 3) (u.1 4) o_fractionTop o_fractionBottom (u.1 5) (u.1 6) (u.1 7) (u.1 8) (u.1 9) (u.1 10) (u.1 11) (u.2.2.1 0) (u.2.2.1 1) (u.2.2.1 2) (u.1 12) (u.2.2.2 0) (u.2.2.1 3) (u.2.2.1 4) (u.1 13) (u.2.2.1 5) (u.1 14) (u.2.2.1 6) (u.1 15) (u.2.2.1 7) (u.1 16) (u.2.2.1 8) (u.1 17) (u.1 18) (u.1 19) (u.1 20) (u.1 21) (u.1 22) (u.2.1 0) (u.1 23) (u.1 24) o_tape_text (u.1 25) (u.1 26) (u.1 27) (u.1 28) (u.1 29) (u.1 30) (u.1 31) (u.1 32) (u.2.2.1 9) (u.2.2.1 10) (u.2.2.1 11) (u.1 33) (u.2.2.2 1) (u.2.2.1 12) (u.2.2.1 13) (u.1 34) (u.2.2.1 14) (u.1 35) (u.2.2.1 15) (u.1 36) (u.2.2.1 16) (u.1 37) o_cityReader_draft_weeks_cells) (u.1 0) := by
  refine ctI (by decide) (Nat.le_of_ble_eq_true rfl) ?_
  intro p e s m below meth cd A ls aa QQ hq cx hP hD hS hl
  obtain ⟨⟨hx, hb, hml, hown, hts⟩, hr, hlocks, hK, hA, hX⟩ := id cx
  have hl : lv_has ls 3 [(0, .ref a_o), (1, .int v1)] := hl
  unfold X11_city at hf
  refine lv_iload_n hx hb dX11_city_0 rfl (lv_at hl 1 rfl) ?_
  refine lv_iconst (v := 0) hx hb dX11_city_1 (by decide) ?_
  refine lv_aload_n hx hb dX11_city_2 rfl (lv_at hl 0 rfl) ?_
  refine va_get (D := E.1) (ci := 11) (v := .ref a_o_tape) (C := RX11) (T := TX11) (N := 19) hx hb hts inX11 hown hK hP 0 rfl rfl 4 (by decide) (hts _ fl_X11_26) (fun _ h9 => h9) rfl dX11_city_3 ?_
  refine va_get (D := E.1) (ci := 8) (v := .int o_tape_held) (C := RX8) (T := TX8) (N := 10) hx hb hts inX8 hown hK hP 19 rfl rfl 1 (by decide) (hts _ fl_X11_147) (fun _ h9 => h9) rfl dX11_city_6 ?_
  obtain ⟨u9, hu9, hf⟩ := bd hf
  refine keepSI (ct_X11_within l E v1 (0 : Int32) o_tape_held u9 hu9) [] cal_X11_within sta_X11_within lk_X11_96 cx hP hD hS hl dX11_city_9 rfl rfl (Nat.le_of_ble_eq_true rfl) ⟨Nat.le_of_ble_eq_true rfl, Nat.le_of_ble_eq_true rfl⟩ rfl (by decide +kernel) (fun H locs hP hS => ?_)
  refine lv_if_ne (tgt := 21) hx hb dX11_city_12 (by decide) (fun hc => ?_) (fun hc => ?_)
  · have hf := it_f hc hf
    refine lv_aload_n hx hb dX11_city_21 rfl (lv_at hl 0 rfl) ?_
    refine va_get (D := E.1) (ci := 11) (v := .ref a_o_cityReader) (C := RX11) (T := TX11) (N := 19) hx hb hts inX11 hown hK hP 0 rfl rfl 5 (by decide) (hts _ fl_X11_35) (fun _ h9 => h9) rfl dX11_city_22 ?_
    refine lv_iload_n hx hb dX11_city_25 rfl (lv_at hl 1 rfl) ?_
    obtain ⟨u26, hu26, hf⟩ := bd hf
    refine callVI (wn := (wd_X11_city E a_o a_o_city a_o_ahead a_o_marks a_o_tape a_o_cityReader a_o_weeksReader a_o_trays a_o_planner a_o_ruler a_o_life a_o_latestLife a_o_city_streets a_o_city_names a_o_city_extras a_o_city_happenings a_o_city_watchers a_o_city_weeks a_o_city_streets_roads a_o_city_streets_takes a_o_city_streets_hours a_o_city_streets_roads_cells a_o_city_names_codes a_o_city_names_sorts a_o_city_names_numbers a_o_city_extras_cells a_o_city_happenings_cells a_o_city_watchers_cells a_o_city_weeks_cells a_o_tape_text a_o_cityReader_draft a_o_cityReader_draft_streets a_o_cityReader_draft_names a_o_cityReader_draft_extras a_o_cityReader_draft_happenings a_o_cityReader_draft_watchers a_o_cityReader_draft_weeks a_o_cityReader_draft_streets_roads a_o_cityReader_draft_streets_takes a_o_cityReader_draft_streets_hours a_o_cityReader_draft_streets_roads_cells a_o_cityReader_draft_names_codes a_o_cityReader_draft_names_sorts a_o_cityReader_draft_names_numbers a_o_cityReader_draft_extras_cells a_o_cityReader_draft_happenings_cells a_o_cityReader_draft_watchers_cells a_o_cityReader_draft_weeks_cells o_marked o_wasLived o_wasParsed o_faultKind o_faultPlace o_latestStatus o_fractionTop o_fractionBottom o_city_wage o_city_delay o_city_odds o_city_clock o_city_hasWeeks o_city_streets_corners o_city_streets_roads_many o_city_streets_roads_cells o_city_streets_takes o_city_streets_hours o_city_names_many o_city_names_codes o_city_names_sorts o_city_names_numbers o_city_extras_many o_city_extras_cells o_city_happenings_many o_city_happenings_cells o_city_watchers_many o_city_watchers_cells o_city_weeks_many o_city_weeks_cells (u26.1 2) (u26.1 3) (u26.1 4) (u26.1 5) (u26.1 6) (u26.1 7) (u26.2.1 0) (u26.1 8) (u26.1 9) o_tape_text (u26.1 1) (u26.1 10) (u26.1 11) (u26.1 12) (u26.1 13) (u26.1 14) (u26.1 15) (u26.1 16) (u26.2.2.1 0) (u26.2.2.1 1) (u26.2.2.1 2) (u26.1 17) (u26.2.2.2 0) (u26.2.2.1 3) (u26.2.2.1 4) (u26.1 18) (u26.2.2.1 5) (u26.1 19) (u26.2.2.1 6) (u26.1 20) (u26.2.2.1 7) (u26.1 21) o_cityReader_draft_weeks_cells)) (n1 := 40) (ct_X1_parse l E F a_o_cityReader a_o_tape a_o_cityReader_draft a_o_tape_text a_o_cityReader_draft_streets a_o_cityReader_draft_names a_o_cityReader_draft_extras a_o_cityReader_draft_happenings a_o_cityReader_draft_watchers a_o_cityReader_draft_weeks a_o_cityReader_draft_streets_roads a_o_cityReader_draft_streets_takes a_o_cityReader_draft_streets_hours a_o_cityReader_draft_streets_roads_cells a_o_cityReader_draft_names_codes a_o_cityReader_draft_names_sorts a_o_cityReader_draft_names_numbers a_o_cityReader_draft_extras_cells a_o_cityReader_draft_happenings_cells a_o_cityReader_draft_watchers_cells a_o_cityReader_draft_weeks_cells o_cityReader_rulesTold o_tape_held o_tape_length o_tape_place o_tape_next o_tape_sort o_tape_value o_tape_code o_tape_fault o_tape_faultPlace o_tape_text o_cityReader_draft_wage o_cityReader_draft_delay o_cityReader_draft_odds o_cityReader_draft_clock o_cityReader_draft_hasWeeks o_cityReader_draft_streets_corners o_cityReader_draft_streets_roads_many o_cityReader_draft_streets_roads_cells o_cityReader_draft_streets_takes o_cityReader_draft_streets_hours o_cityReader_draft_names_many o_cityReader_draft_names_codes o_cityReader_draft_names_sorts o_cityReader_draft_names_numbers o_cityReader_draft_extras_many o_cityReader_draft_extras_cells o_cityReader_draft_happenings_many o_cityReader_draft_happenings_cells o_cityReader_draft_watchers_many o_cityReader_draft_watchers_cells o_cityReader_draft_weeks_many v1 u26 hu26) [21, 19, 20, 22, 23, 24, 25, 26, 27, 28, 29, 30, 31, 32, 33, 34, 35, 36, 37, 38] cal_X1_parse cav_X1_parse lk_X11_150 cx hP hD hS hl dX11_city_26 rfl rfl rfl rfl (Nat.le_of_ble_eq_true rfl) ⟨Nat.le_of_ble_eq_true rfl, Nat.le_of_ble_eq_true rfl⟩ rfl (by decide +kernel) rfl [none, none, none, none, none, none, none, none, none, none, none, none, none, none, none, none, none, none, none, some 1, some 2, some 0, some 3, some 4, some 5, some 6, some 7, some 8, some 9, some 10, some 11, some 12, some 13, some 14, some 15, some 16, some 17, some 18, some 19, none] rfl (by decide +kernel) rfl (fun H locs hP hD hS => ?_)
    refine lv_istore_n (lv' := [(2, .int (u26.1 0)), (0, .ref a_o), (1, .int v1)]) hx hb dX11_city_29 rfl hl (by decide) rfl (fun ls hl => ?_)
    refine lv_aload_n hx hb dX11_city_30 rfl (lv_at hl 1 rfl) ?_
    obtain ⟨u31, hu31, hf⟩ := bd hf
    refine callVV (wn := (wd_X11_city E a_o a_o_city a_o_ahead a_o_marks a_o_tape a_o_cityReader a_o_weeksReader a_o_trays a_o_planner a_o_ruler a_o_life a_o_latestLife a_o_city_streets a_o_city_names a_o_city_extras a_o_city_happenings a_o_city_watchers a_o_city_weeks a_o_city_streets_roads a_o_city_streets_takes a_o_city_streets_hours a_o_city_streets_roads_cells a_o_city_names_codes a_o_city_names_sorts a_o_city_names_numbers a_o_city_extras_cells a_o_city_happenings_cells a_o_city_watchers_cells a_o_city_weeks_cells a_o_tape_text a_o_cityReader_draft a_o_cityReader_draft_streets a_o_cityReader_draft_names a_o_cityReader_draft_extras a_o_cityReader_draft_happenings a_o_cityReader_draft_watchers a_o_cityReader_draft_weeks a_o_cityReader_draft_streets_roads a_o_cityReader_draft_streets_takes a_o_cityReader_draft_streets_hours a_o_cityReader_draft_streets_roads_cells a_o_cityReader_draft_names_codes a_o_cityReader_draft_names_sorts a_o_cityReader_draft_names_numbers a_o_cityReader_draft_extras_cells a_o_cityReader_draft_happenings_cells a_o_cityReader_draft_watchers_cells a_o_cityReader_draft_weeks_cells o_marked o_wasLived u31.1 u31.2.1 u31.2.2 o_latestStatus o_fractionTop o_fractionBottom o_city_wage o_city_delay o_city_odds o_city_clock o_city_hasWeeks o_city_streets_corners o_city_streets_roads_many o_city_streets_roads_cells o_city_streets_takes o_city_streets_hours o_city_names_many o_city_names_codes o_city_names_sorts o_city_names_numbers o_city_extras_many o_city_extras_cells o_city_happenings_many o_city_happenings_cells o_city_watchers_many o_city_watchers_cells o_city_weeks_many o_city_weeks_cells (u26.1 2) (u26.1 3) (u26.1 4) (u26.1 5) (u26.1 6) (u26.1 7) (u26.2.1 0) (u26.1 8) (u26.1 9) o_tape_text (u26.1 1) (u26.1 10) (u26.1 11) (u26.1 12) (u26.1 13) (u26.1 14) (u26.1 15) (u26.1 16) (u26.2.2.1 0) (u26.2.2.1 1) (u26.2.2.1 2) (u26.1 17) (u26.2.2.2 0) (u26.2.2.1 3) (u26.2.2.1 4) (u26.1 18) (u26.2.2.1 5) (u26.1 19) (u26.2.2.1 6) (u26.1 20) (u26.2.2.1 7) (u26.1 21) o_cityReader_draft_weeks_cells)) (n1 := 40) (ct_X11_keepFault l E a_o a_o_city a_o_ahead a_o_marks a_o_tape a_o_cityReader a_o_weeksReader a_o_trays a_o_planner a_o_ruler a_o_life a_o_latestLife a_o_tape_text o_marked o_wasLived o_wasParsed o_faultKind o_faultPlace o_latestStatus o_fractionTop o_fractionBottom (u26.1 2) (u26.1 3) (u26.1 4) (u26.1 5) (u26.1 6) (u26.1 7) (u26.2.1 0) (u26.1 8) (u26.1 9) u31 hu31) [0, 19] cal_X11_keepFault cav_X11_keepFault lk_X11_153 cx hP hD hS hl dX11_city_31 rfl rfl rfl rfl (Nat.le_of_ble_eq_true rfl) ⟨Nat.le_of_ble_eq_true rfl, Nat.le_of_ble_eq_true rfl⟩ rfl (by decide +kernel) rfl [some 0, none, none, none, none, none, none, none, none, none, none, none, none, none, none, none, none, none, none, some 1, none, none, none, none, none, none, none, none, none, none, none, none, none, none, none, none, none, none, none, none] rfl (by decide +kernel) rfl (fun H locs hP hD hS => ?_)
    refine lv_iload_n hx hb dX11_city_34 rfl (lv_at hl 0 rfl) ?_
    refine lv_if_ne (tgt := 45) hx hb dX11_city_35 (by decide) (fun hc => ?_) (fun hc => ?_)
    · have hf := it_f hc hf
      refine lv_aload_n hx hb dX11_city_45 rfl (lv_at hl 1 rfl) ?_
      refine va_get (D := E.1) (ci := 11) (v := .ref a_o_city) (C := RX11) (T := TX11) (N := 19) hx hb hts inX11 hown hK hP 0 rfl rfl 0 (by decide) (hts _ fl_X11_10) (fun _ h9 => h9) rfl dX11_city_46 ?_
      refine lv_aload_n hx hb dX11_city_49 rfl (lv_at hl 1 rfl) ?_
      refine va_get (D := E.1) (ci := 11) (v := .ref a_o_cityReader) (C := RX11) (T := TX11) (N := 19) hx hb hts inX11 hown hK hP 0 rfl rfl 5 (by decide) (hts _ fl_X11_35) (fun _ h9 => h9) rfl dX11_city_50 ?_
      refine va_get (D := E.1) (ci := 1) (v := .ref a_o_cityReader_draft) (C := RX1) (T := TX1) (N := 3) hx hb hts inX1 hown hK hP 21 rfl rfl 1 (by decide) (hts _ fl_X11_156) (fun _ h9 => h9) rfl dX11_city_53 ?_
      obtain ⟨u56, hu56, hf⟩ := bd hf
      refine callVV (wn := (wd_X11_city E a_o a_o_city a_o_ahead a_o_marks a_o_tape a_o_cityReader a_o_weeksReader a_o_trays a_o_planner a_o_ruler a_o_life a_o_latestLife a_o_city_streets a_o_city_names a_o_city_extras a_o_city_happenings a_o_city_watchers a_o_city_weeks a_o_city_streets_roads a_o_city_streets_takes a_o_city_streets_hours a_o_city_streets_roads_cells a_o_city_names_codes a_o_city_names_sorts a_o_city_names_numbers a_o_city_extras_cells a_o_city_happenings_cells a_o_city_watchers_cells a_o_city_weeks_cells a_o_tape_text a_o_cityReader_draft a_o_cityReader_draft_streets a_o_cityReader_draft_names a_o_cityReader_draft_extras a_o_cityReader_draft_happenings a_o_cityReader_draft_watchers a_o_cityReader_draft_weeks a_o_cityReader_draft_streets_roads a_o_cityReader_draft_streets_takes a_o_cityReader_draft_streets_hours a_o_cityReader_draft_streets_roads_cells a_o_cityReader_draft_names_codes a_o_cityReader_draft_names_sorts a_o_cityReader_draft_names_numbers a_o_cityReader_draft_extras_cells a_o_cityReader_draft_happenings_cells a_o_cityReader_draft_watchers_cells a_o_cityReader_draft_weeks_cells o_marked o_wasLived u31.1 u31.2.1 u31.2.2 o_latestStatus o_fractionTop o_fractionBottom (u56.1 0) (u56.1 1) (u56.1 2) (u56.1 3) (u56.1 4) (u56.1 5) (u56.1 6) (u56.2.2.1 0) (u56.2.2.1 1) (u56.2.2.1 2) (u56.1 7) (u56.2.2.2 0) (u56.2.2.1 3) (u56.2.2.1 4) (u56.1 8) (u56.2.2.1 5) (u56.1 9) (u56.2.2.1 6) (u56.1 10) (u56.2.2.1 7) (u56.1 11) (u56.2.2.1 8) (u26.1 2) (u26.1 3) (u26.1 4) (u26.1 5) (u26.1 6) (u26.1 7) (u26.2.1 0) (u26.1 8) (u26.1 9) o_tape_text (u26.1 1) (u26.1 10) (u26.1 11) (u26.1 12) (u26.1 13) (u26.1 14) (u26.1 15) (u26.1 16) (u26.2.2.1 0) (u26.2.2.1 1) (u26.2.2.1 2) (u26.1 17) (u26.2.2.2 0) (u26.2.2.1 3) (u26.2.2.1 4) (u26.1 18) (u26.2.2.1 5) (u26.1 19) (u26.2.2.1 6) (u26.1 20) (u26.2.2.1 7) (u26.1 21) o_cityReader_draft_weeks_cells)) (n1 := 40) (ct_X0_copyFrom l E a_o_city a_o_city_streets a_o_city_names a_o_city_extras a_o_city_happenings a_o_city_watchers a_o_city_weeks a_o_city_streets_roads a_o_city_streets_takes a_o_city_streets_hours a_o_city_streets_roads_cells a_o_city_names_codes a_o_city_names_sorts a_o_city_names_numbers a_o_city_extras_cells a_o_city_happenings_cells a_o_city_watchers_cells a_o_city_weeks_cells a_o_cityReader_draft a_o_cityReader_draft_streets a_o_cityReader_draft_names a_o_cityReader_draft_extras a_o_cityReader_draft_happenings a_o_cityReader_draft_watchers a_o_cityReader_draft_weeks a_o_cityReader_draft_streets_roads a_o_cityReader_draft_streets_takes a_o_cityReader_draft_streets_hours a_o_cityReader_draft_streets_roads_cells a_o_cityReader_draft_names_codes a_o_cityReader_draft_names_sorts a_o_cityReader_draft_names_numbers a_o_cityReader_draft_extras_cells a_o_cityReader_draft_happenings_cells a_o_cityReader_draft_watchers_cells a_o_cityReader_draft_weeks_cells o_city_wage o_city_delay o_city_odds o_city_clock o_city_hasWeeks o_city_streets_corners o_city_streets_roads_many o_city_streets_roads_cells o_city_streets_takes o_city_streets_hours o_city_names_many o_city_names_codes o_city_names_sorts o_city_names_numbers o_city_extras_many o_city_extras_cells o_city_happenings_many o_city_happenings_cells o_city_watchers_many o_city_watchers_cells o_city_weeks_many o_city_weeks_cells (u26.1 10) (u26.1 11) (u26.1 12) (u26.1 13) (u26.1 14) (u26.1 15) (u26.1 16) (u26.2.2.1 0) (u26.2.2.1 1) (u26.2.2.1 2) (u26.1 17) (u26.2.2.2 0) (u26.2.2.1 3) (u26.2.2.1 4) (u26.1 18) (u26.2.2.1 5) (u26.1 19) (u26.2.2.1 6) (u26.1 20) (u26.2.2.1 7) (u26.1 21) o_cityReader_draft_weeks_cells u56 hu56) [1, 2, 3, 4, 5, 6, 7, 8, 9, 10, 11, 12, 13, 14, 15, 16, 17, 18, 22, 23, 24, 25, 26, 27, 28, 29, 30, 31, 32, 33, 34, 35, 36, 37, 38, 39] cal_X0_copyFrom cav_X0_copyFrom lk_X11_159 cx hP hD hS hl dX11_city_56 rfl rfl rfl rfl (Nat.le_of_ble_eq_true rfl) ⟨Nat.le_of_ble_eq_true rfl, Nat.le_of_ble_eq_true rfl⟩ rfl (by decide +kernel) rfl [none, some 0, some 1, some 2, some 3, some 4, some 5, some 6, some 7, some 8, some 9, some 10, some 11, some 12, some 13, some 14, some 15, some 16, some 17, none, none, none, some 18, some 19, some 20, some 21, some 22, some 23, some 24, some 25, some 26, some 27, some 28, some 29, some 30, some 31, some 32, some 33, some 34, some 35] rfl (by decide +kernel) rfl (fun H locs hP hD hS => ?_)
      refine lv_aload_n hx hb dX11_city_59 rfl (lv_at hl 1 rfl) ?_
      refine lv_aload_n hx hb dX11_city_60 rfl (lv_at hl 1 rfl) ?_
      refine va_get (D := E.1) (ci := 11) (v := .ref a_o_city) (C := RX11) (T := TX11) (N := 19) hx hb hts inX11 hown hK hP 0 rfl rfl 0 (by decide) (hts _ fl_X11_10) (fun _ h9 => h9) rfl dX11_city_61 ?_
      refine va_get (D := E.1) (ci := 0) (v := .ref a_o_city_streets) (C := RX0) (T := TX0) (N := 11) hx hb hts inX0 hown hK hP 1 rfl rfl 5 (by decide) (hts _ fl_X11_163) (fun _ h9 => h9) rfl dX11_city_64 ?_
      refine va_get (D := E.1) (ci := 6) (v := .int (u56.1 5)) (C := RX6) (T := TX6) (N := 4) hx hb hts inX6 hown hK hP 2 rfl rfl 0 (by decide) (hts _ fl_X11_167) (fun _ h9 => h9) rfl dX11_city_67 ?_
      obtain ⟨u70, hu70, hf⟩ := bd hf
      refine callVI (wn := (wd_X11_city E a_o a_o_city a_o_ahead a_o_marks a_o_tape a_o_cityReader a_o_weeksReader a_o_trays a_o_planner a_o_ruler a_o_life a_o_latestLife a_o_city_streets a_o_city_names a_o_city_extras a_o_city_happenings a_o_city_watchers a_o_city_weeks a_o_city_streets_roads a_o_city_streets_takes a_o_city_streets_hours a_o_city_streets_roads_cells a_o_city_names_codes a_o_city_names_sorts a_o_city_names_numbers a_o_city_extras_cells a_o_city_happenings_cells a_o_city_watchers_cells a_o_city_weeks_cells a_o_tape_text a_o_cityReader_draft a_o_cityReader_draft_streets a_o_cityReader_draft_names a_o_cityReader_draft_extras a_o_cityReader_draft_happenings a_o_cityReader_draft_watchers a_o_cityReader_draft_weeks a_o_cityReader_draft_streets_roads a_o_cityReader_draft_streets_takes a_o_cityReader_draft_streets_hours a_o_cityReader_draft_streets_roads_cells a_o_cityReader_draft_names_codes a_o_cityReader_draft_names_sorts a_o_cityReader_draft_names_numbers a_o_cityReader_draft_extras_cells a_o_cityReader_draft_happenings_cells a_o_cityReader_draft_watchers_cells a_o_cityReader_draft_weeks_cells o_marked o_wasLived u31.1 u31.2.1 u31.2.2 u70.2 o_fractionTop o_fractionBottom (u56.1 0) (u56.1 1) (u56.1 2) (u56.1 3) (u56.1 4) (u56.1 5) (u56.1 6) (u56.2.2.1 0) (u56.2.2.1 1) (u56.2.2.1 2) (u56.1 7) (u56.2.2.2 0) (u56.2.2.1 3) (u56.2.2.1 4) (u56.1 8) (u56.2.2.1 5) (u56.1 9) (u56.2.2.1 6) (u56.1 10) (u56.2.2.1 7) (u56.1 11) (u56.2.2.1 8) (u26.1 2) (u26.1 3) (u26.1 4) (u26.1 5) (u26.1 6) (u26.1 7) (u26.2.1 0) (u26.1 8) (u26.1 9) o_tape_text (u26.1 1) (u26.1 10) (u26.1 11) (u26.1 12) (u26.1 13) (u26.1 14) (u26.1 15) (u26.1 16) (u26.2.2.1 0) (u26.2.2.1 1) (u26.2.2.1 2) (u26.1 17) (u26.2.2.2 0) (u26.2.2.1 3) (u26.2.2.1 4) (u26.1 18) (u26.2.2.1 5) (u26.1 19) (u26.2.2.1 6) (u26.1 20) (u26.2.2.1 7) (u26.1 21) o_cityReader_draft_weeks_cells)) (n1 := 40) (ct_X11_answer l E a_o a_o_city a_o_ahead a_o_marks a_o_tape a_o_cityReader a_o_weeksReader a_o_trays a_o_planner a_o_ruler a_o_life a_o_latestLife o_marked o_wasLived u31.1 u31.2.1 u31.2.2 o_latestStatus o_fractionTop o_fractionBottom (u56.1 5) u70 hu70) [0] cal_X11_answer cav_X11_answer lk_X11_172 cx hP hD hS hl dX11_city_70 rfl rfl rfl rfl (Nat.le_of_ble_eq_true rfl) ⟨Nat.le_of_ble_eq_true rfl, Nat.le_of_ble_eq_true rfl⟩ rfl (by decide +kernel) rfl [some 0, none, none, none, none, none, none, none, none, none, none, none, none, none, none, none, none, none, none, none, none, none, none, none, none, none, none, none, none, none, none, none, none, none, none, none, none, none, none, none] rfl (by decide +kernel) rfl (fun H locs hP hD hS => ?_)
      obtain rfl := Option.some.inj hf
      subst hq
      exact retI cx hP hD hS dX11_city_73
    · have hf := it_t hc hf
      refine lv_aload_n hx hb dX11_city_38 rfl (lv_at hl 1 rfl) ?_
      refine lv_bipush (v := 9) hx hb dX11_city_39 (by decide) ?_
      obtain ⟨u41, hu41, hf⟩ := bd hf
      refine callVI (wn := (wd_X11_city E a_o a_o_city a_o_ahead a_o_marks a_o_tape a_o_cityReader a_o_weeksReader a_o_trays a_o_planner a_o_ruler a_o_life a_o_latestLife a_o_city_streets a_o_city_names a_o_city_extras a_o_city_happenings a_o_city_watchers a_o_city_weeks a_o_city_streets_roads a_o_city_streets_takes a_o_city_streets_hours a_o_city_streets_roads_cells a_o_city_names_codes a_o_city_names_sorts a_o_city_names_numbers a_o_city_extras_cells a_o_city_happenings_cells a_o_city_watchers_cells a_o_city_weeks_cells a_o_tape_text a_o_cityReader_draft a_o_cityReader_draft_streets a_o_cityReader_draft_names a_o_cityReader_draft_extras a_o_cityReader_draft_happenings a_o_cityReader_draft_watchers a_o_cityReader_draft_weeks a_o_cityReader_draft_streets_roads a_o_cityReader_draft_streets_takes a_o_cityReader_draft_streets_hours a_o_cityReader_draft_streets_roads_cells a_o_cityReader_draft_names_codes a_o_cityReader_draft_names_sorts a_o_cityReader_draft_names_numbers a_o_cityReader_draft_extras_cells a_o_cityReader_draft_happenings_cells a_o_cityReader_draft_watchers_cells a_o_cityReader_draft_weeks_cells o_marked o_wasLived u31.1 u31.2.1 u31.2.2 u41.2 o_fractionTop o_fractionBottom o_city_wage o_city_delay o_city_odds o_city_clock o_city_hasWeeks o_city_streets_corners o_city_streets_roads_many o_city_streets_roads_cells o_city_streets_takes o_city_streets_hours o_city_names_many o_city_names_codes o_city_names_sorts o_city_names_numbers o_city_extras_many o_city_extras_cells o_city_happenings_many o_city_happenings_cells o_city_watchers_many o_city_watchers_cells o_city_weeks_many o_city_weeks_cells (u26.1 2) (u26.1 3) (u26.1 4) (u26.1 5) (u26.1 6) (u26.1 7) (u26.2.1 0) (u26.1 8) (u26.1 9) o_tape_text (u26.1 1) (u26.1 10) (u26.1 11) (u26.1 12) (u26.1 13) (u26.1 14) (u26.1 15) (u26.1 16) (u26.2.2.1 0) (u26.2.2.1 1) (u26.2.2.1 2) (u26.1 17) (u26.2.2.2 0) (u26.2.2.1 3) (u26.2.2.1 4) (u26.1 18) (u26.2.2.1 5) (u26.1 19) (u26.2.2.1 6) (u26.1 20) (u26.2.2.1 7) (u26.1 21) o_cityReader_draft_weeks_cells)) (n1 := 40) (ct_X11_none l E a_o a_o_city a_o_ahead a_o_marks a_o_tape a_o_cityReader a_o_weeksReader a_o_trays a_o_planner a_o_ruler a_o_life a_o_latestLife o_marked o_wasLived u31.1 u31.2.1 u31.2.2 o_latestStatus o_fractionTop o_fractionBottom (9 : Int32) u41 hu41) [0] cal_X11_none cav_X11_none lk_X11_119 cx hP hD hS hl dX11_city_41 rfl rfl rfl rfl (Nat.le_of_ble_eq_true rfl) ⟨Nat.le_of_ble_eq_true rfl, Nat.le_of_ble_eq_true rfl⟩ rfl (by decide +kernel) rfl [some 0, none, none, none, none, none, none, none, none, none, none, none, none, none, none, none, none, none, none, none, none, none, none, none, none, none, none, none, none, none, none, none, none, none, none, none, none, none, none, none] rfl (by decide +kernel) rfl (fun H locs hP hD hS => ?_)
      obtain rfl := Option.some.inj hf
      subst hq
      exact retI cx hP hD hS dX11_city_44
  · have hf := it_t hc hf
    refine lv_aload_n hx hb dX11_city_15 rfl (lv_at hl 0 rfl) ?_
    refine lv_iconst (v := 1) hx hb dX11_city_16 (by decide) ?_
    obtain ⟨u17, hu17, hf⟩ := bd hf
    refine callVI (wn := (wd_X11_city E a_o a_o_city a_o_ahead a_o_marks a_o_tape a_o_cityReader a_o_weeksReader a_o_trays a_o_planner a_o_ruler a_o_life a_o_latestLife a_o_city_streets a_o_city_names a_o_city_extras a_o_city_happenings a_o_city_watchers a_o_city_weeks a_o_city_streets_roads a_o_city_streets_takes a_o_city_streets_hours a_o_city_streets_roads_cells a_o_city_names_codes a_o_city_names_sorts a_o_city_names_numbers a_o_city_extras_cells a_o_city_happenings_cells a_o_city_watchers_cells a_o_city_weeks_cells a_o_tape_text a_o_cityReader_draft a_o_cityReader_draft_streets a_o_cityReader_draft_names a_o_cityReader_draft_extras a_o_cityReader_draft_happenings a_o_cityReader_draft_watchers a_o_cityReader_draft_weeks a_o_cityReader_draft_streets_roads a_o_cityReader_draft_streets_takes a_o_cityReader_draft_streets_hours a_o_cityReader_draft_streets_roads_cells a_o_cityReader_draft_names_codes a_o_cityReader_draft_names_sorts a_o_cityReader_draft_names_numbers a_o_cityReader_draft_extras_cells a_o_cityReader_draft_happenings_cells a_o_cityReader_draft_watchers_cells a_o_cityReader_draft_weeks_cells o_marked o_wasLived o_wasParsed o_faultKind o_faultPlace u17.2 o_fractionTop o_fractionBottom o_city_wage o_city_delay o_city_odds o_city_clock o_city_hasWeeks o_city_streets_corners o_city_streets_roads_many o_city_streets_roads_cells o_city_streets_takes o_city_streets_hours o_city_names_many o_city_names_codes o_city_names_sorts o_city_names_numbers o_city_extras_many o_city_extras_cells o_city_happenings_many o_city_happenings_cells o_city_watchers_many o_city_watchers_cells o_city_weeks_many o_city_weeks_cells o_tape_held o_tape_length o_tape_place o_tape_next o_tape_sort o_tape_value o_tape_code o_tape_fault o_tape_faultPlace o_tape_text o_cityReader_rulesTold o_cityReader_draft_wage o_cityReader_draft_delay o_cityReader_draft_odds o_cityReader_draft_clock o_cityReader_draft_hasWeeks o_cityReader_draft_streets_corners o_cityReader_draft_streets_roads_many o_cityReader_draft_streets_roads_cells o_cityReader_draft_streets_takes o_cityReader_draft_streets_hours o_cityReader_draft_names_many o_cityReader_draft_names_codes o_cityReader_draft_names_sorts o_cityReader_draft_names_numbers o_cityReader_draft_extras_many o_cityReader_draft_extras_cells o_cityReader_draft_happenings_many o_cityReader_draft_happenings_cells o_cityReader_draft_watchers_many o_cityReader_draft_watchers_cells o_cityReader_draft_weeks_many o_cityReader_draft_weeks_cells)) (n1 := 40) (ct_X11_none l E a_o a_o_city a_o_ahead a_o_marks a_o_tape a_o_cityReader a_o_weeksReader a_o_trays a_o_planner a_o_ruler a_o_life a_o_latestLife o_marked o_wasLived o_wasParsed o_faultKind o_faultPlace o_latestStatus o_fractionTop o_fractionBottom (1 : Int32) u17 hu17) [0] cal_X11_none cav_X11_none lk_X11_119 cx hP hD hS hl dX11_city_17 rfl rfl rfl rfl (Nat.le_of_ble_eq_true rfl) ⟨Nat.le_of_ble_eq_true rfl, Nat.le_of_ble_eq_true rfl⟩ rfl (by decide +kernel) rfl [some 0, none, none, none, none, none, none, none, none, none, none, none, none, none, none, none, none, none, none, none, none, none, none, none, none, none, none, none, none, none, none, none, none, none, none, none, none, none, none, none] rfl (by decide +kernel) rfl (fun H locs hP hD hS => ?_)
    obtain rfl := Option.some.inj hf
    subst hq
    exact retI cx hP hD hS dX11_city_20
