def X9_trimmed (v0 : Int64) (v2 : Int32) : Option (Int64) :=
  if v2 = 0 then
  some ((jbyte (v0.toInt32)).toInt64)
  else if v2 = 1 then
  some ((jshort (v0.toInt32)).toInt64)
  else if v2 = 2 then
  some ((v0.toInt32).toInt64)
  else some v0
abbrev wd_X9_trimmed (E : vE) : va_W := []
set_option maxHeartbeats 4000000 in
set_option maxRecDepth 100000 in
theorem ct_X9_trimmed (l : Launch) (E : vE) (v0 : Int64) (v2 : Int32) (u : Int64) (hf : X9_trimmed v0 v2 = some u) :
    CtL l yX9_trimmed cX9_trimmed 3 (some .long) 0 E [.long v0, .int v2] (wd_X9_trimmed E) (wd_X9_trimmed E) u := by
  refine ctL (by decide) (Nat.le_of_ble_eq_true rfl) ?_
  intro p e s m below meth cd A ls aa QQ hq cx hP hD hS hl
  obtain ⟨⟨hx, hb, hml, hown, hts⟩, hr, hlocks, hK, hA, hX⟩ := id cx
  have hl : lv_has ls 3 [(0, .long v0), (2, .int v2)] := hl
  unfold X9_trimmed at hf
  refine lv_iload_n hx hb dX9_trimmed_0 rfl (lv_at hl 1 rfl) ?_
  by_cases hc1 : v2 = 0
  · have hf := it_t hc1 hf
    refine swT (tgt := 28) 0 cx dX9_trimmed_1 (by rw [hc1]; decide) (by decide) rfl (by decide) ?_
    refine lv_lload_n hx hb dX9_trimmed_28 rfl (lv_at hl 0 rfl) ?_
    refine lv_l2i (v := (v0.toInt32)) hx hb dX9_trimmed_29 rfl ?_
    refine lv_i2b (v := (jbyte (v0.toInt32))) hx hb dX9_trimmed_30 rfl ?_
    refine lv_i2l (v := (jbyte (v0.toInt32)).toInt64) hx hb dX9_trimmed_31 rfl ?_
    obtain rfl := Option.some.inj hf
    subst hq
    exact retL cx hP hD hS dX9_trimmed_32
  · have hf := it_f hc1 hf
    by_cases hc2 : v2 = 1
    · have hf := it_t hc2 hf
      refine swT (tgt := 33) 1 cx dX9_trimmed_1 (by rw [hc2]; decide) (by decide) rfl (by decide) ?_
      refine lv_lload_n hx hb dX9_trimmed_33 rfl (lv_at hl 0 rfl) ?_
      refine lv_l2i (v := (v0.toInt32)) hx hb dX9_trimmed_34 rfl ?_
      refine lv_i2s (v := (jshort (v0.toInt32))) hx hb dX9_trimmed_35 rfl ?_
      refine lv_i2l (v := (jshort (v0.toInt32)).toInt64) hx hb dX9_trimmed_36 rfl ?_
      obtain rfl := Option.some.inj hf
      subst hq
      exact retL cx hP hD hS dX9_trimmed_37
    · have hf := it_f hc2 hf
      by_cases hc3 : v2 = 2
      · have hf := it_t hc3 hf
        refine swT (tgt := 38) 2 cx dX9_trimmed_1 (by rw [hc3]; decide) (by decide) rfl (by decide) ?_
        refine lv_lload_n hx hb dX9_trimmed_38 rfl (lv_at hl 0 rfl) ?_
        refine lv_l2i (v := (v0.toInt32)) hx hb dX9_trimmed_39 rfl ?_
        refine lv_i2l (v := (v0.toInt32).toInt64) hx hb dX9_trimmed_40 rfl ?_
        obtain rfl := Option.some.inj hf
        subst hq
        exact retL cx hP hD hS dX9_trimmed_41
      · have hf := it_f hc3 hf
        refine swD (tgt := 42) [0, 1, 2] cx dX9_trimmed_1 ?_ (by decide) (by decide) ?_
        · intro z hz
          simp only [List.mem_cons, List.not_mem_nil, or_false] at hz
          rcases hz with rfl | rfl | rfl
          · exact ne_int hc1 (by decide)
          · exact ne_int hc2 (by decide)
          · exact ne_int hc3 (by decide)
        · refine lv_lload_n hx hb dX9_trimmed_42 rfl (lv_at hl 0 rfl) ?_
          obtain rfl := Option.some.inj hf
          subst hq
          exact retL cx hP hD hS dX9_trimmed_43
def X9_set (o_numbers : Nat → Int64) (o_sorts : Nat → Int32) (o_sizes : Nat → Int32) (v1 : Int32) (v2 : Int32) (v3 : Int64) : Option ((Nat → Int64)) :=
  (X9_hasPlace o_sizes v1 v2).bind fun u3 =>
  if u3 = 0 then
  some o_numbers
  else
  if ix v1 4 then
  (X9_trimmed v3 (jat o_sorts v1)).bind fun u26 =>
  if ix ((v1 * 60) + v2) 240 then
  some (jputL o_numbers ((v1 * 60) + v2) u26)
  else none
  else none
abbrev wd_X9_set (E : vE) (a_o a_o_numbers a_o_sorts a_o_sizes : Nat) (o_numbers : Nat → Int64) (o_sorts : Nat → Int32) (o_sizes : Nat → Int32) : va_W := [(a_o, .inr (9, [.ref a_o_numbers, .ref a_o_sorts, .ref a_o_sizes])), (a_o_numbers, .inl (E.2.2.1, 240, .inr (.inl o_numbers))), (a_o_sorts, .inl (E.2.1, 4, .inl o_sorts)), (a_o_sizes, .inl (E.2.1, 4, .inl o_sizes))]
set_option maxHeartbeats 4000000 in
set_option maxRecDepth 100000 in
theorem ct_X9_set (l : Launch) (E : vE) (a_o a_o_numbers a_o_sorts a_o_sizes : Nat) (o_numbers : Nat → Int64) (o_sorts : Nat → Int32) (o_sizes : Nat → Int32) (v1 : Int32) (v2 : Int32) (v3 : Int64) (u : (Nat → Int64)) (hf : X9_set o_numbers o_sorts o_sizes v1 v2 v3 = some u) :
    CtV l yX9_set cX9_set 5 none 2 E [.ref a_o, .int v1, .int v2, .long v3] (wd_X9_set E a_o a_o_numbers a_o_sorts a_o_sizes o_numbers o_sorts o_sizes) (wd_X9_set E a_o a_o_numbers a_o_sorts a_o_sizes u o_sorts o_sizes) := by
  refine ctV (by decide) (Nat.le_of_ble_eq_true rfl) ?_
  intro p e s m below meth cd A ls aa QQ hq cx hP hD hS hl
  obtain ⟨⟨hx, hb, hml, hown, hts⟩, hr, hlocks, hK, hA, hX⟩ := id cx
  have hl : lv_has ls 5 [(0, .ref a_o), (1, .int v1), (2, .int v2), (3, .long v3)] := hl
  unfold X9_set at hf
  refine lv_aload_n hx hb dX9_set_0 rfl (lv_at hl 0 rfl) ?_
  refine lv_iload_n hx hb dX9_set_1 rfl (lv_at hl 1 rfl) ?_
  refine lv_iload_n hx hb dX9_set_2 rfl (lv_at hl 2 rfl) ?_
  obtain ⟨u3, hu3, hf⟩ := bd hf
  refine keepVI (ct_X9_hasPlace l E a_o a_o_numbers a_o_sorts a_o_sizes o_sizes v1 v2 u3 hu3) [0, 3] cal_X9_hasPlace cav_X9_hasPlace lk_X9_26 cx hP hD hS hl dX9_set_3 rfl rfl rfl rfl (Nat.le_of_ble_eq_true rfl) ⟨Nat.le_of_ble_eq_true rfl, Nat.le_of_ble_eq_true rfl⟩ rfl (by decide) (fun H locs hP hS => ?_)
  refine lv_if_eq (tgt := 30) hx hb dX9_set_6 (by decide) (fun hc => ?_) (fun hc => ?_)
  · have hf := it_t hc hf
    obtain rfl := Option.some.inj hf
    subst hq
    exact retV cx hP hD hS dX9_set_30
  · have hf := it_f hc hf
    refine lv_aload_n hx hb dX9_set_9 rfl (lv_at hl 0 rfl) ?_
    refine va_get (D := E.1) (ci := 9) (v := .ref a_o_numbers) (C := RX9) (T := TX9) (N := 3) hx hb hts inX9 hown hK hP 0 rfl rfl 0 (by decide) (hts _ fl_X9_11) (fun _ h9 => h9) rfl dX9_set_10 ?_
    refine lv_iload_n hx hb dX9_set_13 rfl (lv_at hl 1 rfl) ?_
    refine lv_bipush (v := 60) hx hb dX9_set_14 (by decide) ?_
    refine lv_imul hx hb dX9_set_16 ?_
    refine lv_iload_n hx hb dX9_set_17 rfl (lv_at hl 2 rfl) ?_
    refine lv_iadd hx hb dX9_set_18 ?_
    refine lv_lload_n hx hb dX9_set_19 rfl (lv_at hl 3 rfl) ?_
    refine lv_aload_n hx hb dX9_set_20 rfl (lv_at hl 0 rfl) ?_
    refine va_get (D := E.1) (ci := 9) (v := .ref a_o_sorts) (C := RX9) (T := TX9) (N := 3) hx hb hts inX9 hown hK hP 0 rfl rfl 1 (by decide) (hts _ fl_X9_15) (fun _ h9 => h9) rfl dX9_set_21 ?_
    refine lv_iload_n hx hb dX9_set_24 rfl (lv_at hl 1 rfl) ?_
    obtain ⟨hi, hf⟩ := ck hf
    refine r_iald 2 cx hP rfl hi dX9_set_25 ?_
    obtain ⟨u26, hu26, hf⟩ := bd hf
    refine keepSL (ct_X9_trimmed l E v3 (jat o_sorts v1) u26 hu26) [] cal_X9_trimmed sta_X9_trimmed lk_X9_32 cx hP hD hS hl dX9_set_26 rfl rfl (Nat.le_of_ble_eq_true rfl) ⟨Nat.le_of_ble_eq_true rfl, Nat.le_of_ble_eq_true rfl⟩ rfl (by decide) (fun H locs hP hS => ?_)
    obtain ⟨hi, hf⟩ := ck hf
    refine r_last 1 cx hP hD hS rfl hi dX9_set_29 (fun H locs hP hD hS => ?_)
    have hP : va_P E.1 vwCl (wd_X9_set E a_o a_o_numbers a_o_sorts a_o_sizes (jputL o_numbers ((v1 * 60) + v2) u26) o_sorts o_sizes) H := hP
    have hD : va_D A (wd_X9_set E a_o a_o_numbers a_o_sorts a_o_sizes (jputL o_numbers ((v1 * 60) + v2) u26) o_sorts o_sizes) := hD
    obtain rfl := Option.some.inj hf
    subst hq
    exact retV cx hP hD hS dX9_set_30
def X9_holds_j29 (o_numbers : Nat → Int64) (o_sizes : Nat → Int32) : Option (Int32) :=
  some 0
def X9_holds (o_numbers : Nat → Int64) (o_sizes : Nat → Int32) (v1 : Int32) (v2 : Int32) (v3 : Int32) (v4 : Int32) : Option (Int32) :=
  (X9_get o_numbers o_sizes v1 v2).bind fun u3 =>
  if (lg_cmp u3 (v3.toInt64)) < 0 then
  X9_holds_j29 o_numbers o_sizes
  else
  if (0 : Int32) < (lg_cmp u3 (v4.toInt64)) then
  X9_holds_j29 o_numbers o_sizes
  else
  some 1
abbrev wd_X9_holds (E : vE) (a_o a_o_numbers a_o_sorts a_o_sizes : Nat) (o_numbers : Nat → Int64) (o_sizes : Nat → Int32) : va_W := [(a_o, .inr (9, [.ref a_o_numbers, .ref a_o_sorts, .ref a_o_sizes])), (a_o_numbers, .inl (E.2.2.1, 240, .inr (.inl o_numbers))), (a_o_sizes, .inl (E.2.1, 4, .inl o_sizes))]
set_option maxHeartbeats 4000000 in
set_option maxRecDepth 100000 in
theorem ct_X9_holds (l : Launch) (E : vE) (a_o a_o_numbers a_o_sorts a_o_sizes : Nat) (o_numbers : Nat → Int64) (o_sizes : Nat → Int32) (v1 : Int32) (v2 : Int32) (v3 : Int32) (v4 : Int32) (u : Int32) (hf : X9_holds o_numbers o_sizes v1 v2 v3 v4 = some u) :
    CtI l yX9_holds cX9_holds 7 (some .boolean) 3 E [.ref a_o, .int v1, .int v2, .int v3, .int v4] (wd_X9_holds E a_o a_o_numbers a_o_sorts a_o_sizes o_numbers o_sizes) (wd_X9_holds E a_o a_o_numbers a_o_sorts a_o_sizes o_numbers o_sizes) u := by
  refine ctI (by decide) (Nat.le_of_ble_eq_true rfl) ?_
  intro p e s m below meth cd A ls aa QQ hq cx hP hD hS hl
  obtain ⟨⟨hx, hb, hml, hown, hts⟩, hr, hlocks, hK, hA, hX⟩ := id cx
  have hl : lv_has ls 7 [(0, .ref a_o), (1, .int v1), (2, .int v2), (3, .int v3), (4, .int v4)] := hl
  have hj29 : ∀ (H : Heap) (locs : List Loc) (ls : Array Slot), X9_holds_j29 o_numbers o_sizes = some u → va_P E.1 vwCl (wd_X9_holds E a_o a_o_numbers a_o_sorts a_o_sizes o_numbers o_sizes) H → va_D A (wd_X9_holds E a_o a_o_numbers a_o_sorts a_o_sizes o_numbers o_sizes) → va_S A s.heap H locs → lv_has ls 7 [] → W p l e (rmd 3) s m aa below meth cd H locs 0 0 QQ (F0 m 29 ls []) := by
    intro H locs ls hf hP hD hS hl
    unfold X9_holds_j29 at hf
    refine lv_iconst (v := 0) hx hb dX9_holds_29 (by decide) ?_
    obtain rfl := Option.some.inj hf
    subst hq
    exact retZ cx rfl hP hD hS dX9_holds_30
  unfold X9_holds at hf
  refine lv_aload_n hx hb dX9_holds_0 rfl (lv_at hl 0 rfl) ?_
  refine lv_iload_n hx hb dX9_holds_1 rfl (lv_at hl 1 rfl) ?_
  refine lv_iload_n hx hb dX9_holds_2 rfl (lv_at hl 2 rfl) ?_
  obtain ⟨u3, hu3, hf⟩ := bd hf
  refine keepVL (ct_X9_get l E a_o a_o_numbers a_o_sorts a_o_sizes o_numbers o_sizes v1 v2 u3 hu3) [0, 1, 2] cal_X9_get cav_X9_get lk_X9_36 cx hP hD hS hl dX9_holds_3 rfl rfl rfl rfl (Nat.le_of_ble_eq_true rfl) ⟨Nat.le_of_ble_eq_true rfl, Nat.le_of_ble_eq_true rfl⟩ rfl (by decide) (fun H locs hP hS => ?_)
  refine lv_lstore (lv' := [(5, .long u3), (0, .ref a_o), (1, .int v1), (2, .int v2), (3, .int v3), (4, .int v4)]) hx hb dX9_holds_6 hl (by decide) rfl (fun ls hl => ?_)
  refine lv_lload hx hb dX9_holds_8 (lv_at hl 0 rfl) ?_
  refine lv_iload_n hx hb dX9_holds_10 rfl (lv_at hl 4 rfl) ?_
  refine lv_i2l (v := (v3.toInt64)) hx hb dX9_holds_11 rfl ?_
  refine W.lcmp hx hb dX9_holds_12 ?_
  refine lv_if_lt (tgt := 29) hx hb dX9_holds_13 (by decide) (fun hc => ?_) (fun hc => ?_)
  · have hf := it_t hc hf
    exact hj29  _ _ _ hf hP hD hS (lv_sub hl [] rfl)
  · have hf := it_f hc hf
    refine lv_lload hx hb dX9_holds_16 (lv_at hl 0 rfl) ?_
    refine lv_iload hx hb dX9_holds_18 (lv_at hl 5 rfl) ?_
    refine lv_i2l (v := (v4.toInt64)) hx hb dX9_holds_20 rfl ?_
    refine W.lcmp hx hb dX9_holds_21 ?_
    refine lv_if_gt (tgt := 29) hx hb dX9_holds_22 (by decide) (fun hc => ?_) (fun hc => ?_)
    · have hf := it_t hc hf
      exact hj29  _ _ _ hf hP hD hS (lv_sub hl [] rfl)
    · have hf := it_f hc hf
      refine lv_iconst (v := 1) hx hb dX9_holds_25 (by decide) ?_
      refine lv_goto (tgt := 30) hx hb dX9_holds_26 (by decide) ?_
      obtain rfl := Option.some.inj hf
      subst hq
      exact retZ cx rfl hP hD hS dX9_holds_30
def X9_move (o_numbers : Nat → Int64) (o_sizes : Nat → Int32) (v1 : Int32) (v2 : Int32) (v3 : Int32) (v4 : Int32) (v5 : Int32) : Option ((Nat → Int64)) :=
  if v2 < 0 then
  some o_numbers
  else
  if v4 < 0 then
  some o_numbers
  else
  if v5 < 0 then
  some o_numbers
  else
  (X9_hasRange o_sizes v1 v2 v5).bind fun u19 =>
  if u19 = 0 then
  some o_numbers
  else
  (X9_hasRange o_sizes v3 v4 v5).bind fun u31 =>
  if u31 = 0 then
  some o_numbers
  else
  if cpok ((v1 * 60) + v2) ((v3 * 60) + v4) v5 240 240 then
  some (jcpyL o_numbers o_numbers ((v1 * 60) + v2) ((v3 * 60) + v4) v5)
  else none
abbrev wd_X9_move (E : vE) (a_o a_o_numbers a_o_sorts a_o_sizes : Nat) (o_numbers : Nat → Int64) (o_sizes : Nat → Int32) : va_W := [(a_o, .inr (9, [.ref a_o_numbers, .ref a_o_sorts, .ref a_o_sizes])), (a_o_numbers, .inl (E.2.2.1, 240, .inr (.inl o_numbers))), (a_o_sizes, .inl (E.2.1, 4, .inl o_sizes))]
set_option maxHeartbeats 4000000 in
set_option maxRecDepth 100000 in
theorem ct_X9_move (l : Launch) (E : vE) (a_o a_o_numbers a_o_sorts a_o_sizes : Nat) (o_numbers : Nat → Int64) (o_sizes : Nat → Int32) (v1 : Int32) (v2 : Int32) (v3 : Int32) (v4 : Int32) (v5 : Int32) (u : (Nat → Int64)) (hf : X9_move o_numbers o_sizes v1 v2 v3 v4 v5 = some u) :
    CtV l yX9_move cX9_move 6 none 2 E [.ref a_o, .int v1, .int v2, .int v3, .int v4, .int v5] (wd_X9_move E a_o a_o_numbers a_o_sorts a_o_sizes o_numbers o_sizes) (wd_X9_move E a_o a_o_numbers a_o_sorts a_o_sizes u o_sizes) := by
  refine ctV (by decide) (Nat.le_of_ble_eq_true rfl) ?_
  intro p e s m below meth cd A ls aa QQ hq cx hP hD hS hl
  obtain ⟨⟨hx, hb, hml, hown, hts⟩, hr, hlocks, hK, hA, hX⟩ := id cx
  have hl : lv_has ls 6 [(0, .ref a_o), (1, .int v1), (2, .int v2), (3, .int v3), (4, .int v4), (5, .int v5)] := hl
  unfold X9_move at hf
  refine lv_iload_n hx hb dX9_move_0 rfl (lv_at hl 2 rfl) ?_
  refine lv_if_lt (tgt := 37) hx hb dX9_move_1 (by decide) (fun hc => ?_) (fun hc => ?_)
  · have hf := it_t hc hf
    obtain rfl := Option.some.inj hf
    subst hq
    exact retV cx hP hD hS dX9_move_37
  · have hf := it_f hc hf
    refine lv_iload hx hb dX9_move_4 (lv_at hl 4 rfl) ?_
    refine lv_if_lt (tgt := 37) hx hb dX9_move_6 (by decide) (fun hc => ?_) (fun hc => ?_)
    · have hf := it_t hc hf
      obtain rfl := Option.some.inj hf
      subst hq
      exact retV cx hP hD hS dX9_move_37
    · have hf := it_f hc hf
      refine lv_iload hx hb dX9_move_9 (lv_at hl 5 rfl) ?_
      refine lv_if_lt (tgt := 37) hx hb dX9_move_11 (by decide) (fun hc => ?_) (fun hc => ?_)
      · have hf := it_t hc hf
        obtain rfl := Option.some.inj hf
        subst hq
        exact retV cx hP hD hS dX9_move_37
      · have hf := it_f hc hf
        refine lv_aload_n hx hb dX9_move_14 rfl (lv_at hl 0 rfl) ?_
        refine lv_iload_n hx hb dX9_move_15 rfl (lv_at hl 1 rfl) ?_
        refine lv_iload_n hx hb dX9_move_16 rfl (lv_at hl 2 rfl) ?_
        refine lv_iload hx hb dX9_move_17 (lv_at hl 5 rfl) ?_
        obtain ⟨u19, hu19, hf⟩ := bd hf
        refine keepVI (ct_X9_hasRange l E a_o a_o_numbers a_o_sorts a_o_sizes o_sizes v1 v2 v5 u19 hu19) [0, 2] cal_X9_hasRange cav_X9_hasRange lk_X9_40 cx hP hD hS hl dX9_move_19 rfl rfl rfl rfl (Nat.le_of_ble_eq_true rfl) ⟨Nat.le_of_ble_eq_true rfl, Nat.le_of_ble_eq_true rfl⟩ rfl (by decide) (fun H locs hP hS => ?_)
        refine lv_if_eq (tgt := 37) hx hb dX9_move_22 (by decide) (fun hc => ?_) (fun hc => ?_)
        · have hf := it_t hc hf
          obtain rfl := Option.some.inj hf
          subst hq
          exact retV cx hP hD hS dX9_move_37
        · have hf := it_f hc hf
          refine lv_aload_n hx hb dX9_move_25 rfl (lv_at hl 0 rfl) ?_
          refine lv_iload_n hx hb dX9_move_26 rfl (lv_at hl 3 rfl) ?_
          refine lv_iload hx hb dX9_move_27 (lv_at hl 4 rfl) ?_
          refine lv_iload hx hb dX9_move_29 (lv_at hl 5 rfl) ?_
          obtain ⟨u31, hu31, hf⟩ := bd hf
          refine keepVI (ct_X9_hasRange l E a_o a_o_numbers a_o_sorts a_o_sizes o_sizes v3 v4 v5 u31 hu31) [0, 2] cal_X9_hasRange cav_X9_hasRange lk_X9_40 cx hP hD hS hl dX9_move_31 rfl rfl rfl rfl (Nat.le_of_ble_eq_true rfl) ⟨Nat.le_of_ble_eq_true rfl, Nat.le_of_ble_eq_true rfl⟩ rfl (by decide) (fun H locs hP hS => ?_)
          refine lv_if_ne (tgt := 38) hx hb dX9_move_34 (by decide) (fun hc => ?_) (fun hc => ?_)
          · have hf := it_f hc hf
            refine lv_aload_n hx hb dX9_move_38 rfl (lv_at hl 0 rfl) ?_
            refine va_get (D := E.1) (ci := 9) (v := .ref a_o_numbers) (C := RX9) (T := TX9) (N := 3) hx hb hts inX9 hown hK hP 0 rfl rfl 0 (by decide) (hts _ fl_X9_11) (fun _ h9 => h9) rfl dX9_move_39 ?_
            refine lv_iload_n hx hb dX9_move_42 rfl (lv_at hl 1 rfl) ?_
            refine lv_bipush (v := 60) hx hb dX9_move_43 (by decide) ?_
            refine lv_imul hx hb dX9_move_45 ?_
            refine lv_iload_n hx hb dX9_move_46 rfl (lv_at hl 2 rfl) ?_
            refine lv_iadd hx hb dX9_move_47 ?_
            refine lv_aload_n hx hb dX9_move_48 rfl (lv_at hl 0 rfl) ?_
            refine va_get (D := E.1) (ci := 9) (v := .ref a_o_numbers) (C := RX9) (T := TX9) (N := 3) hx hb hts inX9 hown hK hP 0 rfl rfl 0 (by decide) (hts _ fl_X9_11) (fun _ h9 => h9) rfl dX9_move_49 ?_
            refine lv_iload_n hx hb dX9_move_52 rfl (lv_at hl 3 rfl) ?_
            refine lv_bipush (v := 60) hx hb dX9_move_53 (by decide) ?_
            refine lv_imul hx hb dX9_move_55 ?_
            refine lv_iload hx hb dX9_move_56 (lv_at hl 4 rfl) ?_
            refine lv_iadd hx hb dX9_move_58 ?_
            refine lv_iload hx hb dX9_move_59 (lv_at hl 5 rfl) ?_
            obtain ⟨hi, hf⟩ := ck hf
            refine r_copyl 1 1 cx hP hD hS hl rfl rfl hi lk_X9_44 acp (Nat.le_of_ble_eq_true rfl) (by decide) dX9_move_61 (fun H locs hP hD hS => ?_)
            have hP : va_P E.1 vwCl (wd_X9_move E a_o a_o_numbers a_o_sorts a_o_sizes (jcpyL o_numbers o_numbers ((v1 * 60) + v2) ((v3 * 60) + v4) v5) o_sizes) H := hP
            have hD : va_D A (wd_X9_move E a_o a_o_numbers a_o_sorts a_o_sizes (jcpyL o_numbers o_numbers ((v1 * 60) + v2) ((v3 * 60) + v4) v5) o_sizes) := hD
            obtain rfl := Option.some.inj hf
            subst hq
            exact retV cx hP hD hS dX9_move_64
          · have hf := it_t hc hf
            obtain rfl := Option.some.inj hf
            subst hq
            exact retV cx hP hD hS dX9_move_37
def X10_takeClose_j16 (F : Nat) (o_depth : Int32) (o_tokens_length : Int32) (o_tokens_place : Int32) (o_tokens_next : Int32) (o_tokens_sort : Int32) (o_tokens_value : Int32) (o_tokens_code : Int64) (o_tokens_fault : Int32) (o_tokens_faultPlace : Int32) (o_tokens_text : Nat → Int32) (o_steps_many : Int32) (o_steps_cells : Nat → Int32) (o_opened : Nat → Int32) : Option (Int32 × Int32 × Int32 × Int32 × Int32 × Int64 × Int32 × Int32 × (Nat → Int32)) :=
  (X8_failHere o_tokens_place o_tokens_sort o_tokens_fault o_tokens_faultPlace).bind fun u20 =>
  some (o_depth, o_tokens_place, o_tokens_next, o_tokens_sort, o_tokens_value, o_tokens_code, u20.1, u20.2, o_steps_cells)
def X10_takeClose (F : Nat) (o_depth : Int32) (o_tokens_length : Int32) (o_tokens_place : Int32) (o_tokens_next : Int32) (o_tokens_sort : Int32) (o_tokens_value : Int32) (o_tokens_code : Int64) (o_tokens_fault : Int32) (o_tokens_faultPlace : Int32) (o_tokens_text : Nat → Int32) (o_steps_many : Int32) (o_steps_cells : Nat → Int32) (o_opened : Nat → Int32) : Option (Int32 × Int32 × Int32 × Int32 × Int32 × Int64 × Int32 × Int32 × (Nat → Int32)) :=
  if o_depth < 1 then
  X10_takeClose_j16 F o_depth o_tokens_length o_tokens_place o_tokens_next o_tokens_sort o_tokens_value o_tokens_code o_tokens_fault o_tokens_faultPlace o_tokens_text o_steps_many o_steps_cells o_opened
  else
  if o_depth ≤ 3 then
  if ix (o_depth - 1) 3 then
  (X7_set 180 6 o_steps_many o_steps_cells (jat o_opened (o_depth - 1)) (5 : Int32) o_steps_many).bind fun u55 =>
  (X8_advance F o_tokens_length o_tokens_place o_tokens_next o_tokens_sort o_tokens_value o_tokens_code o_tokens_text).bind fun u62 =>
  (X8_takeEnd F o_tokens_length u62.1 u62.2.1 u62.2.2.1 u62.2.2.2.1 u62.2.2.2.2 o_tokens_fault o_tokens_faultPlace o_tokens_text).bind fun u69 =>
  some ((o_depth - 1), u69.1, u69.2.1, u69.2.2.1, u69.2.2.2.1, u69.2.2.2.2.1, u69.2.2.2.2.2.1, u69.2.2.2.2.2.2, u55)
  else none
  else
  X10_takeClose_j16 F o_depth o_tokens_length o_tokens_place o_tokens_next o_tokens_sort o_tokens_value o_tokens_code o_tokens_fault o_tokens_faultPlace o_tokens_text o_steps_many o_steps_cells o_opened
abbrev wd_X10_takeClose (E : vE) (a_o a_o_tokens a_o_steps a_o_opened a_o_tokens_text a_o_steps_cells : Nat) (o_depth : Int32) (o_tokens_held : Int32) (o_tokens_length : Int32) (o_tokens_place : Int32) (o_tokens_next : Int32) (o_tokens_sort : Int32) (o_tokens_value : Int32) (o_tokens_code : Int64) (o_tokens_fault : Int32) (o_tokens_faultPlace : Int32) (o_tokens_text : Nat → Int32) (o_steps_many : Int32) (o_steps_cells : Nat → Int32) (o_opened : Nat → Int32) : va_W := [(a_o, .inr (10, [.ref a_o_tokens, .ref a_o_steps, .ref a_o_opened, .int o_depth])), (a_o_tokens, .inr (8, [.ref a_o_tokens_text, .int o_tokens_held, .int o_tokens_length, .int o_tokens_place, .int o_tokens_next, .int o_tokens_sort, .int o_tokens_value, .long o_tokens_code, .int o_tokens_fault, .int o_tokens_faultPlace])), (a_o_tokens_text, .inl (E.2.1, 900, .inl o_tokens_text)), (a_o_steps, .inr (7, [.int 6, .ref a_o_steps_cells, .int o_steps_many])), (a_o_steps_cells, .inl (E.2.1, 180, .inl o_steps_cells)), (a_o_opened, .inl (E.2.1, 3, .inl o_opened))]
set_option maxHeartbeats 4000000 in
set_option maxRecDepth 100000 in
theorem ct_X10_takeClose (l : Launch) (E : vE) (F : Nat) (a_o a_o_tokens a_o_steps a_o_opened a_o_tokens_text a_o_steps_cells : Nat) (o_depth : Int32) (o_tokens_held : Int32) (o_tokens_length : Int32) (o_tokens_place : Int32) (o_tokens_next : Int32) (o_tokens_sort : Int32) (o_tokens_value : Int32) (o_tokens_code : Int64) (o_tokens_fault : Int32) (o_tokens_faultPlace : Int32) (o_tokens_text : Nat → Int32) (o_steps_many : Int32) (o_steps_cells : Nat → Int32) (o_opened : Nat → Int32) (u : Int32 × Int32 × Int32 × Int32 × Int32 × Int64 × Int32 × Int32 × (Nat → Int32)) (hf : X10_takeClose F o_depth o_tokens_length o_tokens_place o_tokens_next o_tokens_sort o_tokens_value o_tokens_code o_tokens_fault o_tokens_faultPlace o_tokens_text o_steps_many o_steps_cells o_opened = some u) :
    CtV l yX10_takeClose cX10_takeClose 1 none 7 E [.ref a_o] (wd_X10_takeClose E a_o a_o_tokens a_o_steps a_o_opened a_o_tokens_text a_o_steps_cells o_depth o_tokens_held o_tokens_length o_tokens_place o_tokens_next o_tokens_sort o_tokens_value o_tokens_code o_tokens_fault o_tokens_faultPlace o_tokens_text o_steps_many o_steps_cells o_opened) (wd_X10_takeClose E a_o a_o_tokens a_o_steps a_o_opened a_o_tokens_text a_o_steps_cells u.1 o_tokens_held o_tokens_length u.2.1 u.2.2.1 u.2.2.2.1 u.2.2.2.2.1 u.2.2.2.2.2.1 u.2.2.2.2.2.2.1 u.2.2.2.2.2.2.2.1 o_tokens_text o_steps_many u.2.2.2.2.2.2.2.2 o_opened) := by
  refine ctV (by decide) (Nat.le_of_ble_eq_true rfl) ?_
  intro p e s m below meth cd A ls aa QQ hq cx hP hD hS hl
  obtain ⟨⟨hx, hb, hml, hown, hts⟩, hr, hlocks, hK, hA, hX⟩ := id cx
  have hl : lv_has ls 1 [(0, .ref a_o)] := hl
  have hj16 : ∀ (o_depth_j16 : Int32) (o_tokens_place_j16 : Int32) (o_tokens_next_j16 : Int32) (o_tokens_sort_j16 : Int32) (o_tokens_value_j16 : Int32) (o_tokens_code_j16 : Int64) (o_tokens_fault_j16 : Int32) (o_tokens_faultPlace_j16 : Int32) (o_steps_cells_j16 : Nat → Int32) (H : Heap) (locs : List Loc) (ls : Array Slot), X10_takeClose_j16 F o_depth_j16 o_tokens_length o_tokens_place_j16 o_tokens_next_j16 o_tokens_sort_j16 o_tokens_value_j16 o_tokens_code_j16 o_tokens_fault_j16 o_tokens_faultPlace_j16 o_tokens_text o_steps_many o_steps_cells_j16 o_opened = some u → va_P E.1 vwCl (wd_X10_takeClose E a_o a_o_tokens a_o_steps a_o_opened a_o_tokens_text a_o_steps_cells o_depth_j16 o_tokens_held o_tokens_length o_tokens_place_j16 o_tokens_next_j16 o_tokens_sort_j16 o_tokens_value_j16 o_tokens_code_j16 o_tokens_fault_j16 o_tokens_faultPlace_j16 o_tokens_text o_steps_many o_steps_cells_j16 o_opened) H → va_D A (wd_X10_takeClose E a_o a_o_tokens a_o_steps a_o_opened a_o_tokens_text a_o_steps_cells o_depth_j16 o_tokens_held o_tokens_length o_tokens_place_j16 o_tokens_next_j16 o_tokens_sort_j16 o_tokens_value_j16 o_tokens_code_j16 o_tokens_fault_j16 o_tokens_faultPlace_j16 o_tokens_text o_steps_many o_steps_cells_j16 o_opened) → va_S A s.heap H locs → lv_has ls 1 [(0, .ref a_o)] → W p l e (rmd 7) s m aa below meth cd H locs 0 0 QQ (F0 m 16 ls []) := by
    intro o_depth_j16 o_tokens_place_j16 o_tokens_next_j16 o_tokens_sort_j16 o_tokens_value_j16 o_tokens_code_j16 o_tokens_fault_j16 o_tokens_faultPlace_j16 o_steps_cells_j16 H locs ls hf hP hD hS hl
    unfold X10_takeClose_j16 at hf
    refine lv_aload_n hx hb dX10_takeClose_16 rfl (lv_at hl 0 rfl) ?_
    refine va_get (D := E.1) (ci := 10) (v := .ref a_o_tokens) (C := RX10) (T := TX10) (N := 4) hx hb hts inX10 hown hK hP 0 rfl rfl 0 (by decide) (hts _ fl_X10_22) (fun _ h9 => h9) rfl dX10_takeClose_17 ?_
    obtain ⟨u20, hu20, hf⟩ := bd hf
    refine callVV (wn := (wd_X10_takeClose E a_o a_o_tokens a_o_steps a_o_opened a_o_tokens_text a_o_steps_cells o_depth_j16 o_tokens_held o_tokens_length o_tokens_place_j16 o_tokens_next_j16 o_tokens_sort_j16 o_tokens_value_j16 o_tokens_code_j16 u20.1 u20.2 o_tokens_text o_steps_many o_steps_cells_j16 o_opened)) (n1 := 6) (ct_X8_failHere l E a_o_tokens a_o_tokens_text o_tokens_held o_tokens_length o_tokens_place_j16 o_tokens_next_j16 o_tokens_sort_j16 o_tokens_value_j16 o_tokens_code_j16 o_tokens_fault_j16 o_tokens_faultPlace_j16 u20 hu20) [1] cal_X8_failHere cav_X8_failHere lk_X10_66 cx hP hD hS hl dX10_takeClose_20 rfl rfl rfl rfl (Nat.le_of_ble_eq_true rfl) ⟨Nat.le_of_ble_eq_true rfl, Nat.le_of_ble_eq_true rfl⟩ rfl (by decide +kernel) rfl [none, some 0, none, none, none, none] rfl (by decide +kernel) rfl (fun H locs hP hD hS => ?_)
    obtain rfl := Option.some.inj hf
    subst hq
    exact retV cx hP hD hS dX10_takeClose_23
  unfold X10_takeClose at hf
  refine lv_aload_n hx hb dX10_takeClose_0 rfl (lv_at hl 0 rfl) ?_
  refine va_get (D := E.1) (ci := 10) (v := .int o_depth) (C := RX10) (T := TX10) (N := 4) hx hb hts inX10 hown hK hP 0 rfl rfl 3 (by decide) (hts _ fl_X10_30) (fun _ h9 => h9) rfl dX10_takeClose_1 ?_
  refine lv_iconst (v := 1) hx hb dX10_takeClose_4 (by decide) ?_
  refine lv_icmp_lt (tgt := 16) hx hb dX10_takeClose_5 (by decide) (fun hc => ?_) (fun hc => ?_)
  · have hf := it_t hc hf
    exact hj16 _ _ _ _ _ _ _ _ _ _ _ _ hf hP hD hS (lv_sub hl [0] rfl)
  · have hf := it_f hc hf
    refine lv_aload_n hx hb dX10_takeClose_8 rfl (lv_at hl 0 rfl) ?_
    refine va_get (D := E.1) (ci := 10) (v := .int o_depth) (C := RX10) (T := TX10) (N := 4) hx hb hts inX10 hown hK hP 0 rfl rfl 3 (by decide) (hts _ fl_X10_30) (fun _ h9 => h9) rfl dX10_takeClose_9 ?_
    refine lv_iconst (v := 3) hx hb dX10_takeClose_12 (by decide) ?_
    refine lv_icmp_le (tgt := 24) hx hb dX10_takeClose_13 (by decide) (fun hc => ?_) (fun hc => ?_)
    · have hf := it_t hc hf
      refine lv_aload_n hx hb dX10_takeClose_24 rfl (lv_at hl 0 rfl) ?_
      refine lv_dup hx hb dX10_takeClose_25 rfl ?_
      refine va_get (D := E.1) (ci := 10) (v := .int o_depth) (C := RX10) (T := TX10) (N := 4) hx hb hts inX10 hown hK hP 0 rfl rfl 3 (by decide) (hts _ fl_X10_30) (fun _ h9 => h9) rfl dX10_takeClose_26 ?_
      refine lv_iconst (v := 1) hx hb dX10_takeClose_29 (by decide) ?_
      refine lv_isub hx hb dX10_takeClose_30 ?_
      refine va_put (D := E.1) (ci := 10) (v := .int (o_depth - 1)) (ty := .int) (C := RX10) (T := TX10) (N := 4) hx hb hts inX10 tyX10 tyX10_ok nmX10 hown hK hP hD hS 0 rfl rfl 3 (by decide) (hts _ fl_X10_30) (fun _ h9 => h9) rfl (by decide +kernel) rfl rfl (Nat.le_of_ble_eq_true rfl) dX10_takeClose_31 (fun H locs hP hD hS => ?_)
      have hP : va_P E.1 vwCl (wd_X10_takeClose E a_o a_o_tokens a_o_steps a_o_opened a_o_tokens_text a_o_steps_cells (o_depth - 1) o_tokens_held o_tokens_length o_tokens_place o_tokens_next o_tokens_sort o_tokens_value o_tokens_code o_tokens_fault o_tokens_faultPlace o_tokens_text o_steps_many o_steps_cells o_opened) H := hP
      have hD : va_D A (wd_X10_takeClose E a_o a_o_tokens a_o_steps a_o_opened a_o_tokens_text a_o_steps_cells (o_depth - 1) o_tokens_held o_tokens_length o_tokens_place o_tokens_next o_tokens_sort o_tokens_value o_tokens_code o_tokens_fault o_tokens_faultPlace o_tokens_text o_steps_many o_steps_cells o_opened) := hD
      refine lv_aload_n hx hb dX10_takeClose_34 rfl (lv_at hl 0 rfl) ?_
      refine va_get (D := E.1) (ci := 10) (v := .ref a_o_steps) (C := RX10) (T := TX10) (N := 4) hx hb hts inX10 hown hK hP 0 rfl rfl 1 (by decide) (hts _ fl_X10_14) (fun _ h9 => h9) rfl dX10_takeClose_35 ?_
      refine lv_aload_n hx hb dX10_takeClose_38 rfl (lv_at hl 0 rfl) ?_
      refine va_get (D := E.1) (ci := 10) (v := .ref a_o_opened) (C := RX10) (T := TX10) (N := 4) hx hb hts inX10 hown hK hP 0 rfl rfl 2 (by decide) (hts _ fl_X10_18) (fun _ h9 => h9) rfl dX10_takeClose_39 ?_
      refine lv_aload_n hx hb dX10_takeClose_42 rfl (lv_at hl 0 rfl) ?_
      refine va_get (D := E.1) (ci := 10) (v := .int (o_depth - 1)) (C := RX10) (T := TX10) (N := 4) hx hb hts inX10 hown hK hP 0 rfl rfl 3 (by decide) (hts _ fl_X10_30) (fun _ h9 => h9) rfl dX10_takeClose_43 ?_
      obtain ⟨hi, hf⟩ := ck hf
      refine r_iald 5 cx hP rfl hi dX10_takeClose_46 ?_
      refine lv_iconst (v := 5) hx hb dX10_takeClose_47 (by decide) ?_
      refine lv_aload_n hx hb dX10_takeClose_48 rfl (lv_at hl 0 rfl) ?_
      refine va_get (D := E.1) (ci := 10) (v := .ref a_o_steps) (C := RX10) (T := TX10) (N := 4) hx hb hts inX10 hown hK hP 0 rfl rfl 1 (by decide) (hts _ fl_X10_14) (fun _ h9 => h9) rfl dX10_takeClose_49 ?_
      refine va_get (D := E.1) (ci := 7) (v := .int o_steps_many) (C := RX7) (T := TX7) (N := 3) hx hb hts inX7 hown hK hP 3 rfl rfl 2 (by decide) (hts _ fl_X10_26) (fun _ h9 => h9) rfl dX10_takeClose_52 ?_
      obtain ⟨u55, hu55, hf⟩ := bd hf
      refine callVV (wn := (wd_X10_takeClose E a_o a_o_tokens a_o_steps a_o_opened a_o_tokens_text a_o_steps_cells (o_depth - 1) o_tokens_held o_tokens_length o_tokens_place o_tokens_next o_tokens_sort o_tokens_value o_tokens_code o_tokens_fault o_tokens_faultPlace o_tokens_text o_steps_many u55 o_opened)) (n1 := 6) (ct_X7_set l E a_o_steps a_o_steps_cells 180 6 o_steps_many o_steps_cells (jat o_opened (o_depth - 1)) (5 : Int32) o_steps_many u55 hu55) [3, 4] cal_X7_set cav_X7_set lk_X10_76 cx hP hD hS hl dX10_takeClose_55 rfl rfl rfl rfl (Nat.le_of_ble_eq_true rfl) ⟨Nat.le_of_ble_eq_true rfl, Nat.le_of_ble_eq_true rfl⟩ rfl (by decide +kernel) rfl [none, none, none, some 0, some 1, none] rfl (by decide +kernel) rfl (fun H locs hP hD hS => ?_)
      refine lv_aload_n hx hb dX10_takeClose_58 rfl (lv_at hl 0 rfl) ?_
      refine va_get (D := E.1) (ci := 10) (v := .ref a_o_tokens) (C := RX10) (T := TX10) (N := 4) hx hb hts inX10 hown hK hP 0 rfl rfl 0 (by decide) (hts _ fl_X10_22) (fun _ h9 => h9) rfl dX10_takeClose_59 ?_
      obtain ⟨u62, hu62, hf⟩ := bd hf
      refine callVV (wn := (wd_X10_takeClose E a_o a_o_tokens a_o_steps a_o_opened a_o_tokens_text a_o_steps_cells (o_depth - 1) o_tokens_held o_tokens_length u62.1 u62.2.1 u62.2.2.1 u62.2.2.2.1 u62.2.2.2.2 o_tokens_fault o_tokens_faultPlace o_tokens_text o_steps_many u55 o_opened)) (n1 := 6) (ct_X8_advance l E F a_o_tokens a_o_tokens_text o_tokens_held o_tokens_length o_tokens_place o_tokens_next o_tokens_sort o_tokens_value o_tokens_code o_tokens_fault o_tokens_faultPlace o_tokens_text u62 hu62) [1, 2] cal_X8_advance cav_X8_advance lk_X10_80 cx hP hD hS hl dX10_takeClose_62 rfl rfl rfl rfl (Nat.le_of_ble_eq_true rfl) ⟨Nat.le_of_ble_eq_true rfl, Nat.le_of_ble_eq_true rfl⟩ rfl (by decide +kernel) rfl [none, some 0, some 1, none, none, none] rfl (by decide +kernel) rfl (fun H locs hP hD hS => ?_)
      refine lv_aload_n hx hb dX10_takeClose_65 rfl (lv_at hl 0 rfl) ?_
      refine va_get (D := E.1) (ci := 10) (v := .ref a_o_tokens) (C := RX10) (T := TX10) (N := 4) hx hb hts inX10 hown hK hP 0 rfl rfl 0 (by decide) (hts _ fl_X10_22) (fun _ h9 => h9) rfl dX10_takeClose_66 ?_
      obtain ⟨u69, hu69, hf⟩ := bd hf
      refine callVV (wn := (wd_X10_takeClose E a_o a_o_tokens a_o_steps a_o_opened a_o_tokens_text a_o_steps_cells (o_depth - 1) o_tokens_held o_tokens_length u69.1 u69.2.1 u69.2.2.1 u69.2.2.2.1 u69.2.2.2.2.1 u69.2.2.2.2.2.1 u69.2.2.2.2.2.2 o_tokens_text o_steps_many u55 o_opened)) (n1 := 6) (ct_X8_takeEnd l E F a_o_tokens a_o_tokens_text o_tokens_held o_tokens_length u62.1 u62.2.1 u62.2.2.1 u62.2.2.2.1 u62.2.2.2.2 o_tokens_fault o_tokens_faultPlace o_tokens_text u69 hu69) [1, 2] cal_X8_takeEnd cav_X8_takeEnd lk_X10_91 cx hP hD hS hl dX10_takeClose_69 rfl rfl rfl rfl (Nat.le_of_ble_eq_true rfl) ⟨Nat.le_of_ble_eq_true rfl, Nat.le_of_ble_eq_true rfl⟩ rfl (by decide +kernel) rfl [none, some 0, some 1, none, none, none] rfl (by decide +kernel) rfl (fun H locs hP hD hS => ?_)
      obtain rfl := Option.some.inj hf
      subst hq
      exact retV cx hP hD hS dX10_takeClose_72
    · have hf := it_f hc hf
      exact hj16 _ _ _ _ _ _ _ _ _ _ _ _ hf hP hD hS (lv_sub hl [0] rfl)
def X10_isStep (v0 : Int32) : Option (Int32) :=
  if v0 = 10 then
  some 1
  else if v0 = 15 then
  some 1
  else if v0 = 16 then
  some 1
  else if v0 = 17 then
  some 1
  else if v0 = 18 then
  some 1
  else if v0 = 23 then
  some 1
  else if v0 = 25 then
  some 1
  else some 0
abbrev wd_X10_isStep (E : vE) : va_W := []
set_option maxHeartbeats 4000000 in
set_option maxRecDepth 100000 in
theorem ct_X10_isStep (l : Launch) (E : vE) (v0 : Int32) (u : Int32) (hf : X10_isStep v0 = some u) :
    CtI l yX10_isStep cX10_isStep 1 (some .boolean) 0 E [.int v0] (wd_X10_isStep E) (wd_X10_isStep E) u := by
  refine ctI (by decide) (Nat.le_of_ble_eq_true rfl) ?_
  intro p e s m below meth cd A ls aa QQ hq cx hP hD hS hl
  obtain ⟨⟨hx, hb, hml, hown, hts⟩, hr, hlocks, hK, hA, hX⟩ := id cx
  have hl : lv_has ls 1 [(0, .int v0)] := hl
  unfold X10_isStep at hf
  refine lv_iload_n hx hb dX10_isStep_0 rfl (lv_at hl 0 rfl) ?_
  by_cases hc11 : v0 = 10
  · have hf := it_t hc11 hf
    refine swT (tgt := 80) 0 cx dX10_isStep_1 (by rw [hc11]; decide) (by decide) rfl (by decide) ?_
    refine lv_iconst (v := 1) hx hb dX10_isStep_80 (by decide) ?_
    obtain rfl := Option.some.inj hf
    subst hq
    exact retZ cx rfl hP hD hS dX10_isStep_81
  · have hf := it_f hc11 hf
    by_cases hc16 : v0 = 15
    · have hf := it_t hc16 hf
      refine swT (tgt := 80) 5 cx dX10_isStep_1 (by rw [hc16]; decide) (by decide) rfl (by decide) ?_
      refine lv_iconst (v := 1) hx hb dX10_isStep_80 (by decide) ?_
      obtain rfl := Option.some.inj hf
      subst hq
      exact retZ cx rfl hP hD hS dX10_isStep_81
    · have hf := it_f hc16 hf
      by_cases hc17 : v0 = 16
      · have hf := it_t hc17 hf
        refine swT (tgt := 80) 6 cx dX10_isStep_1 (by rw [hc17]; decide) (by decide) rfl (by decide) ?_
        refine lv_iconst (v := 1) hx hb dX10_isStep_80 (by decide) ?_
        obtain rfl := Option.some.inj hf
        subst hq
        exact retZ cx rfl hP hD hS dX10_isStep_81
      · have hf := it_f hc17 hf
        by_cases hc18 : v0 = 17
        · have hf := it_t hc18 hf
          refine swT (tgt := 80) 7 cx dX10_isStep_1 (by rw [hc18]; decide) (by decide) rfl (by decide) ?_
          refine lv_iconst (v := 1) hx hb dX10_isStep_80 (by decide) ?_
          obtain rfl := Option.some.inj hf
          subst hq
          exact retZ cx rfl hP hD hS dX10_isStep_81
        · have hf := it_f hc18 hf
          by_cases hc19 : v0 = 18
          · have hf := it_t hc19 hf
            refine swT (tgt := 80) 8 cx dX10_isStep_1 (by rw [hc19]; decide) (by decide) rfl (by decide) ?_
            refine lv_iconst (v := 1) hx hb dX10_isStep_80 (by decide) ?_
            obtain rfl := Option.some.inj hf
            subst hq
            exact retZ cx rfl hP hD hS dX10_isStep_81
          · have hf := it_f hc19 hf
            by_cases hc24 : v0 = 23
            · have hf := it_t hc24 hf
              refine swT (tgt := 80) 13 cx dX10_isStep_1 (by rw [hc24]; decide) (by decide) rfl (by decide) ?_
              refine lv_iconst (v := 1) hx hb dX10_isStep_80 (by decide) ?_
              obtain rfl := Option.some.inj hf
              subst hq
              exact retZ cx rfl hP hD hS dX10_isStep_81
            · have hf := it_f hc24 hf
              by_cases hc26 : v0 = 25
              · have hf := it_t hc26 hf
                refine swT (tgt := 80) 15 cx dX10_isStep_1 (by rw [hc26]; decide) (by decide) rfl (by decide) ?_
                refine lv_iconst (v := 1) hx hb dX10_isStep_80 (by decide) ?_
                obtain rfl := Option.some.inj hf
                subst hq
                exact retZ cx rfl hP hD hS dX10_isStep_81
              · have hf := it_f hc26 hf
                refine swD (tgt := 82) [10, 15, 16, 17, 18, 23, 25] cx dX10_isStep_1 ?_ (by decide) (by decide) ?_
                · intro z hz
                  simp only [List.mem_cons, List.not_mem_nil, or_false] at hz
                  rcases hz with rfl | rfl | rfl | rfl | rfl | rfl | rfl
                  · exact ne_int hc11 (by decide)
                  · exact ne_int hc16 (by decide)
                  · exact ne_int hc17 (by decide)
                  · exact ne_int hc18 (by decide)
                  · exact ne_int hc19 (by decide)
                  · exact ne_int hc24 (by decide)
                  · exact ne_int hc26 (by decide)
                · refine lv_iconst (v := 0) hx hb dX10_isStep_82 (by decide) ?_
                  obtain rfl := Option.some.inj hf
                  subst hq
                  exact retZ cx rfl hP hD hS dX10_isStep_83
def X10_takeTest_j22 (F : Nat) (o_tokens_length : Int32) (o_tokens_place : Int32) (o_tokens_next : Int32) (o_tokens_sort : Int32) (o_tokens_value : Int32) (o_tokens_code : Int64) (o_tokens_fault : Int32) (o_tokens_faultPlace : Int32) (o_tokens_text : Nat → Int32) (o_steps_many : Int32) (o_steps_cells : Nat → Int32) (q2_many : Int32) (q2_codes : Nat → Int64) (q2_sorts : Nat → Int32) (q2_numbers : Nat → Int32) (v1 : Int32) (k0 : Int32) : Option (Int32 × Int32 × Int32 × Int32 × Int64 × Int32 × Int32 × (Nat → Int32)) :=
  (X7_set 180 6 o_steps_many o_steps_cells v1 (3 : Int32) k0).bind fun u30 =>
  if k0 = 19 then
  (X8_advance F o_tokens_length o_tokens_place o_tokens_next o_tokens_sort o_tokens_value o_tokens_code o_tokens_text).bind fun u68 =>
  (X8_takeName F o_tokens_length u68.1 u68.2.1 u68.2.2.1 u68.2.2.2.1 u68.2.2.2.2 o_tokens_fault o_tokens_faultPlace o_tokens_text q2_many q2_codes q2_sorts q2_numbers (3 : Int32)).bind fun u83 =>
  (X7_set 180 6 o_steps_many u30 v1 (1 : Int32) u83.1).bind fun u86 =>
  (X8_takeNumber F o_tokens_length u83.2.1 u83.2.2.1 u83.2.2.2.1 u83.2.2.2.2.1 u83.2.2.2.2.2.1 u83.2.2.2.2.2.2.1 u83.2.2.2.2.2.2.2 o_tokens_text (0 : Int32) (2 : Int32)).bind fun u101 =>
  (X7_set 180 6 o_steps_many u86 v1 (2 : Int32) u101.1).bind fun u104 =>
  some (u101.2.1, u101.2.2.1, u101.2.2.2.1, u101.2.2.2.2.1, u101.2.2.2.2.2.1, u101.2.2.2.2.2.2.1, u101.2.2.2.2.2.2.2, u104)
  else if k0 = 20 then
  (X8_advance F o_tokens_length o_tokens_place o_tokens_next o_tokens_sort o_tokens_value o_tokens_code o_tokens_text).bind fun u114 =>
  (X8_takeName F o_tokens_length u114.1 u114.2.1 u114.2.2.1 u114.2.2.2.1 u114.2.2.2.2 o_tokens_fault o_tokens_faultPlace o_tokens_text q2_many q2_codes q2_sorts q2_numbers (2 : Int32)).bind fun u129 =>
  (X7_set 180 6 o_steps_many u30 v1 (1 : Int32) u129.1).bind fun u132 =>
  (X8_takeName F o_tokens_length u129.2.1 u129.2.2.1 u129.2.2.2.1 u129.2.2.2.2.1 u129.2.2.2.2.2.1 u129.2.2.2.2.2.2.1 u129.2.2.2.2.2.2.2 o_tokens_text q2_many q2_codes q2_sorts q2_numbers (1 : Int32)).bind fun u147 =>
  (X7_set 180 6 o_steps_many u132 v1 (2 : Int32) u147.1).bind fun u150 =>
  some (u147.2.1, u147.2.2.1, u147.2.2.2.1, u147.2.2.2.2.1, u147.2.2.2.2.2.1, u147.2.2.2.2.2.2.1, u147.2.2.2.2.2.2.2, u150)
  else if k0 = 21 then
  (X8_advance F o_tokens_length o_tokens_place o_tokens_next o_tokens_sort o_tokens_value o_tokens_code o_tokens_text).bind fun u160 =>
  (X8_takeName F o_tokens_length u160.1 u160.2.1 u160.2.2.1 u160.2.2.2.1 u160.2.2.2.2 o_tokens_fault o_tokens_faultPlace o_tokens_text q2_many q2_codes q2_sorts q2_numbers (3 : Int32)).bind fun u175 =>
  (X7_set 180 6 o_steps_many u30 v1 (1 : Int32) u175.1).bind fun u178 =>
  some (u175.2.1, u175.2.2.1, u175.2.2.2.1, u175.2.2.2.2.1, u175.2.2.2.2.2.1, u175.2.2.2.2.2.2.1, u175.2.2.2.2.2.2.2, u178)
  else if k0 = 22 then
  (X8_advance F o_tokens_length o_tokens_place o_tokens_next o_tokens_sort o_tokens_value o_tokens_code o_tokens_text).bind fun u188 =>
  (X8_takeName F o_tokens_length u188.1 u188.2.1 u188.2.2.1 u188.2.2.2.1 u188.2.2.2.2 o_tokens_fault o_tokens_faultPlace o_tokens_text q2_many q2_codes q2_sorts q2_numbers (4 : Int32)).bind fun u203 =>
  (X7_set 180 6 o_steps_many u30 v1 (1 : Int32) u203.1).bind fun u206 =>
  (X8_takeCompare F o_tokens_length u203.2.1 u203.2.2.1 u203.2.2.2.1 u203.2.2.2.2.1 u203.2.2.2.2.2.1 u203.2.2.2.2.2.2.1 u203.2.2.2.2.2.2.2 o_tokens_text).bind fun u219 =>
  (X7_set 180 6 o_steps_many u206 v1 (4 : Int32) u219.1).bind fun u222 =>
  (X8_takeNumber F o_tokens_length u219.2.1 u219.2.2.1 u219.2.2.2.1 u219.2.2.2.2.1 u219.2.2.2.2.2.1 u219.2.2.2.2.2.2.1 u219.2.2.2.2.2.2.2 o_tokens_text (0 : Int32) (9999 : Int32)).bind fun u239 =>
  (X7_set 180 6 o_steps_many u222 v1 (2 : Int32) u239.1).bind fun u242 =>
  some (u239.2.1, u239.2.2.1, u239.2.2.2.1, u239.2.2.2.2.1, u239.2.2.2.2.2.1, u239.2.2.2.2.2.2.1, u239.2.2.2.2.2.2.2, u242)
  else (X8_failHere o_tokens_place o_tokens_sort o_tokens_fault o_tokens_faultPlace).bind fun u252 =>
  some (o_tokens_place, o_tokens_next, o_tokens_sort, o_tokens_value, o_tokens_code, u252.1, u252.2, u30)
def X10_takeTest (F : Nat) (o_tokens_length : Int32) (o_tokens_place : Int32) (o_tokens_next : Int32) (o_tokens_sort : Int32) (o_tokens_value : Int32) (o_tokens_code : Int64) (o_tokens_fault : Int32) (o_tokens_faultPlace : Int32) (o_tokens_text : Nat → Int32) (o_steps_many : Int32) (o_steps_cells : Nat → Int32) (q2_many : Int32) (q2_codes : Nat → Int64) (q2_sorts : Nat → Int32) (q2_numbers : Nat → Int32) (v1 : Int32) : Option (Int32 × Int32 × Int32 × Int32 × Int64 × Int32 × Int32 × (Nat → Int32)) :=
  if o_tokens_sort = 1 then
  X10_takeTest_j22 F o_tokens_length o_tokens_place o_tokens_next o_tokens_sort o_tokens_value o_tokens_code o_tokens_fault o_tokens_faultPlace o_tokens_text o_steps_many o_steps_cells q2_many q2_codes q2_sorts q2_numbers v1 o_tokens_value
  else
  X10_takeTest_j22 F o_tokens_length o_tokens_place o_tokens_next o_tokens_sort o_tokens_value o_tokens_code o_tokens_fault o_tokens_faultPlace o_tokens_text o_steps_many o_steps_cells q2_many q2_codes q2_sorts q2_numbers v1 0
abbrev wd_X10_takeTest (E : vE) (a_o a_o_tokens a_o_steps a_o_opened a_o_tokens_text a_o_steps_cells a_q2 a_q2_codes a_q2_sorts a_q2_numbers : Nat) (o_depth : Int32) (o_tokens_held : Int32) (o_tokens_length : Int32) (o_tokens_place : Int32) (o_tokens_next : Int32) (o_tokens_sort : Int32) (o_tokens_value : Int32) (o_tokens_code : Int64) (o_tokens_fault : Int32) (o_tokens_faultPlace : Int32) (o_tokens_text : Nat → Int32) (o_steps_many : Int32) (o_steps_cells : Nat → Int32) (q2_many : Int32) (q2_codes : Nat → Int64) (q2_sorts : Nat → Int32) (q2_numbers : Nat → Int32) : va_W := [(a_o, .inr (10, [.ref a_o_tokens, .ref a_o_steps, .ref a_o_opened, .int o_depth])), (a_o_tokens, .inr (8, [.ref a_o_tokens_text, .int o_tokens_held, .int o_tokens_length, .int o_tokens_place, .int o_tokens_next, .int o_tokens_sort, .int o_tokens_value, .long o_tokens_code, .int o_tokens_fault, .int o_tokens_faultPlace])), (a_o_tokens_text, .inl (E.2.1, 900, .inl o_tokens_text)), (a_o_steps, .inr (7, [.int 6, .ref a_o_steps_cells, .int o_steps_many])), (a_o_steps_cells, .inl (E.2.1, 180, .inl o_steps_cells)), (a_q2, .inr (3, [.ref a_q2_codes, .ref a_q2_sorts, .ref a_q2_numbers, .int q2_many])), (a_q2_codes, .inl (E.2.2.1, 27, .inr (.inl q2_codes))), (a_q2_sorts, .inl (E.2.1, 27, .inl q2_sorts)), (a_q2_numbers, .inl (E.2.1, 27, .inl q2_numbers))]
set_option maxHeartbeats 4000000 in
set_option maxRecDepth 100000 in
theorem ct_X10_takeTest (l : Launch) (E : vE) (F : Nat) (a_o a_o_tokens a_o_steps a_o_opened a_o_tokens_text a_o_steps_cells a_q2 a_q2_codes a_q2_sorts a_q2_numbers : Nat) (o_depth : Int32) (o_tokens_held : Int32) (o_tokens_length : Int32) (o_tokens_place : Int32) (o_tokens_next : Int32) (o_tokens_sort : Int32) (o_tokens_value : Int32) (o_tokens_code : Int64) (o_tokens_fault : Int32) (o_tokens_faultPlace : Int32) (o_tokens_text : Nat → Int32) (o_steps_many : Int32) (o_steps_cells : Nat → Int32) (q2_many : Int32) (q2_codes : Nat → Int64) (q2_sorts : Nat → Int32) (q2_numbers : Nat → Int32) (v1 : Int32) (u : Int32 × Int32 × Int32 × Int32 × Int64 × Int32 × Int32 × (Nat → Int32)) (hf : X10_takeTest F o_tokens_length o_tokens_place o_tokens_next o_tokens_sort o_tokens_value o_tokens_code o_tokens_fault o_tokens_faultPlace o_tokens_text o_steps_many o_steps_cells q2_many q2_codes q2_sorts q2_numbers v1 = some u) :
    CtV l yX10_takeTest cX10_takeTest 4 none 7 E [.ref a_o, .int v1, .ref a_q2] (wd_X10_takeTest E a_o a_o_tokens a_o_steps a_o_opened a_o_tokens_text a_o_steps_cells a_q2 a_q2_codes a_q2_sorts a_q2_numbers o_depth o_tokens_held o_tokens_length o_tokens_place o_tokens_next o_tokens_sort o_tokens_value o_tokens_code o_tokens_fault o_tokens_faultPlace o_tokens_text o_steps_many o_steps_cells q2_many q2_codes q2_sorts q2_numbers) (wd_X10_takeTest E a_o a_o_tokens a_o_steps a_o_opened a_o_tokens_text a_o_steps_cells a_q2 a_q2_codes a_q2_sorts a_q2_numbers o_depth o_tokens_held o_tokens_length u.1 u.2.1 u.2.2.1 u.2.2.2.1 u.2.2.2.2.1 u.2.2.2.2.2.1 u.2.2.2.2.2.2.1 o_tokens_text o_steps_many u.2.2.2.2.2.2.2 q2_many q2_codes q2_sorts q2_numbers) := by
  refine ctV (by decide) (Nat.le_of_ble_eq_true rfl) ?_
  intro p e s m below meth cd A ls aa QQ hq cx hP hD hS hl
  obtain ⟨⟨hx, hb, hml, hown, hts⟩, hr, hlocks, hK, hA, hX⟩ := id cx
  have hl : lv_has ls 4 [(0, .ref a_o), (1, .int v1), (2, .ref a_q2)] := hl
  have hj22 : ∀ (o_tokens_place_j22 : Int32) (o_tokens_next_j22 : Int32) (o_tokens_sort_j22 : Int32) (o_tokens_value_j22 : Int32) (o_tokens_code_j22 : Int64) (o_tokens_fault_j22 : Int32) (o_tokens_faultPlace_j22 : Int32) (o_steps_cells_j22 : Nat → Int32) (k0_j22 : Int32) (H : Heap) (locs : List Loc) (ls : Array Slot), X10_takeTest_j22 F o_tokens_length o_tokens_place_j22 o_tokens_next_j22 o_tokens_sort_j22 o_tokens_value_j22 o_tokens_code_j22 o_tokens_fault_j22 o_tokens_faultPlace_j22 o_tokens_text o_steps_many o_steps_cells_j22 q2_many q2_codes q2_sorts q2_numbers v1 k0_j22 = some u → va_P E.1 vwCl (wd_X10_takeTest E a_o a_o_tokens a_o_steps a_o_opened a_o_tokens_text a_o_steps_cells a_q2 a_q2_codes a_q2_sorts a_q2_numbers o_depth o_tokens_held o_tokens_length o_tokens_place_j22 o_tokens_next_j22 o_tokens_sort_j22 o_tokens_value_j22 o_tokens_code_j22 o_tokens_fault_j22 o_tokens_faultPlace_j22 o_tokens_text o_steps_many o_steps_cells_j22 q2_many q2_codes q2_sorts q2_numbers) H → va_D A (wd_X10_takeTest E a_o a_o_tokens a_o_steps a_o_opened a_o_tokens_text a_o_steps_cells a_q2 a_q2_codes a_q2_sorts a_q2_numbers o_depth o_tokens_held o_tokens_length o_tokens_place_j22 o_tokens_next_j22 o_tokens_sort_j22 o_tokens_value_j22 o_tokens_code_j22 o_tokens_fault_j22 o_tokens_faultPlace_j22 o_tokens_text o_steps_many o_steps_cells_j22 q2_many q2_codes q2_sorts q2_numbers) → va_S A s.heap H locs → lv_has ls 4 [(0, .ref a_o), (1, .int v1), (2, .ref a_q2)] → W p l e (rmd 7) s m aa below meth cd H locs 0 0 QQ (F0 m 22 ls [.int k0_j22]) := by
    intro o_tokens_place_j22 o_tokens_next_j22 o_tokens_sort_j22 o_tokens_value_j22 o_tokens_code_j22 o_tokens_fault_j22 o_tokens_faultPlace_j22 o_steps_cells_j22 k0_j22 H locs ls hf hP hD hS hl
    unfold X10_takeTest_j22 at hf
    refine lv_istore_n (lv' := [(3, .int k0_j22), (0, .ref a_o), (1, .int v1), (2, .ref a_q2)]) hx hb dX10_takeTest_22 rfl hl (by decide) rfl (fun ls hl => ?_)
    refine lv_aload_n hx hb dX10_takeTest_23 rfl (lv_at hl 1 rfl) ?_
    refine va_get (D := E.1) (ci := 10) (v := .ref a_o_steps) (C := RX10) (T := TX10) (N := 4) hx hb hts inX10 hown hK hP 0 rfl rfl 1 (by decide) (hts _ fl_X10_14) (fun _ h9 => h9) rfl dX10_takeTest_24 ?_
    refine lv_iload_n hx hb dX10_takeTest_27 rfl (lv_at hl 2 rfl) ?_
    refine lv_iconst (v := 3) hx hb dX10_takeTest_28 (by decide) ?_
    refine lv_iload_n hx hb dX10_takeTest_29 rfl (lv_at hl 0 rfl) ?_
    obtain ⟨u30, hu30, hf⟩ := bd hf
    refine callVV (wn := (wd_X10_takeTest E a_o a_o_tokens a_o_steps a_o_opened a_o_tokens_text a_o_steps_cells a_q2 a_q2_codes a_q2_sorts a_q2_numbers o_depth o_tokens_held o_tokens_length o_tokens_place_j22 o_tokens_next_j22 o_tokens_sort_j22 o_tokens_value_j22 o_tokens_code_j22 o_tokens_fault_j22 o_tokens_faultPlace_j22 o_tokens_text o_steps_many u30 q2_many q2_codes q2_sorts q2_numbers)) (n1 := 9) (ct_X7_set l E a_o_steps a_o_steps_cells 180 6 o_steps_many o_steps_cells_j22 v1 (3 : Int32) k0_j22 u30 hu30) [3, 4] cal_X7_set cav_X7_set lk_X10_76 cx hP hD hS hl dX10_takeTest_30 rfl rfl rfl rfl (Nat.le_of_ble_eq_true rfl) ⟨Nat.le_of_ble_eq_true rfl, Nat.le_of_ble_eq_true rfl⟩ rfl (by decide +kernel) rfl [none, none, none, some 0, some 1, none, none, none, none] rfl (by decide +kernel) rfl (fun H locs hP hD hS => ?_)
    refine lv_iload_n hx hb dX10_takeTest_33 rfl (lv_at hl 0 rfl) ?_
    by_cases hc20 : k0_j22 = 19
    · have hf := it_t hc20 hf
      refine swT (tgt := 64) 0 cx dX10_takeTest_34 (by rw [hc20]; decide) (by decide) rfl (by decide) ?_
      refine lv_aload_n hx hb dX10_takeTest_64 rfl (lv_at hl 1 rfl) ?_
      refine va_get (D := E.1) (ci := 10) (v := .ref a_o_tokens) (C := RX10) (T := TX10) (N := 4) hx hb hts inX10 hown hK hP 0 rfl rfl 0 (by decide) (hts _ fl_X10_22) (fun _ h9 => h9) rfl dX10_takeTest_65 ?_
      obtain ⟨u68, hu68, hf⟩ := bd hf
      refine callVV (wn := (wd_X10_takeTest E a_o a_o_tokens a_o_steps a_o_opened a_o_tokens_text a_o_steps_cells a_q2 a_q2_codes a_q2_sorts a_q2_numbers o_depth o_tokens_held o_tokens_length u68.1 u68.2.1 u68.2.2.1 u68.2.2.2.1 u68.2.2.2.2 o_tokens_fault_j22 o_tokens_faultPlace_j22 o_tokens_text o_steps_many u30 q2_many q2_codes q2_sorts q2_numbers)) (n1 := 9) (ct_X8_advance l E F a_o_tokens a_o_tokens_text o_tokens_held o_tokens_length o_tokens_place_j22 o_tokens_next_j22 o_tokens_sort_j22 o_tokens_value_j22 o_tokens_code_j22 o_tokens_fault_j22 o_tokens_faultPlace_j22 o_tokens_text u68 hu68) [1, 2] cal_X8_advance cav_X8_advance lk_X10_80 cx hP hD hS hl dX10_takeTest_68 rfl rfl rfl rfl (Nat.le_of_ble_eq_true rfl) ⟨Nat.le_of_ble_eq_true rfl, Nat.le_of_ble_eq_true rfl⟩ rfl (by decide +kernel) rfl [none, some 0, some 1, none, none, none, none, none, none] rfl (by decide +kernel) rfl (fun H locs hP hD hS => ?_)
      refine lv_aload_n hx hb dX10_takeTest_71 rfl (lv_at hl 1 rfl) ?_
      refine va_get (D := E.1) (ci := 10) (v := .ref a_o_steps) (C := RX10) (T := TX10) (N := 4) hx hb hts inX10 hown hK hP 0 rfl rfl 1 (by decide) (hts _ fl_X10_14) (fun _ h9 => h9) rfl dX10_takeTest_72 ?_
      refine lv_iload_n hx hb dX10_takeTest_75 rfl (lv_at hl 2 rfl) ?_
      refine lv_iconst (v := 1) hx hb dX10_takeTest_76 (by decide) ?_
      refine lv_aload_n hx hb dX10_takeTest_77 rfl (lv_at hl 1 rfl) ?_
      refine va_get (D := E.1) (ci := 10) (v := .ref a_o_tokens) (C := RX10) (T := TX10) (N := 4) hx hb hts inX10 hown hK hP 0 rfl rfl 0 (by decide) (hts _ fl_X10_22) (fun _ h9 => h9) rfl dX10_takeTest_78 ?_
      refine lv_aload_n hx hb dX10_takeTest_81 rfl (lv_at hl 3 rfl) ?_
      refine lv_iconst (v := 3) hx hb dX10_takeTest_82 (by decide) ?_
      obtain ⟨u83, hu83, hf⟩ := bd hf
      refine callVI (wn := (wd_X10_takeTest E a_o a_o_tokens a_o_steps a_o_opened a_o_tokens_text a_o_steps_cells a_q2 a_q2_codes a_q2_sorts a_q2_numbers o_depth o_tokens_held o_tokens_length u83.2.1 u83.2.2.1 u83.2.2.2.1 u83.2.2.2.2.1 u83.2.2.2.2.2.1 u83.2.2.2.2.2.2.1 u83.2.2.2.2.2.2.2 o_tokens_text o_steps_many u30 q2_many q2_codes q2_sorts q2_numbers)) (n1 := 9) (ct_X8_takeName l E F a_o_tokens a_o_tokens_text a_q2 a_q2_codes a_q2_sorts a_q2_numbers o_tokens_held o_tokens_length u68.1 u68.2.1 u68.2.2.1 u68.2.2.2.1 u68.2.2.2.2 o_tokens_fault_j22 o_tokens_faultPlace_j22 o_tokens_text q2_many q2_codes q2_sorts q2_numbers (3 : Int32) u83 hu83) [1, 2, 5, 6, 7, 8] cal_X8_takeName cav_X8_takeName lk_X10_100 cx hP hD hS hl dX10_takeTest_83 rfl rfl rfl rfl (Nat.le_of_ble_eq_true rfl) ⟨Nat.le_of_ble_eq_true rfl, Nat.le_of_ble_eq_true rfl⟩ rfl (by decide +kernel) rfl [none, some 0, some 1, none, none, some 2, some 3, some 4, some 5] rfl (by decide +kernel) rfl (fun H locs hP hD hS => ?_)
      obtain ⟨u86, hu86, hf⟩ := bd hf
      refine callVV (wn := (wd_X10_takeTest E a_o a_o_tokens a_o_steps a_o_opened a_o_tokens_text a_o_steps_cells a_q2 a_q2_codes a_q2_sorts a_q2_numbers o_depth o_tokens_held o_tokens_length u83.2.1 u83.2.2.1 u83.2.2.2.1 u83.2.2.2.2.1 u83.2.2.2.2.2.1 u83.2.2.2.2.2.2.1 u83.2.2.2.2.2.2.2 o_tokens_text o_steps_many u86 q2_many q2_codes q2_sorts q2_numbers)) (n1 := 9) (ct_X7_set l E a_o_steps a_o_steps_cells 180 6 o_steps_many u30 v1 (1 : Int32) u83.1 u86 hu86) [3, 4] cal_X7_set cav_X7_set lk_X10_76 cx hP hD hS hl dX10_takeTest_86 rfl rfl rfl rfl (Nat.le_of_ble_eq_true rfl) ⟨Nat.le_of_ble_eq_true rfl, Nat.le_of_ble_eq_true rfl⟩ rfl (by decide +kernel) rfl [none, none, none, some 0, some 1, none, none, none, none] rfl (by decide +kernel) rfl (fun H locs hP hD hS => ?_)
      refine lv_aload_n hx hb dX10_takeTest_89 rfl (lv_at hl 1 rfl) ?_
      refine va_get (D := E.1) (ci := 10) (v := .ref a_o_steps) (C := RX10) (T := TX10) (N := 4) hx hb hts inX10 hown hK hP 0 rfl rfl 1 (by decide) (hts _ fl_X10_14) (fun _ h9 => h9) rfl dX10_takeTest_90 ?_
      refine lv_iload_n hx hb dX10_takeTest_93 rfl (lv_at hl 2 rfl) ?_
      refine lv_iconst (v := 2) hx hb dX10_takeTest_94 (by decide) ?_
      refine lv_aload_n hx hb dX10_takeTest_95 rfl (lv_at hl 1 rfl) ?_
      refine va_get (D := E.1) (ci := 10) (v := .ref a_o_tokens) (C := RX10) (T := TX10) (N := 4) hx hb hts inX10 hown hK hP 0 rfl rfl 0 (by decide) (hts _ fl_X10_22) (fun _ h9 => h9) rfl dX10_takeTest_96 ?_
      refine lv_iconst (v := 0) hx hb dX10_takeTest_99 (by decide) ?_
      refine lv_iconst (v := 2) hx hb dX10_takeTest_100 (by decide) ?_
      obtain ⟨u101, hu101, hf⟩ := bd hf
      refine callVI (wn := (wd_X10_takeTest E a_o a_o_tokens a_o_steps a_o_opened a_o_tokens_text a_o_steps_cells a_q2 a_q2_codes a_q2_sorts a_q2_numbers o_depth o_tokens_held o_tokens_length u101.2.1 u101.2.2.1 u101.2.2.2.1 u101.2.2.2.2.1 u101.2.2.2.2.2.1 u101.2.2.2.2.2.2.1 u101.2.2.2.2.2.2.2 o_tokens_text o_steps_many u86 q2_many q2_codes q2_sorts q2_numbers)) (n1 := 9) (ct_X8_takeNumber l E F a_o_tokens a_o_tokens_text o_tokens_held o_tokens_length u83.2.1 u83.2.2.1 u83.2.2.2.1 u83.2.2.2.2.1 u83.2.2.2.2.2.1 u83.2.2.2.2.2.2.1 u83.2.2.2.2.2.2.2 o_tokens_text (0 : Int32) (2 : Int32) u101 hu101) [1, 2] cal_X8_takeNumber cav_X8_takeNumber lk_X10_94 cx hP hD hS hl dX10_takeTest_101 rfl rfl rfl rfl (Nat.le_of_ble_eq_true rfl) ⟨Nat.le_of_ble_eq_true rfl, Nat.le_of_ble_eq_true rfl⟩ rfl (by decide +kernel) rfl [none, some 0, some 1, none, none, none, none, none, none] rfl (by decide +kernel) rfl (fun H locs hP hD hS => ?_)
      obtain ⟨u104, hu104, hf⟩ := bd hf
      refine callVV (wn := (wd_X10_takeTest E a_o a_o_tokens a_o_steps a_o_opened a_o_tokens_text a_o_steps_cells a_q2 a_q2_codes a_q2_sorts a_q2_numbers o_depth o_tokens_held o_tokens_length u101.2.1 u101.2.2.1 u101.2.2.2.1 u101.2.2.2.2.1 u101.2.2.2.2.2.1 u101.2.2.2.2.2.2.1 u101.2.2.2.2.2.2.2 o_tokens_text o_steps_many u104 q2_many q2_codes q2_sorts q2_numbers)) (n1 := 9) (ct_X7_set l E a_o_steps a_o_steps_cells 180 6 o_steps_many u86 v1 (2 : Int32) u101.1 u104 hu104) [3, 4] cal_X7_set cav_X7_set lk_X10_76 cx hP hD hS hl dX10_takeTest_104 rfl rfl rfl rfl (Nat.le_of_ble_eq_true rfl) ⟨Nat.le_of_ble_eq_true rfl, Nat.le_of_ble_eq_true rfl⟩ rfl (by decide +kernel) rfl [none, none, none, some 0, some 1, none, none, none, none] rfl (by decide +kernel) rfl (fun H locs hP hD hS => ?_)
      refine lv_goto (tgt := 255) hx hb dX10_takeTest_107 (by decide) ?_
      obtain rfl := Option.some.inj hf
      subst hq
      exact retV cx hP hD hS dX10_takeTest_255
    · have hf := it_f hc20 hf
      by_cases hc21 : k0_j22 = 20
      · have hf := it_t hc21 hf
        refine swT (tgt := 110) 1 cx dX10_takeTest_34 (by rw [hc21]; decide) (by decide) rfl (by decide) ?_
        refine lv_aload_n hx hb dX10_takeTest_110 rfl (lv_at hl 1 rfl) ?_
        refine va_get (D := E.1) (ci := 10) (v := .ref a_o_tokens) (C := RX10) (T := TX10) (N := 4) hx hb hts inX10 hown hK hP 0 rfl rfl 0 (by decide) (hts _ fl_X10_22) (fun _ h9 => h9) rfl dX10_takeTest_111 ?_
        obtain ⟨u114, hu114, hf⟩ := bd hf
        refine callVV (wn := (wd_X10_takeTest E a_o a_o_tokens a_o_steps a_o_opened a_o_tokens_text a_o_steps_cells a_q2 a_q2_codes a_q2_sorts a_q2_numbers o_depth o_tokens_held o_tokens_length u114.1 u114.2.1 u114.2.2.1 u114.2.2.2.1 u114.2.2.2.2 o_tokens_fault_j22 o_tokens_faultPlace_j22 o_tokens_text o_steps_many u30 q2_many q2_codes q2_sorts q2_numbers)) (n1 := 9) (ct_X8_advance l E F a_o_tokens a_o_tokens_text o_tokens_held o_tokens_length o_tokens_place_j22 o_tokens_next_j22 o_tokens_sort_j22 o_tokens_value_j22 o_tokens_code_j22 o_tokens_fault_j22 o_tokens_faultPlace_j22 o_tokens_text u114 hu114) [1, 2] cal_X8_advance cav_X8_advance lk_X10_80 cx hP hD hS hl dX10_takeTest_114 rfl rfl rfl rfl (Nat.le_of_ble_eq_true rfl) ⟨Nat.le_of_ble_eq_true rfl, Nat.le_of_ble_eq_true rfl⟩ rfl (by decide +kernel) rfl [none, some 0, some 1, none, none, none, none, none, none] rfl (by decide +kernel) rfl (fun H locs hP hD hS => ?_)
        refine lv_aload_n hx hb dX10_takeTest_117 rfl (lv_at hl 1 rfl) ?_
        refine va_get (D := E.1) (ci := 10) (v := .ref a_o_steps) (C := RX10) (T := TX10) (N := 4) hx hb hts inX10 hown hK hP 0 rfl rfl 1 (by decide) (hts _ fl_X10_14) (fun _ h9 => h9) rfl dX10_takeTest_118 ?_
        refine lv_iload_n hx hb dX10_takeTest_121 rfl (lv_at hl 2 rfl) ?_
        refine lv_iconst (v := 1) hx hb dX10_takeTest_122 (by decide) ?_
        refine lv_aload_n hx hb dX10_takeTest_123 rfl (lv_at hl 1 rfl) ?_
        refine va_get (D := E.1) (ci := 10) (v := .ref a_o_tokens) (C := RX10) (T := TX10) (N := 4) hx hb hts inX10 hown hK hP 0 rfl rfl 0 (by decide) (hts _ fl_X10_22) (fun _ h9 => h9) rfl dX10_takeTest_124 ?_
        refine lv_aload_n hx hb dX10_takeTest_127 rfl (lv_at hl 3 rfl) ?_
        refine lv_iconst (v := 2) hx hb dX10_takeTest_128 (by decide) ?_
        obtain ⟨u129, hu129, hf⟩ := bd hf
        refine callVI (wn := (wd_X10_takeTest E a_o a_o_tokens a_o_steps a_o_opened a_o_tokens_text a_o_steps_cells a_q2 a_q2_codes a_q2_sorts a_q2_numbers o_depth o_tokens_held o_tokens_length u129.2.1 u129.2.2.1 u129.2.2.2.1 u129.2.2.2.2.1 u129.2.2.2.2.2.1 u129.2.2.2.2.2.2.1 u129.2.2.2.2.2.2.2 o_tokens_text o_steps_many u30 q2_many q2_codes q2_sorts q2_numbers)) (n1 := 9) (ct_X8_takeName l E F a_o_tokens a_o_tokens_text a_q2 a_q2_codes a_q2_sorts a_q2_numbers o_tokens_held o_tokens_length u114.1 u114.2.1 u114.2.2.1 u114.2.2.2.1 u114.2.2.2.2 o_tokens_fault_j22 o_tokens_faultPlace_j22 o_tokens_text q2_many q2_codes q2_sorts q2_numbers (2 : Int32) u129 hu129) [1, 2, 5, 6, 7, 8] cal_X8_takeName cav_X8_takeName lk_X10_100 cx hP hD hS hl dX10_takeTest_129 rfl rfl rfl rfl (Nat.le_of_ble_eq_true rfl) ⟨Nat.le_of_ble_eq_true rfl, Nat.le_of_ble_eq_true rfl⟩ rfl (by decide +kernel) rfl [none, some 0, some 1, none, none, some 2, some 3, some 4, some 5] rfl (by decide +kernel) rfl (fun H locs hP hD hS => ?_)
        obtain ⟨u132, hu132, hf⟩ := bd hf
        refine callVV (wn := (wd_X10_takeTest E a_o a_o_tokens a_o_steps a_o_opened a_o_tokens_text a_o_steps_cells a_q2 a_q2_codes a_q2_sorts a_q2_numbers o_depth o_tokens_held o_tokens_length u129.2.1 u129.2.2.1 u129.2.2.2.1 u129.2.2.2.2.1 u129.2.2.2.2.2.1 u129.2.2.2.2.2.2.1 u129.2.2.2.2.2.2.2 o_tokens_text o_steps_many u132 q2_many q2_codes q2_sorts q2_numbers)) (n1 := 9) (ct_X7_set l E a_o_steps a_o_steps_cells 180 6 o_steps_many u30 v1 (1 : Int32) u129.1 u132 hu132) [3, 4] cal_X7_set cav_X7_set lk_X10_76 cx hP hD hS hl dX10_takeTest_132 rfl rfl rfl rfl (Nat.le_of_ble_eq_true rfl) ⟨Nat.le_of_ble_eq_true rfl, Nat.le_of_ble_eq_true rfl⟩ rfl (by decide +kernel) rfl [none, none, none, some 0, some 1, none, none, none, none] rfl (by decide +kernel) rfl (fun H locs hP hD hS => ?_)
        refine lv_aload_n hx hb dX10_takeTest_135 rfl (lv_at hl 1 rfl) ?_
        refine va_get (D := E.1) (ci := 10) (v := .ref a_o_steps) (C := RX10) (T := TX10) (N := 4) hx hb hts inX10 hown hK hP 0 rfl rfl 1 (by decide) (hts _ fl_X10_14) (fun _ h9 => h9) rfl dX10_takeTest_136 ?_
        refine lv_iload_n hx hb dX10_takeTest_139 rfl (lv_at hl 2 rfl) ?_
        refine lv_iconst (v := 2) hx hb dX10_takeTest_140 (by decide) ?_
        refine lv_aload_n hx hb dX10_takeTest_141 rfl (lv_at hl 1 rfl) ?_
        refine va_get (D := E.1) (ci := 10) (v := .ref a_o_tokens) (C := RX10) (T := TX10) (N := 4) hx hb hts inX10 hown hK hP 0 rfl rfl 0 (by decide) (hts _ fl_X10_22) (fun _ h9 => h9) rfl dX10_takeTest_142 ?_
        refine lv_aload_n hx hb dX10_takeTest_145 rfl (lv_at hl 3 rfl) ?_
        refine lv_iconst (v := 1) hx hb dX10_takeTest_146 (by decide) ?_
        obtain ⟨u147, hu147, hf⟩ := bd hf
        refine callVI (wn := (wd_X10_takeTest E a_o a_o_tokens a_o_steps a_o_opened a_o_tokens_text a_o_steps_cells a_q2 a_q2_codes a_q2_sorts a_q2_numbers o_depth o_tokens_held o_tokens_length u147.2.1 u147.2.2.1 u147.2.2.2.1 u147.2.2.2.2.1 u147.2.2.2.2.2.1 u147.2.2.2.2.2.2.1 u147.2.2.2.2.2.2.2 o_tokens_text o_steps_many u132 q2_many q2_codes q2_sorts q2_numbers)) (n1 := 9) (ct_X8_takeName l E F a_o_tokens a_o_tokens_text a_q2 a_q2_codes a_q2_sorts a_q2_numbers o_tokens_held o_tokens_length u129.2.1 u129.2.2.1 u129.2.2.2.1 u129.2.2.2.2.1 u129.2.2.2.2.2.1 u129.2.2.2.2.2.2.1 u129.2.2.2.2.2.2.2 o_tokens_text q2_many q2_codes q2_sorts q2_numbers (1 : Int32) u147 hu147) [1, 2, 5, 6, 7, 8] cal_X8_takeName cav_X8_takeName lk_X10_100 cx hP hD hS hl dX10_takeTest_147 rfl rfl rfl rfl (Nat.le_of_ble_eq_true rfl) ⟨Nat.le_of_ble_eq_true rfl, Nat.le_of_ble_eq_true rfl⟩ rfl (by decide +kernel) rfl [none, some 0, some 1, none, none, some 2, some 3, some 4, some 5] rfl (by decide +kernel) rfl (fun H locs hP hD hS => ?_)
        obtain ⟨u150, hu150, hf⟩ := bd hf
        refine callVV (wn := (wd_X10_takeTest E a_o a_o_tokens a_o_steps a_o_opened a_o_tokens_text a_o_steps_cells a_q2 a_q2_codes a_q2_sorts a_q2_numbers o_depth o_tokens_held o_tokens_length u147.2.1 u147.2.2.1 u147.2.2.2.1 u147.2.2.2.2.1 u147.2.2.2.2.2.1 u147.2.2.2.2.2.2.1 u147.2.2.2.2.2.2.2 o_tokens_text o_steps_many u150 q2_many q2_codes q2_sorts q2_numbers)) (n1 := 9) (ct_X7_set l E a_o_steps a_o_steps_cells 180 6 o_steps_many u132 v1 (2 : Int32) u147.1 u150 hu150) [3, 4] cal_X7_set cav_X7_set lk_X10_76 cx hP hD hS hl dX10_takeTest_150 rfl rfl rfl rfl (Nat.le_of_ble_eq_true rfl) ⟨Nat.le_of_ble_eq_true rfl, Nat.le_of_ble_eq_true rfl⟩ rfl (by decide +kernel) rfl [none, none, none, some 0, some 1, none, none, none, none] rfl (by decide +kernel) rfl (fun H locs hP hD hS => ?_)
        refine lv_goto (tgt := 255) hx hb dX10_takeTest_153 (by decide) ?_
        obtain rfl := Option.some.inj hf
        subst hq
        exact retV cx hP hD hS dX10_takeTest_255
      · have hf := it_f hc21 hf
        by_cases hc22 : k0_j22 = 21
        · have hf := it_t hc22 hf
          refine swT (tgt := 156) 2 cx dX10_takeTest_34 (by rw [hc22]; decide) (by decide) rfl (by decide) ?_
          refine lv_aload_n hx hb dX10_takeTest_156 rfl (lv_at hl 1 rfl) ?_
          refine va_get (D := E.1) (ci := 10) (v := .ref a_o_tokens) (C := RX10) (T := TX10) (N := 4) hx hb hts inX10 hown hK hP 0 rfl rfl 0 (by decide) (hts _ fl_X10_22) (fun _ h9 => h9) rfl dX10_takeTest_157 ?_
          obtain ⟨u160, hu160, hf⟩ := bd hf
          refine callVV (wn := (wd_X10_takeTest E a_o a_o_tokens a_o_steps a_o_opened a_o_tokens_text a_o_steps_cells a_q2 a_q2_codes a_q2_sorts a_q2_numbers o_depth o_tokens_held o_tokens_length u160.1 u160.2.1 u160.2.2.1 u160.2.2.2.1 u160.2.2.2.2 o_tokens_fault_j22 o_tokens_faultPlace_j22 o_tokens_text o_steps_many u30 q2_many q2_codes q2_sorts q2_numbers)) (n1 := 9) (ct_X8_advance l E F a_o_tokens a_o_tokens_text o_tokens_held o_tokens_length o_tokens_place_j22 o_tokens_next_j22 o_tokens_sort_j22 o_tokens_value_j22 o_tokens_code_j22 o_tokens_fault_j22 o_tokens_faultPlace_j22 o_tokens_text u160 hu160) [1, 2] cal_X8_advance cav_X8_advance lk_X10_80 cx hP hD hS hl dX10_takeTest_160 rfl rfl rfl rfl (Nat.le_of_ble_eq_true rfl) ⟨Nat.le_of_ble_eq_true rfl, Nat.le_of_ble_eq_true rfl⟩ rfl (by decide +kernel) rfl [none, some 0, some 1, none, none, none, none, none, none] rfl (by decide +kernel) rfl (fun H locs hP hD hS => ?_)
          refine lv_aload_n hx hb dX10_takeTest_163 rfl (lv_at hl 1 rfl) ?_
          refine va_get (D := E.1) (ci := 10) (v := .ref a_o_steps) (C := RX10) (T := TX10) (N := 4) hx hb hts inX10 hown hK hP 0 rfl rfl 1 (by decide) (hts _ fl_X10_14) (fun _ h9 => h9) rfl dX10_takeTest_164 ?_
          refine lv_iload_n hx hb dX10_takeTest_167 rfl (lv_at hl 2 rfl) ?_
          refine lv_iconst (v := 1) hx hb dX10_takeTest_168 (by decide) ?_
          refine lv_aload_n hx hb dX10_takeTest_169 rfl (lv_at hl 1 rfl) ?_
          refine va_get (D := E.1) (ci := 10) (v := .ref a_o_tokens) (C := RX10) (T := TX10) (N := 4) hx hb hts inX10 hown hK hP 0 rfl rfl 0 (by decide) (hts _ fl_X10_22) (fun _ h9 => h9) rfl dX10_takeTest_170 ?_
          refine lv_aload_n hx hb dX10_takeTest_173 rfl (lv_at hl 3 rfl) ?_
          refine lv_iconst (v := 3) hx hb dX10_takeTest_174 (by decide) ?_
          obtain ⟨u175, hu175, hf⟩ := bd hf
          refine callVI (wn := (wd_X10_takeTest E a_o a_o_tokens a_o_steps a_o_opened a_o_tokens_text a_o_steps_cells a_q2 a_q2_codes a_q2_sorts a_q2_numbers o_depth o_tokens_held o_tokens_length u175.2.1 u175.2.2.1 u175.2.2.2.1 u175.2.2.2.2.1 u175.2.2.2.2.2.1 u175.2.2.2.2.2.2.1 u175.2.2.2.2.2.2.2 o_tokens_text o_steps_many u30 q2_many q2_codes q2_sorts q2_numbers)) (n1 := 9) (ct_X8_takeName l E F a_o_tokens a_o_tokens_text a_q2 a_q2_codes a_q2_sorts a_q2_numbers o_tokens_held o_tokens_length u160.1 u160.2.1 u160.2.2.1 u160.2.2.2.1 u160.2.2.2.2 o_tokens_fault_j22 o_tokens_faultPlace_j22 o_tokens_text q2_many q2_codes q2_sorts q2_numbers (3 : Int32) u175 hu175) [1, 2, 5, 6, 7, 8] cal_X8_takeName cav_X8_takeName lk_X10_100 cx hP hD hS hl dX10_takeTest_175 rfl rfl rfl rfl (Nat.le_of_ble_eq_true rfl) ⟨Nat.le_of_ble_eq_true rfl, Nat.le_of_ble_eq_true rfl⟩ rfl (by decide +kernel) rfl [none, some 0, some 1, none, none, some 2, some 3, some 4, some 5] rfl (by decide +kernel) rfl (fun H locs hP hD hS => ?_)
          obtain ⟨u178, hu178, hf⟩ := bd hf
          refine callVV (wn := (wd_X10_takeTest E a_o a_o_tokens a_o_steps a_o_opened a_o_tokens_text a_o_steps_cells a_q2 a_q2_codes a_q2_sorts a_q2_numbers o_depth o_tokens_held o_tokens_length u175.2.1 u175.2.2.1 u175.2.2.2.1 u175.2.2.2.2.1 u175.2.2.2.2.2.1 u175.2.2.2.2.2.2.1 u175.2.2.2.2.2.2.2 o_tokens_text o_steps_many u178 q2_many q2_codes q2_sorts q2_numbers)) (n1 := 9) (ct_X7_set l E a_o_steps a_o_steps_cells 180 6 o_steps_many u30 v1 (1 : Int32) u175.1 u178 hu178) [3, 4] cal_X7_set cav_X7_set lk_X10_76 cx hP hD hS hl dX10_takeTest_178 rfl rfl rfl rfl (Nat.le_of_ble_eq_true rfl) ⟨Nat.le_of_ble_eq_true rfl, Nat.le_of_ble_eq_true rfl⟩ rfl (by decide +kernel) rfl [none, none, none, some 0, some 1, none, none, none, none] rfl (by decide +kernel) rfl (fun H locs hP hD hS => ?_)
          refine lv_goto (tgt := 255) hx hb dX10_takeTest_181 (by decide) ?_
          obtain rfl := Option.some.inj hf
          subst hq
          exact retV cx hP hD hS dX10_takeTest_255
        · have hf := it_f hc22 hf
          by_cases hc23 : k0_j22 = 22
          · have hf := it_t hc23 hf
            refine swT (tgt := 184) 3 cx dX10_takeTest_34 (by rw [hc23]; decide) (by decide) rfl (by decide) ?_
            refine lv_aload_n hx hb dX10_takeTest_184 rfl (lv_at hl 1 rfl) ?_
            refine va_get (D := E.1) (ci := 10) (v := .ref a_o_tokens) (C := RX10) (T := TX10) (N := 4) hx hb hts inX10 hown hK hP 0 rfl rfl 0 (by decide) (hts _ fl_X10_22) (fun _ h9 => h9) rfl dX10_takeTest_185 ?_
            obtain ⟨u188, hu188, hf⟩ := bd hf
            refine callVV (wn := (wd_X10_takeTest E a_o a_o_tokens a_o_steps a_o_opened a_o_tokens_text a_o_steps_cells a_q2 a_q2_codes a_q2_sorts a_q2_numbers o_depth o_tokens_held o_tokens_length u188.1 u188.2.1 u188.2.2.1 u188.2.2.2.1 u188.2.2.2.2 o_tokens_fault_j22 o_tokens_faultPlace_j22 o_tokens_text o_steps_many u30 q2_many q2_codes q2_sorts q2_numbers)) (n1 := 9) (ct_X8_advance l E F a_o_tokens a_o_tokens_text o_tokens_held o_tokens_length o_tokens_place_j22 o_tokens_next_j22 o_tokens_sort_j22 o_tokens_value_j22 o_tokens_code_j22 o_tokens_fault_j22 o_tokens_faultPlace_j22 o_tokens_text u188 hu188) [1, 2] cal_X8_advance cav_X8_advance lk_X10_80 cx hP hD hS hl dX10_takeTest_188 rfl rfl rfl rfl (Nat.le_of_ble_eq_true rfl) ⟨Nat.le_of_ble_eq_true rfl, Nat.le_of_ble_eq_true rfl⟩ rfl (by decide +kernel) rfl [none, some 0, some 1, none, none, none, none, none, none] rfl (by decide +kernel) rfl (fun H locs hP hD hS => ?_)
            refine lv_aload_n hx hb dX10_takeTest_191 rfl (lv_at hl 1 rfl) ?_
            refine va_get (D := E.1) (ci := 10) (v := .ref a_o_steps) (C := RX10) (T := TX10) (N := 4) hx hb hts inX10 hown hK hP 0 rfl rfl 1 (by decide) (hts _ fl_X10_14) (fun _ h9 => h9) rfl dX10_takeTest_192 ?_
            refine lv_iload_n hx hb dX10_takeTest_195 rfl (lv_at hl 2 rfl) ?_
            refine lv_iconst (v := 1) hx hb dX10_takeTest_196 (by decide) ?_
            refine lv_aload_n hx hb dX10_takeTest_197 rfl (lv_at hl 1 rfl) ?_
            refine va_get (D := E.1) (ci := 10) (v := .ref a_o_tokens) (C := RX10) (T := TX10) (N := 4) hx hb hts inX10 hown hK hP 0 rfl rfl 0 (by decide) (hts _ fl_X10_22) (fun _ h9 => h9) rfl dX10_takeTest_198 ?_
            refine lv_aload_n hx hb dX10_takeTest_201 rfl (lv_at hl 3 rfl) ?_
            refine lv_iconst (v := 4) hx hb dX10_takeTest_202 (by decide) ?_
            obtain ⟨u203, hu203, hf⟩ := bd hf
            refine callVI (wn := (wd_X10_takeTest E a_o a_o_tokens a_o_steps a_o_opened a_o_tokens_text a_o_steps_cells a_q2 a_q2_codes a_q2_sorts a_q2_numbers o_depth o_tokens_held o_tokens_length u203.2.1 u203.2.2.1 u203.2.2.2.1 u203.2.2.2.2.1 u203.2.2.2.2.2.1 u203.2.2.2.2.2.2.1 u203.2.2.2.2.2.2.2 o_tokens_text o_steps_many u30 q2_many q2_codes q2_sorts q2_numbers)) (n1 := 9) (ct_X8_takeName l E F a_o_tokens a_o_tokens_text a_q2 a_q2_codes a_q2_sorts a_q2_numbers o_tokens_held o_tokens_length u188.1 u188.2.1 u188.2.2.1 u188.2.2.2.1 u188.2.2.2.2 o_tokens_fault_j22 o_tokens_faultPlace_j22 o_tokens_text q2_many q2_codes q2_sorts q2_numbers (4 : Int32) u203 hu203) [1, 2, 5, 6, 7, 8] cal_X8_takeName cav_X8_takeName lk_X10_100 cx hP hD hS hl dX10_takeTest_203 rfl rfl rfl rfl (Nat.le_of_ble_eq_true rfl) ⟨Nat.le_of_ble_eq_true rfl, Nat.le_of_ble_eq_true rfl⟩ rfl (by decide +kernel) rfl [none, some 0, some 1, none, none, some 2, some 3, some 4, some 5] rfl (by decide +kernel) rfl (fun H locs hP hD hS => ?_)
            obtain ⟨u206, hu206, hf⟩ := bd hf
            refine callVV (wn := (wd_X10_takeTest E a_o a_o_tokens a_o_steps a_o_opened a_o_tokens_text a_o_steps_cells a_q2 a_q2_codes a_q2_sorts a_q2_numbers o_depth o_tokens_held o_tokens_length u203.2.1 u203.2.2.1 u203.2.2.2.1 u203.2.2.2.2.1 u203.2.2.2.2.2.1 u203.2.2.2.2.2.2.1 u203.2.2.2.2.2.2.2 o_tokens_text o_steps_many u206 q2_many q2_codes q2_sorts q2_numbers)) (n1 := 9) (ct_X7_set l E a_o_steps a_o_steps_cells 180 6 o_steps_many u30 v1 (1 : Int32) u203.1 u206 hu206) [3, 4] cal_X7_set cav_X7_set lk_X10_76 cx hP hD hS hl dX10_takeTest_206 rfl rfl rfl rfl (Nat.le_of_ble_eq_true rfl) ⟨Nat.le_of_ble_eq_true rfl, Nat.le_of_ble_eq_true rfl⟩ rfl (by decide +kernel) rfl [none, none, none, some 0, some 1, none, none, none, none] rfl (by decide +kernel) rfl (fun H locs hP hD hS => ?_)
            refine lv_aload_n hx hb dX10_takeTest_209 rfl (lv_at hl 1 rfl) ?_
            refine va_get (D := E.1) (ci := 10) (v := .ref a_o_steps) (C := RX10) (T := TX10) (N := 4) hx hb hts inX10 hown hK hP 0 rfl rfl 1 (by decide) (hts _ fl_X10_14) (fun _ h9 => h9) rfl dX10_takeTest_210 ?_
            refine lv_iload_n hx hb dX10_takeTest_213 rfl (lv_at hl 2 rfl) ?_
            refine lv_iconst (v := 4) hx hb dX10_takeTest_214 (by decide) ?_
            refine lv_aload_n hx hb dX10_takeTest_215 rfl (lv_at hl 1 rfl) ?_
            refine va_get (D := E.1) (ci := 10) (v := .ref a_o_tokens) (C := RX10) (T := TX10) (N := 4) hx hb hts inX10 hown hK hP 0 rfl rfl 0 (by decide) (hts _ fl_X10_22) (fun _ h9 => h9) rfl dX10_takeTest_216 ?_
            obtain ⟨u219, hu219, hf⟩ := bd hf
            refine callVI (wn := (wd_X10_takeTest E a_o a_o_tokens a_o_steps a_o_opened a_o_tokens_text a_o_steps_cells a_q2 a_q2_codes a_q2_sorts a_q2_numbers o_depth o_tokens_held o_tokens_length u219.2.1 u219.2.2.1 u219.2.2.2.1 u219.2.2.2.2.1 u219.2.2.2.2.2.1 u219.2.2.2.2.2.2.1 u219.2.2.2.2.2.2.2 o_tokens_text o_steps_many u206 q2_many q2_codes q2_sorts q2_numbers)) (n1 := 9) (ct_X8_takeCompare l E F a_o_tokens a_o_tokens_text o_tokens_held o_tokens_length u203.2.1 u203.2.2.1 u203.2.2.2.1 u203.2.2.2.2.1 u203.2.2.2.2.2.1 u203.2.2.2.2.2.2.1 u203.2.2.2.2.2.2.2 o_tokens_text u219 hu219) [1, 2] cal_X8_takeCompare cav_X8_takeCompare lk_X10_106 cx hP hD hS hl dX10_takeTest_219 rfl rfl rfl rfl (Nat.le_of_ble_eq_true rfl) ⟨Nat.le_of_ble_eq_true rfl, Nat.le_of_ble_eq_true rfl⟩ rfl (by decide +kernel) rfl [none, some 0, some 1, none, none, none, none, none, none] rfl (by decide +kernel) rfl (fun H locs hP hD hS => ?_)
            obtain ⟨u222, hu222, hf⟩ := bd hf
            refine callVV (wn := (wd_X10_takeTest E a_o a_o_tokens a_o_steps a_o_opened a_o_tokens_text a_o_steps_cells a_q2 a_q2_codes a_q2_sorts a_q2_numbers o_depth o_tokens_held o_tokens_length u219.2.1 u219.2.2.1 u219.2.2.2.1 u219.2.2.2.2.1 u219.2.2.2.2.2.1 u219.2.2.2.2.2.2.1 u219.2.2.2.2.2.2.2 o_tokens_text o_steps_many u222 q2_many q2_codes q2_sorts q2_numbers)) (n1 := 9) (ct_X7_set l E a_o_steps a_o_steps_cells 180 6 o_steps_many u206 v1 (4 : Int32) u219.1 u222 hu222) [3, 4] cal_X7_set cav_X7_set lk_X10_76 cx hP hD hS hl dX10_takeTest_222 rfl rfl rfl rfl (Nat.le_of_ble_eq_true rfl) ⟨Nat.le_of_ble_eq_true rfl, Nat.le_of_ble_eq_true rfl⟩ rfl (by decide +kernel) rfl [none, none, none, some 0, some 1, none, none, none, none] rfl (by decide +kernel) rfl (fun H locs hP hD hS => ?_)
            refine lv_aload_n hx hb dX10_takeTest_225 rfl (lv_at hl 1 rfl) ?_
            refine va_get (D := E.1) (ci := 10) (v := .ref a_o_steps) (C := RX10) (T := TX10) (N := 4) hx hb hts inX10 hown hK hP 0 rfl rfl 1 (by decide) (hts _ fl_X10_14) (fun _ h9 => h9) rfl dX10_takeTest_226 ?_
            refine lv_iload_n hx hb dX10_takeTest_229 rfl (lv_at hl 2 rfl) ?_
            refine lv_iconst (v := 2) hx hb dX10_takeTest_230 (by decide) ?_
            refine lv_aload_n hx hb dX10_takeTest_231 rfl (lv_at hl 1 rfl) ?_
            refine va_get (D := E.1) (ci := 10) (v := .ref a_o_tokens) (C := RX10) (T := TX10) (N := 4) hx hb hts inX10 hown hK hP 0 rfl rfl 0 (by decide) (hts _ fl_X10_22) (fun _ h9 => h9) rfl dX10_takeTest_232 ?_
            refine lv_iconst (v := 0) hx hb dX10_takeTest_235 (by decide) ?_
            refine lv_sipush (v := 9999) hx hb dX10_takeTest_236 (by decide) ?_
            obtain ⟨u239, hu239, hf⟩ := bd hf
            refine callVI (wn := (wd_X10_takeTest E a_o a_o_tokens a_o_steps a_o_opened a_o_tokens_text a_o_steps_cells a_q2 a_q2_codes a_q2_sorts a_q2_numbers o_depth o_tokens_held o_tokens_length u239.2.1 u239.2.2.1 u239.2.2.2.1 u239.2.2.2.2.1 u239.2.2.2.2.2.1 u239.2.2.2.2.2.2.1 u239.2.2.2.2.2.2.2 o_tokens_text o_steps_many u222 q2_many q2_codes q2_sorts q2_numbers)) (n1 := 9) (ct_X8_takeNumber l E F a_o_tokens a_o_tokens_text o_tokens_held o_tokens_length u219.2.1 u219.2.2.1 u219.2.2.2.1 u219.2.2.2.2.1 u219.2.2.2.2.2.1 u219.2.2.2.2.2.2.1 u219.2.2.2.2.2.2.2 o_tokens_text (0 : Int32) (9999 : Int32) u239 hu239) [1, 2] cal_X8_takeNumber cav_X8_takeNumber lk_X10_94 cx hP hD hS hl dX10_takeTest_239 rfl rfl rfl rfl (Nat.le_of_ble_eq_true rfl) ⟨Nat.le_of_ble_eq_true rfl, Nat.le_of_ble_eq_true rfl⟩ rfl (by decide +kernel) rfl [none, some 0, some 1, none, none, none, none, none, none] rfl (by decide +kernel) rfl (fun H locs hP hD hS => ?_)
            obtain ⟨u242, hu242, hf⟩ := bd hf
            refine callVV (wn := (wd_X10_takeTest E a_o a_o_tokens a_o_steps a_o_opened a_o_tokens_text a_o_steps_cells a_q2 a_q2_codes a_q2_sorts a_q2_numbers o_depth o_tokens_held o_tokens_length u239.2.1 u239.2.2.1 u239.2.2.2.1 u239.2.2.2.2.1 u239.2.2.2.2.2.1 u239.2.2.2.2.2.2.1 u239.2.2.2.2.2.2.2 o_tokens_text o_steps_many u242 q2_many q2_codes q2_sorts q2_numbers)) (n1 := 9) (ct_X7_set l E a_o_steps a_o_steps_cells 180 6 o_steps_many u222 v1 (2 : Int32) u239.1 u242 hu242) [3, 4] cal_X7_set cav_X7_set lk_X10_76 cx hP hD hS hl dX10_takeTest_242 rfl rfl rfl rfl (Nat.le_of_ble_eq_true rfl) ⟨Nat.le_of_ble_eq_true rfl, Nat.le_of_ble_eq_true rfl⟩ rfl (by decide +kernel) rfl [none, none, none, some 0, some 1, none, none, none, none] rfl (by decide +kernel) rfl (fun H locs hP hD hS => ?_)
            refine lv_goto (tgt := 255) hx hb dX10_takeTest_245 (by decide) ?_
            obtain rfl := Option.some.inj hf
            subst hq
            exact retV cx hP hD hS dX10_takeTest_255
          · have hf := it_f hc23 hf
            refine swD (tgt := 248) [19, 20, 21, 22] cx dX10_takeTest_34 ?_ (by decide) (by decide) ?_
            · intro z hz
              simp only [List.mem_cons, List.not_mem_nil, or_false] at hz
              rcases hz with rfl | rfl | rfl | rfl
              · exact ne_int hc20 (by decide)
              · exact ne_int hc21 (by decide)
              · exact ne_int hc22 (by decide)
              · exact ne_int hc23 (by decide)
            · refine lv_aload_n hx hb dX10_takeTest_248 rfl (lv_at hl 1 rfl) ?_
              refine va_get (D := E.1) (ci := 10) (v := .ref a_o_tokens) (C := RX10) (T := TX10) (N := 4) hx hb hts inX10 hown hK hP 0 rfl rfl 0 (by decide) (hts _ fl_X10_22) (fun _ h9 => h9) rfl dX10_takeTest_249 ?_
              obtain ⟨u252, hu252, hf⟩ := bd hf
              refine callVV (wn := (wd_X10_takeTest E a_o a_o_tokens a_o_steps a_o_opened a_o_tokens_text a_o_steps_cells a_q2 a_q2_codes a_q2_sorts a_q2_numbers o_depth o_tokens_held o_tokens_length o_tokens_place_j22 o_tokens_next_j22 o_tokens_sort_j22 o_tokens_value_j22 o_tokens_code_j22 u252.1 u252.2 o_tokens_text o_steps_many u30 q2_many q2_codes q2_sorts q2_numbers)) (n1 := 9) (ct_X8_failHere l E a_o_tokens a_o_tokens_text o_tokens_held o_tokens_length o_tokens_place_j22 o_tokens_next_j22 o_tokens_sort_j22 o_tokens_value_j22 o_tokens_code_j22 o_tokens_fault_j22 o_tokens_faultPlace_j22 u252 hu252) [1] cal_X8_failHere cav_X8_failHere lk_X10_66 cx hP hD hS hl dX10_takeTest_252 rfl rfl rfl rfl (Nat.le_of_ble_eq_true rfl) ⟨Nat.le_of_ble_eq_true rfl, Nat.le_of_ble_eq_true rfl⟩ rfl (by decide +kernel) rfl [none, some 0, none, none, none, none, none, none, none] rfl (by decide +kernel) rfl (fun H locs hP hD hS => ?_)
              obtain rfl := Option.some.inj hf
              subst hq
              exact retV cx hP hD hS dX10_takeTest_255
  unfold X10_takeTest at hf
  refine lv_aload_n hx hb dX10_takeTest_0 rfl (lv_at hl 0 rfl) ?_
  refine va_get (D := E.1) (ci := 10) (v := .ref a_o_tokens) (C := RX10) (T := TX10) (N := 4) hx hb hts inX10 hown hK hP 0 rfl rfl 0 (by decide) (hts _ fl_X10_22) (fun _ h9 => h9) rfl dX10_takeTest_1 ?_
  refine va_get (D := E.1) (ci := 8) (v := .int o_tokens_sort) (C := RX8) (T := TX8) (N := 10) hx hb hts inX8 hown hK hP 1 rfl rfl 5 (by decide) (hts _ fl_X10_53) (fun _ h9 => h9) rfl dX10_takeTest_4 ?_
  refine lv_iconst (v := 1) hx hb dX10_takeTest_7 (by decide) ?_
  refine lv_icmp_ne (tgt := 21) hx hb dX10_takeTest_8 (by decide) (fun hc => ?_) (fun hc => ?_)
  · have hf := it_f hc hf
    refine lv_iconst (v := 0) hx hb dX10_takeTest_21 (by decide) ?_
    exact hj22 _ _ _ _ _ _ _ _ _ _ _ _ hf hP hD hS (lv_sub hl [0, 1, 2] rfl)
  · have hf := it_t hc hf
    refine lv_aload_n hx hb dX10_takeTest_11 rfl (lv_at hl 0 rfl) ?_
    refine va_get (D := E.1) (ci := 10) (v := .ref a_o_tokens) (C := RX10) (T := TX10) (N := 4) hx hb hts inX10 hown hK hP 0 rfl rfl 0 (by decide) (hts _ fl_X10_22) (fun _ h9 => h9) rfl dX10_takeTest_12 ?_
    refine va_get (D := E.1) (ci := 8) (v := .int o_tokens_value) (C := RX8) (T := TX8) (N := 10) hx hb hts inX8 hown hK hP 1 rfl rfl 6 (by decide) (hts _ fl_X10_56) (fun _ h9 => h9) rfl dX10_takeTest_15 ?_
    refine lv_goto (tgt := 22) hx hb dX10_takeTest_18 (by decide) ?_
    exact hj22 _ _ _ _ _ _ _ _ _ _ _ _ hf hP hD hS (lv_sub hl [0, 1, 2] rfl)
def X10_takeRest (F : Nat) (o_tokens_length : Int32) (o_tokens_place : Int32) (o_tokens_next : Int32) (o_tokens_sort : Int32) (o_tokens_value : Int32) (o_tokens_code : Int64) (o_tokens_fault : Int32) (o_tokens_faultPlace : Int32) (o_tokens_text : Nat → Int32) (o_steps_many : Int32) (o_steps_cells : Nat → Int32) (q3_many : Int32) (q3_codes : Nat → Int64) (q3_sorts : Nat → Int32) (q3_numbers : Nat → Int32) (v1 : Int32) (v2 : Int32) : Option (Int32 × Int32 × Int32 × Int32 × Int64 × Int32 × Int32 × (Nat → Int32)) :=
  if v2 = 10 then
  (X8_takeNumber F o_tokens_length o_tokens_place o_tokens_next o_tokens_sort o_tokens_value o_tokens_code o_tokens_fault o_tokens_faultPlace o_tokens_text (1 : Int32) (48 : Int32)).bind fun u57 =>
  (X7_set 180 6 o_steps_many o_steps_cells v1 (2 : Int32) u57.1).bind fun u60 =>
  some (u57.2.1, u57.2.2.1, u57.2.2.2.1, u57.2.2.2.2.1, u57.2.2.2.2.2.1, u57.2.2.2.2.2.2.1, u57.2.2.2.2.2.2.2, u60)
  else if v2 = 15 then
  (X8_takeName F o_tokens_length o_tokens_place o_tokens_next o_tokens_sort o_tokens_value o_tokens_code o_tokens_fault o_tokens_faultPlace o_tokens_text q3_many q3_codes q3_sorts q3_numbers (2 : Int32)).bind fun u78 =>
  (X7_set 180 6 o_steps_many o_steps_cells v1 (1 : Int32) u78.1).bind fun u81 =>
  (X8_takeName F o_tokens_length u78.2.1 u78.2.2.1 u78.2.2.2.1 u78.2.2.2.2.1 u78.2.2.2.2.2.1 u78.2.2.2.2.2.2.1 u78.2.2.2.2.2.2.2 o_tokens_text q3_many q3_codes q3_sorts q3_numbers (3 : Int32)).bind fun u96 =>
  (X7_set 180 6 o_steps_many u81 v1 (2 : Int32) u96.1).bind fun u99 =>
  some (u96.2.1, u96.2.2.1, u96.2.2.2.1, u96.2.2.2.2.1, u96.2.2.2.2.2.1, u96.2.2.2.2.2.2.1, u96.2.2.2.2.2.2.2, u99)
  else if v2 = 16 then
  (X8_takeName F o_tokens_length o_tokens_place o_tokens_next o_tokens_sort o_tokens_value o_tokens_code o_tokens_fault o_tokens_faultPlace o_tokens_text q3_many q3_codes q3_sorts q3_numbers (3 : Int32)).bind fun u117 =>
  (X7_set 180 6 o_steps_many o_steps_cells v1 (1 : Int32) u117.1).bind fun u120 =>
  (X8_takeNumber F o_tokens_length u117.2.1 u117.2.2.1 u117.2.2.2.1 u117.2.2.2.2.1 u117.2.2.2.2.2.1 u117.2.2.2.2.2.2.1 u117.2.2.2.2.2.2.2 o_tokens_text (1 : Int32) (99 : Int32)).bind fun u136 =>
  (X7_set 180 6 o_steps_many u120 v1 (2 : Int32) u136.1).bind fun u139 =>
  some (u136.2.1, u136.2.2.1, u136.2.2.2.1, u136.2.2.2.2.1, u136.2.2.2.2.2.1, u136.2.2.2.2.2.2.1, u136.2.2.2.2.2.2.2, u139)
  else if v2 = 23 then
  (X8_takeNumber F o_tokens_length o_tokens_place o_tokens_next o_tokens_sort o_tokens_value o_tokens_code o_tokens_fault o_tokens_faultPlace o_tokens_text (1 : Int32) (99 : Int32)).bind fun u158 =>
  (X7_set 180 6 o_steps_many o_steps_cells v1 (2 : Int32) u158.1).bind fun u161 =>
  some (u158.2.1, u158.2.2.1, u158.2.2.2.1, u158.2.2.2.2.1, u158.2.2.2.2.2.1, u158.2.2.2.2.2.2.1, u158.2.2.2.2.2.2.2, u161)
  else some (o_tokens_place, o_tokens_next, o_tokens_sort, o_tokens_value, o_tokens_code, o_tokens_fault, o_tokens_faultPlace, o_steps_cells)
abbrev wd_X10_takeRest (E : vE) (a_o a_o_tokens a_o_steps a_o_opened a_o_tokens_text a_o_steps_cells a_q3 a_q3_codes a_q3_sorts a_q3_numbers : Nat) (o_depth : Int32) (o_tokens_held : Int32) (o_tokens_length : Int32) (o_tokens_place : Int32) (o_tokens_next : Int32) (o_tokens_sort : Int32) (o_tokens_value : Int32) (o_tokens_code : Int64) (o_tokens_fault : Int32) (o_tokens_faultPlace : Int32) (o_tokens_text : Nat → Int32) (o_steps_many : Int32) (o_steps_cells : Nat → Int32) (q3_many : Int32) (q3_codes : Nat → Int64) (q3_sorts : Nat → Int32) (q3_numbers : Nat → Int32) : va_W := [(a_o, .inr (10, [.ref a_o_tokens, .ref a_o_steps, .ref a_o_opened, .int o_depth])), (a_o_tokens, .inr (8, [.ref a_o_tokens_text, .int o_tokens_held, .int o_tokens_length, .int o_tokens_place, .int o_tokens_next, .int o_tokens_sort, .int o_tokens_value, .long o_tokens_code, .int o_tokens_fault, .int o_tokens_faultPlace])), (a_o_tokens_text, .inl (E.2.1, 900, .inl o_tokens_text)), (a_o_steps, .inr (7, [.int 6, .ref a_o_steps_cells, .int o_steps_many])), (a_o_steps_cells, .inl (E.2.1, 180, .inl o_steps_cells)), (a_q3, .inr (3, [.ref a_q3_codes, .ref a_q3_sorts, .ref a_q3_numbers, .int q3_many])), (a_q3_codes, .inl (E.2.2.1, 27, .inr (.inl q3_codes))), (a_q3_sorts, .inl (E.2.1, 27, .inl q3_sorts)), (a_q3_numbers, .inl (E.2.1, 27, .inl q3_numbers))]
set_option maxHeartbeats 4000000 in
set_option maxRecDepth 100000 in
theorem ct_X10_takeRest (l : Launch) (E : vE) (F : Nat) (a_o a_o_tokens a_o_steps a_o_opened a_o_tokens_text a_o_steps_cells a_q3 a_q3_codes a_q3_sorts a_q3_numbers : Nat) (o_depth : Int32) (o_tokens_held : Int32) (o_tokens_length : Int32) (o_tokens_place : Int32) (o_tokens_next : Int32) (o_tokens_sort : Int32) (o_tokens_value : Int32) (o_tokens_code : Int64) (o_tokens_fault : Int32) (o_tokens_faultPlace : Int32) (o_tokens_text : Nat → Int32) (o_steps_many : Int32) (o_steps_cells : Nat → Int32) (q3_many : Int32) (q3_codes : Nat → Int64) (q3_sorts : Nat → Int32) (q3_numbers : Nat → Int32) (v1 : Int32) (v2 : Int32) (u : Int32 × Int32 × Int32 × Int32 × Int64 × Int32 × Int32 × (Nat → Int32)) (hf : X10_takeRest F o_tokens_length o_tokens_place o_tokens_next o_tokens_sort o_tokens_value o_tokens_code o_tokens_fault o_tokens_faultPlace o_tokens_text o_steps_many o_steps_cells q3_many q3_codes q3_sorts q3_numbers v1 v2 = some u) :
    CtV l yX10_takeRest cX10_takeRest 4 none 7 E [.ref a_o, .int v1, .int v2, .ref a_q3] (wd_X10_takeRest E a_o a_o_tokens a_o_steps a_o_opened a_o_tokens_text a_o_steps_cells a_q3 a_q3_codes a_q3_sorts a_q3_numbers o_depth o_tokens_held o_tokens_length o_tokens_place o_tokens_next o_tokens_sort o_tokens_value o_tokens_code o_tokens_fault o_tokens_faultPlace o_tokens_text o_steps_many o_steps_cells q3_many q3_codes q3_sorts q3_numbers) (wd_X10_takeRest E a_o a_o_tokens a_o_steps a_o_opened a_o_tokens_text a_o_steps_cells a_q3 a_q3_codes a_q3_sorts a_q3_numbers o_depth o_tokens_held o_tokens_length u.1 u.2.1 u.2.2.1 u.2.2.2.1 u.2.2.2.2.1 u.2.2.2.2.2.1 u.2.2.2.2.2.2.1 o_tokens_text o_steps_many u.2.2.2.2.2.2.2 q3_many q3_codes q3_sorts q3_numbers) := by
  refine ctV (by decide) (Nat.le_of_ble_eq_true rfl) ?_
  intro p e s m below meth cd A ls aa QQ hq cx hP hD hS hl
  obtain ⟨⟨hx, hb, hml, hown, hts⟩, hr, hlocks, hK, hA, hX⟩ := id cx
  have hl : lv_has ls 4 [(0, .ref a_o), (1, .int v1), (2, .int v2), (3, .ref a_q3)] := hl
  unfold X10_takeRest at hf
  refine lv_iload_n hx hb dX10_takeRest_0 rfl (lv_at hl 2 rfl) ?_
  by_cases hc11 : v2 = 10
  · have hf := it_t hc11 hf
    refine lv_lookup (tgt := 44) hx hb dX10_takeRest_1 (by decide) (by rw [hc11]) (by decide) ?_
    refine lv_aload_n hx hb dX10_takeRest_44 rfl (lv_at hl 0 rfl) ?_
    refine va_get (D := E.1) (ci := 10) (v := .ref a_o_steps) (C := RX10) (T := TX10) (N := 4) hx hb hts inX10 hown hK hP 0 rfl rfl 1 (by decide) (hts _ fl_X10_14) (fun _ h9 => h9) rfl dX10_takeRest_45 ?_
    refine lv_iload_n hx hb dX10_takeRest_48 rfl (lv_at hl 1 rfl) ?_
    refine lv_iconst (v := 2) hx hb dX10_takeRest_49 (by decide) ?_
    refine lv_aload_n hx hb dX10_takeRest_50 rfl (lv_at hl 0 rfl) ?_
    refine va_get (D := E.1) (ci := 10) (v := .ref a_o_tokens) (C := RX10) (T := TX10) (N := 4) hx hb hts inX10 hown hK hP 0 rfl rfl 0 (by decide) (hts _ fl_X10_22) (fun _ h9 => h9) rfl dX10_takeRest_51 ?_
    refine lv_iconst (v := 1) hx hb dX10_takeRest_54 (by decide) ?_
    refine lv_bipush (v := 48) hx hb dX10_takeRest_55 (by decide) ?_
    obtain ⟨u57, hu57, hf⟩ := bd hf
    refine callVI (wn := (wd_X10_takeRest E a_o a_o_tokens a_o_steps a_o_opened a_o_tokens_text a_o_steps_cells a_q3 a_q3_codes a_q3_sorts a_q3_numbers o_depth o_tokens_held o_tokens_length u57.2.1 u57.2.2.1 u57.2.2.2.1 u57.2.2.2.2.1 u57.2.2.2.2.2.1 u57.2.2.2.2.2.2.1 u57.2.2.2.2.2.2.2 o_tokens_text o_steps_many o_steps_cells q3_many q3_codes q3_sorts q3_numbers)) (n1 := 9) (ct_X8_takeNumber l E F a_o_tokens a_o_tokens_text o_tokens_held o_tokens_length o_tokens_place o_tokens_next o_tokens_sort o_tokens_value o_tokens_code o_tokens_fault o_tokens_faultPlace o_tokens_text (1 : Int32) (48 : Int32) u57 hu57) [1, 2] cal_X8_takeNumber cav_X8_takeNumber lk_X10_94 cx hP hD hS hl dX10_takeRest_57 rfl rfl rfl rfl (Nat.le_of_ble_eq_true rfl) ⟨Nat.le_of_ble_eq_true rfl, Nat.le_of_ble_eq_true rfl⟩ rfl (by decide +kernel) rfl [none, some 0, some 1, none, none, none, none, none, none] rfl (by decide +kernel) rfl (fun H locs hP hD hS => ?_)
    obtain ⟨u60, hu60, hf⟩ := bd hf
    refine callVV (wn := (wd_X10_takeRest E a_o a_o_tokens a_o_steps a_o_opened a_o_tokens_text a_o_steps_cells a_q3 a_q3_codes a_q3_sorts a_q3_numbers o_depth o_tokens_held o_tokens_length u57.2.1 u57.2.2.1 u57.2.2.2.1 u57.2.2.2.2.1 u57.2.2.2.2.2.1 u57.2.2.2.2.2.2.1 u57.2.2.2.2.2.2.2 o_tokens_text o_steps_many u60 q3_many q3_codes q3_sorts q3_numbers)) (n1 := 9) (ct_X7_set l E a_o_steps a_o_steps_cells 180 6 o_steps_many o_steps_cells v1 (2 : Int32) u57.1 u60 hu60) [3, 4] cal_X7_set cav_X7_set lk_X10_76 cx hP hD hS hl dX10_takeRest_60 rfl rfl rfl rfl (Nat.le_of_ble_eq_true rfl) ⟨Nat.le_of_ble_eq_true rfl, Nat.le_of_ble_eq_true rfl⟩ rfl (by decide +kernel) rfl [none, none, none, some 0, some 1, none, none, none, none] rfl (by decide +kernel) rfl (fun H locs hP hD hS => ?_)
    refine lv_goto (tgt := 167) hx hb dX10_takeRest_63 (by decide) ?_
    obtain rfl := Option.some.inj hf
    subst hq
    exact retV cx hP hD hS dX10_takeRest_167
  · have hf := it_f hc11 hf
    by_cases hc16 : v2 = 15
    · have hf := it_t hc16 hf
      refine lv_lookup (tgt := 66) hx hb dX10_takeRest_1 (by decide) (by rw [hc16]) (by decide) ?_
      refine lv_aload_n hx hb dX10_takeRest_66 rfl (lv_at hl 0 rfl) ?_
      refine va_get (D := E.1) (ci := 10) (v := .ref a_o_steps) (C := RX10) (T := TX10) (N := 4) hx hb hts inX10 hown hK hP 0 rfl rfl 1 (by decide) (hts _ fl_X10_14) (fun _ h9 => h9) rfl dX10_takeRest_67 ?_
      refine lv_iload_n hx hb dX10_takeRest_70 rfl (lv_at hl 1 rfl) ?_
      refine lv_iconst (v := 1) hx hb dX10_takeRest_71 (by decide) ?_
      refine lv_aload_n hx hb dX10_takeRest_72 rfl (lv_at hl 0 rfl) ?_
      refine va_get (D := E.1) (ci := 10) (v := .ref a_o_tokens) (C := RX10) (T := TX10) (N := 4) hx hb hts inX10 hown hK hP 0 rfl rfl 0 (by decide) (hts _ fl_X10_22) (fun _ h9 => h9) rfl dX10_takeRest_73 ?_
      refine lv_aload_n hx hb dX10_takeRest_76 rfl (lv_at hl 3 rfl) ?_
      refine lv_iconst (v := 2) hx hb dX10_takeRest_77 (by decide) ?_
      obtain ⟨u78, hu78, hf⟩ := bd hf
      refine callVI (wn := (wd_X10_takeRest E a_o a_o_tokens a_o_steps a_o_opened a_o_tokens_text a_o_steps_cells a_q3 a_q3_codes a_q3_sorts a_q3_numbers o_depth o_tokens_held o_tokens_length u78.2.1 u78.2.2.1 u78.2.2.2.1 u78.2.2.2.2.1 u78.2.2.2.2.2.1 u78.2.2.2.2.2.2.1 u78.2.2.2.2.2.2.2 o_tokens_text o_steps_many o_steps_cells q3_many q3_codes q3_sorts q3_numbers)) (n1 := 9) (ct_X8_takeName l E F a_o_tokens a_o_tokens_text a_q3 a_q3_codes a_q3_sorts a_q3_numbers o_tokens_held o_tokens_length o_tokens_place o_tokens_next o_tokens_sort o_tokens_value o_tokens_code o_tokens_fault o_tokens_faultPlace o_tokens_text q3_many q3_codes q3_sorts q3_numbers (2 : Int32) u78 hu78) [1, 2, 5, 6, 7, 8] cal_X8_takeName cav_X8_takeName lk_X10_100 cx hP hD hS hl dX10_takeRest_78 rfl rfl rfl rfl (Nat.le_of_ble_eq_true rfl) ⟨Nat.le_of_ble_eq_true rfl, Nat.le_of_ble_eq_true rfl⟩ rfl (by decide +kernel) rfl [none, some 0, some 1, none, none, some 2, some 3, some 4, some 5] rfl (by decide +kernel) rfl (fun H locs hP hD hS => ?_)
      obtain ⟨u81, hu81, hf⟩ := bd hf
      refine callVV (wn := (wd_X10_takeRest E a_o a_o_tokens a_o_steps a_o_opened a_o_tokens_text a_o_steps_cells a_q3 a_q3_codes a_q3_sorts a_q3_numbers o_depth o_tokens_held o_tokens_length u78.2.1 u78.2.2.1 u78.2.2.2.1 u78.2.2.2.2.1 u78.2.2.2.2.2.1 u78.2.2.2.2.2.2.1 u78.2.2.2.2.2.2.2 o_tokens_text o_steps_many u81 q3_many q3_codes q3_sorts q3_numbers)) (n1 := 9) (ct_X7_set l E a_o_steps a_o_steps_cells 180 6 o_steps_many o_steps_cells v1 (1 : Int32) u78.1 u81 hu81) [3, 4] cal_X7_set cav_X7_set lk_X10_76 cx hP hD hS hl dX10_takeRest_81 rfl rfl rfl rfl (Nat.le_of_ble_eq_true rfl) ⟨Nat.le_of_ble_eq_true rfl, Nat.le_of_ble_eq_true rfl⟩ rfl (by decide +kernel) rfl [none, none, none, some 0, some 1, none, none, none, none] rfl (by decide +kernel) rfl (fun H locs hP hD hS => ?_)
      refine lv_aload_n hx hb dX10_takeRest_84 rfl (lv_at hl 0 rfl) ?_
      refine va_get (D := E.1) (ci := 10) (v := .ref a_o_steps) (C := RX10) (T := TX10) (N := 4) hx hb hts inX10 hown hK hP 0 rfl rfl 1 (by decide) (hts _ fl_X10_14) (fun _ h9 => h9) rfl dX10_takeRest_85 ?_
      refine lv_iload_n hx hb dX10_takeRest_88 rfl (lv_at hl 1 rfl) ?_
      refine lv_iconst (v := 2) hx hb dX10_takeRest_89 (by decide) ?_
      refine lv_aload_n hx hb dX10_takeRest_90 rfl (lv_at hl 0 rfl) ?_
      refine va_get (D := E.1) (ci := 10) (v := .ref a_o_tokens) (C := RX10) (T := TX10) (N := 4) hx hb hts inX10 hown hK hP 0 rfl rfl 0 (by decide) (hts _ fl_X10_22) (fun _ h9 => h9) rfl dX10_takeRest_91 ?_
      refine lv_aload_n hx hb dX10_takeRest_94 rfl (lv_at hl 3 rfl) ?_
      refine lv_iconst (v := 3) hx hb dX10_takeRest_95 (by decide) ?_
      obtain ⟨u96, hu96, hf⟩ := bd hf
      refine callVI (wn := (wd_X10_takeRest E a_o a_o_tokens a_o_steps a_o_opened a_o_tokens_text a_o_steps_cells a_q3 a_q3_codes a_q3_sorts a_q3_numbers o_depth o_tokens_held o_tokens_length u96.2.1 u96.2.2.1 u96.2.2.2.1 u96.2.2.2.2.1 u96.2.2.2.2.2.1 u96.2.2.2.2.2.2.1 u96.2.2.2.2.2.2.2 o_tokens_text o_steps_many u81 q3_many q3_codes q3_sorts q3_numbers)) (n1 := 9) (ct_X8_takeName l E F a_o_tokens a_o_tokens_text a_q3 a_q3_codes a_q3_sorts a_q3_numbers o_tokens_held o_tokens_length u78.2.1 u78.2.2.1 u78.2.2.2.1 u78.2.2.2.2.1 u78.2.2.2.2.2.1 u78.2.2.2.2.2.2.1 u78.2.2.2.2.2.2.2 o_tokens_text q3_many q3_codes q3_sorts q3_numbers (3 : Int32) u96 hu96) [1, 2, 5, 6, 7, 8] cal_X8_takeName cav_X8_takeName lk_X10_100 cx hP hD hS hl dX10_takeRest_96 rfl rfl rfl rfl (Nat.le_of_ble_eq_true rfl) ⟨Nat.le_of_ble_eq_true rfl, Nat.le_of_ble_eq_true rfl⟩ rfl (by decide +kernel) rfl [none, some 0, some 1, none, none, some 2, some 3, some 4, some 5] rfl (by decide +kernel) rfl (fun H locs hP hD hS => ?_)
      obtain ⟨u99, hu99, hf⟩ := bd hf
      refine callVV (wn := (wd_X10_takeRest E a_o a_o_tokens a_o_steps a_o_opened a_o_tokens_text a_o_steps_cells a_q3 a_q3_codes a_q3_sorts a_q3_numbers o_depth o_tokens_held o_tokens_length u96.2.1 u96.2.2.1 u96.2.2.2.1 u96.2.2.2.2.1 u96.2.2.2.2.2.1 u96.2.2.2.2.2.2.1 u96.2.2.2.2.2.2.2 o_tokens_text o_steps_many u99 q3_many q3_codes q3_sorts q3_numbers)) (n1 := 9) (ct_X7_set l E a_o_steps a_o_steps_cells 180 6 o_steps_many u81 v1 (2 : Int32) u96.1 u99 hu99) [3, 4] cal_X7_set cav_X7_set lk_X10_76 cx hP hD hS hl dX10_takeRest_99 rfl rfl rfl rfl (Nat.le_of_ble_eq_true rfl) ⟨Nat.le_of_ble_eq_true rfl, Nat.le_of_ble_eq_true rfl⟩ rfl (by decide +kernel) rfl [none, none, none, some 0, some 1, none, none, none, none] rfl (by decide +kernel) rfl (fun H locs hP hD hS => ?_)
      refine lv_goto (tgt := 167) hx hb dX10_takeRest_102 (by decide) ?_
      obtain rfl := Option.some.inj hf
      subst hq
      exact retV cx hP hD hS dX10_takeRest_167
    · have hf := it_f hc16 hf
      by_cases hc17 : v2 = 16
      · have hf := it_t hc17 hf
        refine lv_lookup (tgt := 105) hx hb dX10_takeRest_1 (by decide) (by rw [hc17]) (by decide) ?_
        refine lv_aload_n hx hb dX10_takeRest_105 rfl (lv_at hl 0 rfl) ?_
        refine va_get (D := E.1) (ci := 10) (v := .ref a_o_steps) (C := RX10) (T := TX10) (N := 4) hx hb hts inX10 hown hK hP 0 rfl rfl 1 (by decide) (hts _ fl_X10_14) (fun _ h9 => h9) rfl dX10_takeRest_106 ?_
        refine lv_iload_n hx hb dX10_takeRest_109 rfl (lv_at hl 1 rfl) ?_
        refine lv_iconst (v := 1) hx hb dX10_takeRest_110 (by decide) ?_
        refine lv_aload_n hx hb dX10_takeRest_111 rfl (lv_at hl 0 rfl) ?_
        refine va_get (D := E.1) (ci := 10) (v := .ref a_o_tokens) (C := RX10) (T := TX10) (N := 4) hx hb hts inX10 hown hK hP 0 rfl rfl 0 (by decide) (hts _ fl_X10_22) (fun _ h9 => h9) rfl dX10_takeRest_112 ?_
        refine lv_aload_n hx hb dX10_takeRest_115 rfl (lv_at hl 3 rfl) ?_
        refine lv_iconst (v := 3) hx hb dX10_takeRest_116 (by decide) ?_
        obtain ⟨u117, hu117, hf⟩ := bd hf
        refine callVI (wn := (wd_X10_takeRest E a_o a_o_tokens a_o_steps a_o_opened a_o_tokens_text a_o_steps_cells a_q3 a_q3_codes a_q3_sorts a_q3_numbers o_depth o_tokens_held o_tokens_length u117.2.1 u117.2.2.1 u117.2.2.2.1 u117.2.2.2.2.1 u117.2.2.2.2.2.1 u117.2.2.2.2.2.2.1 u117.2.2.2.2.2.2.2 o_tokens_text o_steps_many o_steps_cells q3_many q3_codes q3_sorts q3_numbers)) (n1 := 9) (ct_X8_takeName l E F a_o_tokens a_o_tokens_text a_q3 a_q3_codes a_q3_sorts a_q3_numbers o_tokens_held o_tokens_length o_tokens_place o_tokens_next o_tokens_sort o_tokens_value o_tokens_code o_tokens_fault o_tokens_faultPlace o_tokens_text q3_many q3_codes q3_sorts q3_numbers (3 : Int32) u117 hu117) [1, 2, 5, 6, 7, 8] cal_X8_takeName cav_X8_takeName lk_X10_100 cx hP hD hS hl dX10_takeRest_117 rfl rfl rfl rfl (Nat.le_of_ble_eq_true rfl) ⟨Nat.le_of_ble_eq_true rfl, Nat.le_of_ble_eq_true rfl⟩ rfl (by decide +kernel) rfl [none, some 0, some 1, none, none, some 2, some 3, some 4, some 5] rfl (by decide +kernel) rfl (fun H locs hP hD hS => ?_)
        obtain ⟨u120, hu120, hf⟩ := bd hf
        refine callVV (wn := (wd_X10_takeRest E a_o a_o_tokens a_o_steps a_o_opened a_o_tokens_text a_o_steps_cells a_q3 a_q3_codes a_q3_sorts a_q3_numbers o_depth o_tokens_held o_tokens_length u117.2.1 u117.2.2.1 u117.2.2.2.1 u117.2.2.2.2.1 u117.2.2.2.2.2.1 u117.2.2.2.2.2.2.1 u117.2.2.2.2.2.2.2 o_tokens_text o_steps_many u120 q3_many q3_codes q3_sorts q3_numbers)) (n1 := 9) (ct_X7_set l E a_o_steps a_o_steps_cells 180 6 o_steps_many o_steps_cells v1 (1 : Int32) u117.1 u120 hu120) [3, 4] cal_X7_set cav_X7_set lk_X10_76 cx hP hD hS hl dX10_takeRest_120 rfl rfl rfl rfl (Nat.le_of_ble_eq_true rfl) ⟨Nat.le_of_ble_eq_true rfl, Nat.le_of_ble_eq_true rfl⟩ rfl (by decide +kernel) rfl [none, none, none, some 0, some 1, none, none, none, none] rfl (by decide +kernel) rfl (fun H locs hP hD hS => ?_)
        refine lv_aload_n hx hb dX10_takeRest_123 rfl (lv_at hl 0 rfl) ?_
        refine va_get (D := E.1) (ci := 10) (v := .ref a_o_steps) (C := RX10) (T := TX10) (N := 4) hx hb hts inX10 hown hK hP 0 rfl rfl 1 (by decide) (hts _ fl_X10_14) (fun _ h9 => h9) rfl dX10_takeRest_124 ?_
        refine lv_iload_n hx hb dX10_takeRest_127 rfl (lv_at hl 1 rfl) ?_
        refine lv_iconst (v := 2) hx hb dX10_takeRest_128 (by decide) ?_
        refine lv_aload_n hx hb dX10_takeRest_129 rfl (lv_at hl 0 rfl) ?_
        refine va_get (D := E.1) (ci := 10) (v := .ref a_o_tokens) (C := RX10) (T := TX10) (N := 4) hx hb hts inX10 hown hK hP 0 rfl rfl 0 (by decide) (hts _ fl_X10_22) (fun _ h9 => h9) rfl dX10_takeRest_130 ?_
        refine lv_iconst (v := 1) hx hb dX10_takeRest_133 (by decide) ?_
        refine lv_bipush (v := 99) hx hb dX10_takeRest_134 (by decide) ?_
        obtain ⟨u136, hu136, hf⟩ := bd hf
        refine callVI (wn := (wd_X10_takeRest E a_o a_o_tokens a_o_steps a_o_opened a_o_tokens_text a_o_steps_cells a_q3 a_q3_codes a_q3_sorts a_q3_numbers o_depth o_tokens_held o_tokens_length u136.2.1 u136.2.2.1 u136.2.2.2.1 u136.2.2.2.2.1 u136.2.2.2.2.2.1 u136.2.2.2.2.2.2.1 u136.2.2.2.2.2.2.2 o_tokens_text o_steps_many u120 q3_many q3_codes q3_sorts q3_numbers)) (n1 := 9) (ct_X8_takeNumber l E F a_o_tokens a_o_tokens_text o_tokens_held o_tokens_length u117.2.1 u117.2.2.1 u117.2.2.2.1 u117.2.2.2.2.1 u117.2.2.2.2.2.1 u117.2.2.2.2.2.2.1 u117.2.2.2.2.2.2.2 o_tokens_text (1 : Int32) (99 : Int32) u136 hu136) [1, 2] cal_X8_takeNumber cav_X8_takeNumber lk_X10_94 cx hP hD hS hl dX10_takeRest_136 rfl rfl rfl rfl (Nat.le_of_ble_eq_true rfl) ⟨Nat.le_of_ble_eq_true rfl, Nat.le_of_ble_eq_true rfl⟩ rfl (by decide +kernel) rfl [none, some 0, some 1, none, none, none, none, none, none] rfl (by decide +kernel) rfl (fun H locs hP hD hS => ?_)
        obtain ⟨u139, hu139, hf⟩ := bd hf
        refine callVV (wn := (wd_X10_takeRest E a_o a_o_tokens a_o_steps a_o_opened a_o_tokens_text a_o_steps_cells a_q3 a_q3_codes a_q3_sorts a_q3_numbers o_depth o_tokens_held o_tokens_length u136.2.1 u136.2.2.1 u136.2.2.2.1 u136.2.2.2.2.1 u136.2.2.2.2.2.1 u136.2.2.2.2.2.2.1 u136.2.2.2.2.2.2.2 o_tokens_text o_steps_many u139 q3_many q3_codes q3_sorts q3_numbers)) (n1 := 9) (ct_X7_set l E a_o_steps a_o_steps_cells 180 6 o_steps_many u120 v1 (2 : Int32) u136.1 u139 hu139) [3, 4] cal_X7_set cav_X7_set lk_X10_76 cx hP hD hS hl dX10_takeRest_139 rfl rfl rfl rfl (Nat.le_of_ble_eq_true rfl) ⟨Nat.le_of_ble_eq_true rfl, Nat.le_of_ble_eq_true rfl⟩ rfl (by decide +kernel) rfl [none, none, none, some 0, some 1, none, none, none, none] rfl (by decide +kernel) rfl (fun H locs hP hD hS => ?_)
        refine lv_goto (tgt := 167) hx hb dX10_takeRest_142 (by decide) ?_
        obtain rfl := Option.some.inj hf
        subst hq
        exact retV cx hP hD hS dX10_takeRest_167
      · have hf := it_f hc17 hf
        by_cases hc24 : v2 = 23
        · have hf := it_t hc24 hf
          refine lv_lookup (tgt := 145) hx hb dX10_takeRest_1 (by decide) (by rw [hc24]) (by decide) ?_
          refine lv_aload_n hx hb dX10_takeRest_145 rfl (lv_at hl 0 rfl) ?_
          refine va_get (D := E.1) (ci := 10) (v := .ref a_o_steps) (C := RX10) (T := TX10) (N := 4) hx hb hts inX10 hown hK hP 0 rfl rfl 1 (by decide) (hts _ fl_X10_14) (fun _ h9 => h9) rfl dX10_takeRest_146 ?_
          refine lv_iload_n hx hb dX10_takeRest_149 rfl (lv_at hl 1 rfl) ?_
          refine lv_iconst (v := 2) hx hb dX10_takeRest_150 (by decide) ?_
          refine lv_aload_n hx hb dX10_takeRest_151 rfl (lv_at hl 0 rfl) ?_
          refine va_get (D := E.1) (ci := 10) (v := .ref a_o_tokens) (C := RX10) (T := TX10) (N := 4) hx hb hts inX10 hown hK hP 0 rfl rfl 0 (by decide) (hts _ fl_X10_22) (fun _ h9 => h9) rfl dX10_takeRest_152 ?_
          refine lv_iconst (v := 1) hx hb dX10_takeRest_155 (by decide) ?_
          refine lv_bipush (v := 99) hx hb dX10_takeRest_156 (by decide) ?_
          obtain ⟨u158, hu158, hf⟩ := bd hf
          refine callVI (wn := (wd_X10_takeRest E a_o a_o_tokens a_o_steps a_o_opened a_o_tokens_text a_o_steps_cells a_q3 a_q3_codes a_q3_sorts a_q3_numbers o_depth o_tokens_held o_tokens_length u158.2.1 u158.2.2.1 u158.2.2.2.1 u158.2.2.2.2.1 u158.2.2.2.2.2.1 u158.2.2.2.2.2.2.1 u158.2.2.2.2.2.2.2 o_tokens_text o_steps_many o_steps_cells q3_many q3_codes q3_sorts q3_numbers)) (n1 := 9) (ct_X8_takeNumber l E F a_o_tokens a_o_tokens_text o_tokens_held o_tokens_length o_tokens_place o_tokens_next o_tokens_sort o_tokens_value o_tokens_code o_tokens_fault o_tokens_faultPlace o_tokens_text (1 : Int32) (99 : Int32) u158 hu158) [1, 2] cal_X8_takeNumber cav_X8_takeNumber lk_X10_94 cx hP hD hS hl dX10_takeRest_158 rfl rfl rfl rfl (Nat.le_of_ble_eq_true rfl) ⟨Nat.le_of_ble_eq_true rfl, Nat.le_of_ble_eq_true rfl⟩ rfl (by decide +kernel) rfl [none, some 0, some 1, none, none, none, none, none, none] rfl (by decide +kernel) rfl (fun H locs hP hD hS => ?_)
          obtain ⟨u161, hu161, hf⟩ := bd hf
          refine callVV (wn := (wd_X10_takeRest E a_o a_o_tokens a_o_steps a_o_opened a_o_tokens_text a_o_steps_cells a_q3 a_q3_codes a_q3_sorts a_q3_numbers o_depth o_tokens_held o_tokens_length u158.2.1 u158.2.2.1 u158.2.2.2.1 u158.2.2.2.2.1 u158.2.2.2.2.2.1 u158.2.2.2.2.2.2.1 u158.2.2.2.2.2.2.2 o_tokens_text o_steps_many u161 q3_many q3_codes q3_sorts q3_numbers)) (n1 := 9) (ct_X7_set l E a_o_steps a_o_steps_cells 180 6 o_steps_many o_steps_cells v1 (2 : Int32) u158.1 u161 hu161) [3, 4] cal_X7_set cav_X7_set lk_X10_76 cx hP hD hS hl dX10_takeRest_161 rfl rfl rfl rfl (Nat.le_of_ble_eq_true rfl) ⟨Nat.le_of_ble_eq_true rfl, Nat.le_of_ble_eq_true rfl⟩ rfl (by decide +kernel) rfl [none, none, none, some 0, some 1, none, none, none, none] rfl (by decide +kernel) rfl (fun H locs hP hD hS => ?_)
          refine lv_goto (tgt := 167) hx hb dX10_takeRest_164 (by decide) ?_
          obtain rfl := Option.some.inj hf
          subst hq
          exact retV cx hP hD hS dX10_takeRest_167
        · have hf := it_f hc24 hf
          refine lkD (tgt := 167) [10, 15, 16, 23] cx dX10_takeRest_1 (by decide) ?_ rfl (by decide) ?_
          · intro z hz
            simp only [List.mem_cons, List.not_mem_nil, or_false] at hz
            rcases hz with rfl | rfl | rfl | rfl
            · exact ne_int hc11 (by decide)
            · exact ne_int hc16 (by decide)
            · exact ne_int hc17 (by decide)
            · exact ne_int hc24 (by decide)
          · obtain rfl := Option.some.inj hf
            subst hq
            exact retV cx hP hD hS dX10_takeRest_167
def X10_takeStep_j174 (F : Nat) (o_depth : Int32) (o_tokens_length : Int32) (o_tokens_place : Int32) (o_tokens_next : Int32) (o_tokens_sort : Int32) (o_tokens_value : Int32) (o_tokens_code : Int64) (o_tokens_fault : Int32) (o_tokens_faultPlace : Int32) (o_tokens_text : Nat → Int32) (o_steps_many : Int32) (o_steps_cells : Nat → Int32) (o_opened : Nat → Int32) (q1_many : Int32) (q1_codes : Nat → Int64) (q1_sorts : Nat → Int32) (q1_numbers : Nat → Int32) (v3 : Int32) (v4 : Int32) : Option (vS) :=
  (X8_takeEnd F o_tokens_length o_tokens_place o_tokens_next o_tokens_sort o_tokens_value o_tokens_code o_tokens_fault o_tokens_faultPlace o_tokens_text).bind fun u178 =>
  if v3 = 0 then
  some (mkS [o_depth, u178.1, u178.2.1, u178.2.2.1, u178.2.2.2.1, u178.2.2.2.2.2.1, u178.2.2.2.2.2.2, o_steps_many] [u178.2.2.2.2.1] [o_steps_cells, o_opened] [])
  else
  if (3 : Int32) ≤ o_depth then
  some (mkS [o_depth, u178.1, u178.2.1, u178.2.2.1, u178.2.2.2.1, u178.2.2.2.2.2.1, u178.2.2.2.2.2.2, o_steps_many] [u178.2.2.2.2.1] [o_steps_cells, o_opened] [])
  else
  if ix o_depth 3 then
  some (mkS [(o_depth + 1), u178.1, u178.2.1, u178.2.2.1, u178.2.2.2.1, u178.2.2.2.2.2.1, u178.2.2.2.2.2.2, o_steps_many] [u178.2.2.2.2.1] [o_steps_cells, (jput o_opened o_depth v4)] [])
  else none
def X10_takeStep_j112 (F : Nat) (o_depth : Int32) (o_tokens_length : Int32) (o_tokens_place : Int32) (o_tokens_next : Int32) (o_tokens_sort : Int32) (o_tokens_value : Int32) (o_tokens_code : Int64) (o_tokens_fault : Int32) (o_tokens_faultPlace : Int32) (o_tokens_text : Nat → Int32) (o_steps_many : Int32) (o_steps_cells : Nat → Int32) (o_opened : Nat → Int32) (q1_many : Int32) (q1_codes : Nat → Int64) (q1_sorts : Nat → Int32) (q1_numbers : Nat → Int32) (v2 : Int32) (v3 : Int32) : Option (vS) :=
  if o_tokens_fault = 0 then
  (X7_add F 180 6 o_steps_many o_steps_cells).bind fun u127 =>
  (X7_set 180 6 u127.2.1 u127.2.2 u127.1 (0 : Int32) v2).bind fun u140 =>
  (X8_advance F o_tokens_length o_tokens_place o_tokens_next o_tokens_sort o_tokens_value o_tokens_code o_tokens_text).bind fun u147 =>
  if v2 = 18 then
  (X10_takeTest F o_tokens_length u147.1 u147.2.1 u147.2.2.1 u147.2.2.2.1 u147.2.2.2.2 o_tokens_fault o_tokens_faultPlace o_tokens_text u127.2.1 u140 q1_many q1_codes q1_sorts q1_numbers u127.1).bind fun u160 =>
  X10_takeStep_j174 F o_depth o_tokens_length u160.1 u160.2.1 u160.2.2.1 u160.2.2.2.1 u160.2.2.2.2.1 u160.2.2.2.2.2.1 u160.2.2.2.2.2.2.1 o_tokens_text u127.2.1 u160.2.2.2.2.2.2.2 o_opened q1_many q1_codes q1_sorts q1_numbers v3 u127.1
  else
  (X10_takeRest F o_tokens_length u147.1 u147.2.1 u147.2.2.1 u147.2.2.2.1 u147.2.2.2.2 o_tokens_fault o_tokens_faultPlace o_tokens_text u127.2.1 u140 q1_many q1_codes q1_sorts q1_numbers u127.1 v2).bind fun u171 =>
  X10_takeStep_j174 F o_depth o_tokens_length u171.1 u171.2.1 u171.2.2.1 u171.2.2.2.1 u171.2.2.2.2.1 u171.2.2.2.2.2.1 u171.2.2.2.2.2.2.1 o_tokens_text u127.2.1 u171.2.2.2.2.2.2.2 o_opened q1_many q1_codes q1_sorts q1_numbers v3 u127.1
  else
  some (mkS [o_depth, o_tokens_place, o_tokens_next, o_tokens_sort, o_tokens_value, o_tokens_fault, o_tokens_faultPlace, o_steps_many] [o_tokens_code] [o_steps_cells, o_opened] [])
def X10_takeStep_j51 (F : Nat) (o_depth : Int32) (o_tokens_length : Int32) (o_tokens_place : Int32) (o_tokens_next : Int32) (o_tokens_sort : Int32) (o_tokens_value : Int32) (o_tokens_code : Int64) (o_tokens_fault : Int32) (o_tokens_faultPlace : Int32) (o_tokens_text : Nat → Int32) (o_steps_many : Int32) (o_steps_cells : Nat → Int32) (o_opened : Nat → Int32) (q1_many : Int32) (q1_codes : Nat → Int64) (q1_sorts : Nat → Int32) (q1_numbers : Nat → Int32) (v2 : Int32) (k0 : Int32) : Option (vS) :=
  (X10_isStep v2).bind fun u53 =>
  if u53 = 0 then
  (X8_failHere o_tokens_place o_tokens_sort o_tokens_fault o_tokens_faultPlace).bind fun u63 =>
  X10_takeStep_j112 F o_depth o_tokens_length o_tokens_place o_tokens_next o_tokens_sort o_tokens_value o_tokens_code u63.1 u63.2 o_tokens_text o_steps_many o_steps_cells o_opened q1_many q1_codes q1_sorts q1_numbers v2 k0
  else
  (X7_isFull 180 6 o_steps_many).bind fun u73 =>
  if u73 = 0 then
  if k0 = 0 then
  X10_takeStep_j112 F o_depth o_tokens_length o_tokens_place o_tokens_next o_tokens_sort o_tokens_value o_tokens_code o_tokens_fault o_tokens_faultPlace o_tokens_text o_steps_many o_steps_cells o_opened q1_many q1_codes q1_sorts q1_numbers v2 k0
  else
  if o_depth < 3 then
  X10_takeStep_j112 F o_depth o_tokens_length o_tokens_place o_tokens_next o_tokens_sort o_tokens_value o_tokens_code o_tokens_fault o_tokens_faultPlace o_tokens_text o_steps_many o_steps_cells o_opened q1_many q1_codes q1_sorts q1_numbers v2 k0
  else
  (X8_fail o_tokens_place o_tokens_fault o_tokens_faultPlace (7 : Int32)).bind fun u109 =>
  X10_takeStep_j112 F o_depth o_tokens_length o_tokens_place o_tokens_next o_tokens_sort o_tokens_value o_tokens_code u109.1 u109.2 o_tokens_text o_steps_many o_steps_cells o_opened q1_many q1_codes q1_sorts q1_numbers v2 k0
  else
  (X8_fail o_tokens_place o_tokens_fault o_tokens_faultPlace (6 : Int32)).bind fun u85 =>
  X10_takeStep_j112 F o_depth o_tokens_length o_tokens_place o_tokens_next o_tokens_sort o_tokens_value o_tokens_code u85.1 u85.2 o_tokens_text o_steps_many o_steps_cells o_opened q1_many q1_codes q1_sorts q1_numbers v2 k0
def X10_takeStep_j46 (F : Nat) (o_depth : Int32) (o_tokens_length : Int32) (o_tokens_place : Int32) (o_tokens_next : Int32) (o_tokens_sort : Int32) (o_tokens_value : Int32) (o_tokens_code : Int64) (o_tokens_fault : Int32) (o_tokens_faultPlace : Int32) (o_tokens_text : Nat → Int32) (o_steps_many : Int32) (o_steps_cells : Nat → Int32) (o_opened : Nat → Int32) (q1_many : Int32) (q1_codes : Nat → Int64) (q1_sorts : Nat → Int32) (q1_numbers : Nat → Int32) (v2 : Int32) : Option (vS) :=
  X10_takeStep_j51 F o_depth o_tokens_length o_tokens_place o_tokens_next o_tokens_sort o_tokens_value o_tokens_code o_tokens_fault o_tokens_faultPlace o_tokens_text o_steps_many o_steps_cells o_opened q1_many q1_codes q1_sorts q1_numbers v2 1
def X10_takeStep_j22 (F : Nat) (o_depth : Int32) (o_tokens_length : Int32) (o_tokens_place : Int32) (o_tokens_next : Int32) (o_tokens_sort : Int32) (o_tokens_value : Int32) (o_tokens_code : Int64) (o_tokens_fault : Int32) (o_tokens_faultPlace : Int32) (o_tokens_text : Nat → Int32) (o_steps_many : Int32) (o_steps_cells : Nat → Int32) (o_opened : Nat → Int32) (q1_many : Int32) (q1_codes : Nat → Int64) (q1_sorts : Nat → Int32) (q1_numbers : Nat → Int32) (k0 : Int32) : Option (vS) :=
  if k0 = 24 then
  (X10_takeClose F o_depth o_tokens_length o_tokens_place o_tokens_next o_tokens_sort o_tokens_value o_tokens_code o_tokens_fault o_tokens_faultPlace o_tokens_text o_steps_many o_steps_cells o_opened).bind fun u30 =>
  some (mkS [u30.1, u30.2.1, u30.2.2.1, u30.2.2.2.1, u30.2.2.2.2.1, u30.2.2.2.2.2.2.1, u30.2.2.2.2.2.2.2.1, o_steps_many] [u30.2.2.2.2.2.1] [u30.2.2.2.2.2.2.2.2, o_opened] [])
  else
  if k0 = 18 then
  X10_takeStep_j46 F o_depth o_tokens_length o_tokens_place o_tokens_next o_tokens_sort o_tokens_value o_tokens_code o_tokens_fault o_tokens_faultPlace o_tokens_text o_steps_many o_steps_cells o_opened q1_many q1_codes q1_sorts q1_numbers k0
  else
  if k0 = 23 then
  X10_takeStep_j46 F o_depth o_tokens_length o_tokens_place o_tokens_next o_tokens_sort o_tokens_value o_tokens_code o_tokens_fault o_tokens_faultPlace o_tokens_text o_steps_many o_steps_cells o_opened q1_many q1_codes q1_sorts q1_numbers k0
  else
  X10_takeStep_j51 F o_depth o_tokens_length o_tokens_place o_tokens_next o_tokens_sort o_tokens_value o_tokens_code o_tokens_fault o_tokens_faultPlace o_tokens_text o_steps_many o_steps_cells o_opened q1_many q1_codes q1_sorts q1_numbers k0 0
def X10_takeStep (F : Nat) (o_depth : Int32) (o_tokens_length : Int32) (o_tokens_place : Int32) (o_tokens_next : Int32) (o_tokens_sort : Int32) (o_tokens_value : Int32) (o_tokens_code : Int64) (o_tokens_fault : Int32) (o_tokens_faultPlace : Int32) (o_tokens_text : Nat → Int32) (o_steps_many : Int32) (o_steps_cells : Nat → Int32) (o_opened : Nat → Int32) (q1_many : Int32) (q1_codes : Nat → Int64) (q1_sorts : Nat → Int32) (q1_numbers : Nat → Int32) : Option (vS) :=
  if o_tokens_sort = 1 then
  X10_takeStep_j22 F o_depth o_tokens_length o_tokens_place o_tokens_next o_tokens_sort o_tokens_value o_tokens_code o_tokens_fault o_tokens_faultPlace o_tokens_text o_steps_many o_steps_cells o_opened q1_many q1_codes q1_sorts q1_numbers o_tokens_value
  else
  X10_takeStep_j22 F o_depth o_tokens_length o_tokens_place o_tokens_next o_tokens_sort o_tokens_value o_tokens_code o_tokens_fault o_tokens_faultPlace o_tokens_text o_steps_many o_steps_cells o_opened q1_many q1_codes q1_sorts q1_numbers 0
abbrev wd_X10_takeStep (E : vE) (a_o a_o_tokens a_o_steps a_o_opened a_o_tokens_text a_o_steps_cells a_q1 a_q1_codes a_q1_sorts a_q1_numbers : Nat) (o_depth : Int32) (o_tokens_held : Int32) (o_tokens_length : Int32) (o_tokens_place : Int32) (o_tokens_next : Int32) (o_tokens_sort : Int32) (o_tokens_value : Int32) (o_tokens_code : Int64) (o_tokens_fault : Int32) (o_tokens_faultPlace : Int32) (o_tokens_text : Nat → Int32) (o_steps_many : Int32) (o_steps_cells : Nat → Int32) (o_opened : Nat → Int32) (q1_many : Int32) (q1_codes : Nat → Int64) (q1_sorts : Nat → Int32) (q1_numbers : Nat → Int32) : va_W := [(a_o, .inr (10, [.ref a_o_tokens, .ref a_o_steps, .ref a_o_opened, .int o_depth])), (a_o_tokens, .inr (8, [.ref a_o_tokens_text, .int o_tokens_held, .int o_tokens_length, .int o_tokens_place, .int o_tokens_next, .int o_tokens_sort, .int o_tokens_value, .long o_tokens_code, .int o_tokens_fault, .int o_tokens_faultPlace])), (a_o_tokens_text, .inl (E.2.1, 900, .inl o_tokens_text)), (a_o_steps, .inr (7, [.int 6, .ref a_o_steps_cells, .int o_steps_many])), (a_o_steps_cells, .inl (E.2.1, 180, .inl o_steps_cells)), (a_o_opened, .inl (E.2.1, 3, .inl o_opened)), (a_q1, .inr (3, [.ref a_q1_codes, .ref a_q1_sorts, .ref a_q1_numbers, .int q1_many])), (a_q1_codes, .inl (E.2.2.1, 27, .inr (.inl q1_codes))), (a_q1_sorts, .inl (E.2.1, 27, .inl q1_sorts)), (a_q1_numbers, .inl (E.2.1, 27, .inl q1_numbers))]
set_option maxHeartbeats 4000000 in
set_option maxRecDepth 100000 in
theorem ct_X10_takeStep (l : Launch) (E : vE) (F : Nat) (a_o a_o_tokens a_o_steps a_o_opened a_o_tokens_text a_o_steps_cells a_q1 a_q1_codes a_q1_sorts a_q1_numbers : Nat) (o_depth : Int32) (o_tokens_held : Int32) (o_tokens_length : Int32) (o_tokens_place : Int32) (o_tokens_next : Int32) (o_tokens_sort : Int32) (o_tokens_value : Int32) (o_tokens_code : Int64) (o_tokens_fault : Int32) (o_tokens_faultPlace : Int32) (o_tokens_text : Nat → Int32) (o_steps_many : Int32) (o_steps_cells : Nat → Int32) (o_opened : Nat → Int32) (q1_many : Int32) (q1_codes : Nat → Int64) (q1_sorts : Nat → Int32) (q1_numbers : Nat → Int32) (u : vS) (hf : X10_takeStep F o_depth o_tokens_length o_tokens_place o_tokens_next o_tokens_sort o_tokens_value o_tokens_code o_tokens_fault o_tokens_faultPlace o_tokens_text o_steps_many o_steps_cells o_opened q1_many q1_codes q1_sorts q1_numbers = some u) :
    CtV l yX10_takeStep cX10_takeStep 5 none 8 E [.ref a_o, .ref a_q1] (wd_X10_takeStep E a_o a_o_tokens a_o_steps a_o_opened a_o_tokens_text a_o_steps_cells a_q1 a_q1_codes a_q1_sorts a_q1_numbers o_depth o_tokens_held o_tokens_length o_tokens_place o_tokens_next o_tokens_sort o_tokens_value o_tokens_code o_tokens_fault o_tokens_faultPlace o_tokens_text o_steps_many o_steps_cells o_opened q1_many q1_codes q1_sorts q1_numbers) (wd_X10_takeStep E a_o a_o_tokens a_o_steps a_o_opened a_o_tokens_text a_o_steps_cells a_q1 a_q1_codes a_q1_sorts a_q1_numbers (u.1 0) o_tokens_held o_tokens_length (u.1 1) (u.1 2) (u.1 3) (u.1 4) (u.2.1 0) (u.1 5) (u.1 6) o_tokens_text (u.1 7) (u.2.2.1 0) (u.2.2.1 1) q1_many q1_codes q1_sorts q1_numbers) := by
  refine ctV (by decide) (Nat.le_of_ble_eq_true rfl) ?_
  intro p e s m below meth cd A ls aa QQ hq cx hP hD hS hl
  obtain ⟨⟨hx, hb, hml, hown, hts⟩, hr, hlocks, hK, hA, hX⟩ := id cx
  have hl : lv_has ls 5 [(0, .ref a_o), (1, .ref a_q1)] := hl
  have hj174 : ∀ (v3_j174 : Int32) (v4_j174 : Int32) (o_depth_j174 : Int32) (o_tokens_place_j174 : Int32) (o_tokens_next_j174 : Int32) (o_tokens_sort_j174 : Int32) (o_tokens_value_j174 : Int32) (o_tokens_code_j174 : Int64) (o_tokens_fault_j174 : Int32) (o_tokens_faultPlace_j174 : Int32) (o_steps_many_j174 : Int32) (o_steps_cells_j174 : Nat → Int32) (o_opened_j174 : Nat → Int32) (H : Heap) (locs : List Loc) (ls : Array Slot), X10_takeStep_j174 F o_depth_j174 o_tokens_length o_tokens_place_j174 o_tokens_next_j174 o_tokens_sort_j174 o_tokens_value_j174 o_tokens_code_j174 o_tokens_fault_j174 o_tokens_faultPlace_j174 o_tokens_text o_steps_many_j174 o_steps_cells_j174 o_opened_j174 q1_many q1_codes q1_sorts q1_numbers v3_j174 v4_j174 = some u → va_P E.1 vwCl (wd_X10_takeStep E a_o a_o_tokens a_o_steps a_o_opened a_o_tokens_text a_o_steps_cells a_q1 a_q1_codes a_q1_sorts a_q1_numbers o_depth_j174 o_tokens_held o_tokens_length o_tokens_place_j174 o_tokens_next_j174 o_tokens_sort_j174 o_tokens_value_j174 o_tokens_code_j174 o_tokens_fault_j174 o_tokens_faultPlace_j174 o_tokens_text o_steps_many_j174 o_steps_cells_j174 o_opened_j174 q1_many q1_codes q1_sorts q1_numbers) H → va_D A (wd_X10_takeStep E a_o a_o_tokens a_o_steps a_o_opened a_o_tokens_text a_o_steps_cells a_q1 a_q1_codes a_q1_sorts a_q1_numbers o_depth_j174 o_tokens_held o_tokens_length o_tokens_place_j174 o_tokens_next_j174 o_tokens_sort_j174 o_tokens_value_j174 o_tokens_code_j174 o_tokens_fault_j174 o_tokens_faultPlace_j174 o_tokens_text o_steps_many_j174 o_steps_cells_j174 o_opened_j174 q1_many q1_codes q1_sorts q1_numbers) → va_S A s.heap H locs → lv_has ls 5 [(0, .ref a_o), (3, .int v3_j174), (4, .int v4_j174)] → W p l e (rmd 8) s m aa below meth cd H locs 0 0 QQ (F0 m 174 ls []) := by
    intro v3_j174 v4_j174 o_depth_j174 o_tokens_place_j174 o_tokens_next_j174 o_tokens_sort_j174 o_tokens_value_j174 o_tokens_code_j174 o_tokens_fault_j174 o_tokens_faultPlace_j174 o_steps_many_j174 o_steps_cells_j174 o_opened_j174 H locs ls hf hP hD hS hl
    unfold X10_takeStep_j174 at hf
    refine lv_aload_n hx hb dX10_takeStep_174 rfl (lv_at hl 0 rfl) ?_
    refine va_get (D := E.1) (ci := 10) (v := .ref a_o_tokens) (C := RX10) (T := TX10) (N := 4) hx hb hts inX10 hown hK hP 0 rfl rfl 0 (by decide) (hts _ fl_X10_22) (fun _ h9 => h9) rfl dX10_takeStep_175 ?_
    obtain ⟨u178, hu178, hf⟩ := bd hf
    refine callVV (wn := (wd_X10_takeStep E a_o a_o_tokens a_o_steps a_o_opened a_o_tokens_text a_o_steps_cells a_q1 a_q1_codes a_q1_sorts a_q1_numbers o_depth_j174 o_tokens_held o_tokens_length u178.1 u178.2.1 u178.2.2.1 u178.2.2.2.1 u178.2.2.2.2.1 u178.2.2.2.2.2.1 u178.2.2.2.2.2.2 o_tokens_text o_steps_many_j174 o_steps_cells_j174 o_opened_j174 q1_many q1_codes q1_sorts q1_numbers)) (n1 := 10) (ct_X8_takeEnd l E F a_o_tokens a_o_tokens_text o_tokens_held o_tokens_length o_tokens_place_j174 o_tokens_next_j174 o_tokens_sort_j174 o_tokens_value_j174 o_tokens_code_j174 o_tokens_fault_j174 o_tokens_faultPlace_j174 o_tokens_text u178 hu178) [1, 2] cal_X8_takeEnd cav_X8_takeEnd lk_X10_91 cx hP hD hS hl dX10_takeStep_178 rfl rfl rfl rfl (Nat.le_of_ble_eq_true rfl) ⟨Nat.le_of_ble_eq_true rfl, Nat.le_of_ble_eq_true rfl⟩ rfl (by decide +kernel) rfl [none, some 0, some 1, none, none, none, none, none, none, none] rfl (by decide +kernel) rfl (fun H locs hP hD hS => ?_)
    refine lv_iload_n hx hb dX10_takeStep_181 rfl (lv_at hl 1 rfl) ?_
    refine lv_if_eq (tgt := 214) hx hb dX10_takeStep_182 (by decide) (fun hc => ?_) (fun hc => ?_)
    · have hf := it_t hc hf
      obtain rfl := Option.some.inj hf
      subst hq
      exact retV cx hP hD hS dX10_takeStep_214
    · have hf := it_f hc hf
      refine lv_aload_n hx hb dX10_takeStep_185 rfl (lv_at hl 0 rfl) ?_
      refine va_get (D := E.1) (ci := 10) (v := .int o_depth_j174) (C := RX10) (T := TX10) (N := 4) hx hb hts inX10 hown hK hP 0 rfl rfl 3 (by decide) (hts _ fl_X10_30) (fun _ h9 => h9) rfl dX10_takeStep_186 ?_
      refine lv_iconst (v := 3) hx hb dX10_takeStep_189 (by decide) ?_
      refine lv_icmp_ge (tgt := 214) hx hb dX10_takeStep_190 (by decide) (fun hc => ?_) (fun hc => ?_)
      · have hf := it_t hc hf
        obtain rfl := Option.some.inj hf
        subst hq
        exact retV cx hP hD hS dX10_takeStep_214
      · have hf := it_f hc hf
        refine lv_aload_n hx hb dX10_takeStep_193 rfl (lv_at hl 0 rfl) ?_
        refine va_get (D := E.1) (ci := 10) (v := .ref a_o_opened) (C := RX10) (T := TX10) (N := 4) hx hb hts inX10 hown hK hP 0 rfl rfl 2 (by decide) (hts _ fl_X10_18) (fun _ h9 => h9) rfl dX10_takeStep_194 ?_
        refine lv_aload_n hx hb dX10_takeStep_197 rfl (lv_at hl 0 rfl) ?_
        refine va_get (D := E.1) (ci := 10) (v := .int o_depth_j174) (C := RX10) (T := TX10) (N := 4) hx hb hts inX10 hown hK hP 0 rfl rfl 3 (by decide) (hts _ fl_X10_30) (fun _ h9 => h9) rfl dX10_takeStep_198 ?_
        refine lv_iload hx hb dX10_takeStep_201 (lv_at hl 2 rfl) ?_
        obtain ⟨hi, hf⟩ := ck hf
        refine r_iast 5 cx hP hD hS rfl hi dX10_takeStep_203 (fun H locs hP hD hS => ?_)
        have hP : va_P E.1 vwCl (wd_X10_takeStep E a_o a_o_tokens a_o_steps a_o_opened a_o_tokens_text a_o_steps_cells a_q1 a_q1_codes a_q1_sorts a_q1_numbers o_depth_j174 o_tokens_held o_tokens_length u178.1 u178.2.1 u178.2.2.1 u178.2.2.2.1 u178.2.2.2.2.1 u178.2.2.2.2.2.1 u178.2.2.2.2.2.2 o_tokens_text o_steps_many_j174 o_steps_cells_j174 (jput o_opened_j174 o_depth_j174 v4_j174) q1_many q1_codes q1_sorts q1_numbers) H := hP
        have hD : va_D A (wd_X10_takeStep E a_o a_o_tokens a_o_steps a_o_opened a_o_tokens_text a_o_steps_cells a_q1 a_q1_codes a_q1_sorts a_q1_numbers o_depth_j174 o_tokens_held o_tokens_length u178.1 u178.2.1 u178.2.2.1 u178.2.2.2.1 u178.2.2.2.2.1 u178.2.2.2.2.2.1 u178.2.2.2.2.2.2 o_tokens_text o_steps_many_j174 o_steps_cells_j174 (jput o_opened_j174 o_depth_j174 v4_j174) q1_many q1_codes q1_sorts q1_numbers) := hD
        refine lv_aload_n hx hb dX10_takeStep_204 rfl (lv_at hl 0 rfl) ?_
        refine lv_dup hx hb dX10_takeStep_205 rfl ?_
        refine va_get (D := E.1) (ci := 10) (v := .int o_depth_j174) (C := RX10) (T := TX10) (N := 4) hx hb hts inX10 hown hK hP 0 rfl rfl 3 (by decide) (hts _ fl_X10_30) (fun _ h9 => h9) rfl dX10_takeStep_206 ?_
        refine lv_iconst (v := 1) hx hb dX10_takeStep_209 (by decide) ?_
        refine lv_iadd hx hb dX10_takeStep_210 ?_
        refine va_put (D := E.1) (ci := 10) (v := .int (o_depth_j174 + 1)) (ty := .int) (C := RX10) (T := TX10) (N := 4) hx hb hts inX10 tyX10 tyX10_ok nmX10 hown hK hP hD hS 0 rfl rfl 3 (by decide) (hts _ fl_X10_30) (fun _ h9 => h9) rfl (by decide +kernel) rfl rfl (Nat.le_of_ble_eq_true rfl) dX10_takeStep_211 (fun H locs hP hD hS => ?_)
        have hP : va_P E.1 vwCl (wd_X10_takeStep E a_o a_o_tokens a_o_steps a_o_opened a_o_tokens_text a_o_steps_cells a_q1 a_q1_codes a_q1_sorts a_q1_numbers (o_depth_j174 + 1) o_tokens_held o_tokens_length u178.1 u178.2.1 u178.2.2.1 u178.2.2.2.1 u178.2.2.2.2.1 u178.2.2.2.2.2.1 u178.2.2.2.2.2.2 o_tokens_text o_steps_many_j174 o_steps_cells_j174 (jput o_opened_j174 o_depth_j174 v4_j174) q1_many q1_codes q1_sorts q1_numbers) H := hP
        have hD : va_D A (wd_X10_takeStep E a_o a_o_tokens a_o_steps a_o_opened a_o_tokens_text a_o_steps_cells a_q1 a_q1_codes a_q1_sorts a_q1_numbers (o_depth_j174 + 1) o_tokens_held o_tokens_length u178.1 u178.2.1 u178.2.2.1 u178.2.2.2.1 u178.2.2.2.2.1 u178.2.2.2.2.2.1 u178.2.2.2.2.2.2 o_tokens_text o_steps_many_j174 o_steps_cells_j174 (jput o_opened_j174 o_depth_j174 v4_j174) q1_many q1_codes q1_sorts q1_numbers) := hD
        obtain rfl := Option.some.inj hf
        subst hq
        exact retV cx hP hD hS dX10_takeStep_214
  have hj112 : ∀ (v2_j112 : Int32) (v3_j112 : Int32) (o_depth_j112 : Int32) (o_tokens_place_j112 : Int32) (o_tokens_next_j112 : Int32) (o_tokens_sort_j112 : Int32) (o_tokens_value_j112 : Int32) (o_tokens_code_j112 : Int64) (o_tokens_fault_j112 : Int32) (o_tokens_faultPlace_j112 : Int32) (o_steps_many_j112 : Int32) (o_steps_cells_j112 : Nat → Int32) (o_opened_j112 : Nat → Int32) (H : Heap) (locs : List Loc) (ls : Array Slot), X10_takeStep_j112 F o_depth_j112 o_tokens_length o_tokens_place_j112 o_tokens_next_j112 o_tokens_sort_j112 o_tokens_value_j112 o_tokens_code_j112 o_tokens_fault_j112 o_tokens_faultPlace_j112 o_tokens_text o_steps_many_j112 o_steps_cells_j112 o_opened_j112 q1_many q1_codes q1_sorts q1_numbers v2_j112 v3_j112 = some u → va_P E.1 vwCl (wd_X10_takeStep E a_o a_o_tokens a_o_steps a_o_opened a_o_tokens_text a_o_steps_cells a_q1 a_q1_codes a_q1_sorts a_q1_numbers o_depth_j112 o_tokens_held o_tokens_length o_tokens_place_j112 o_tokens_next_j112 o_tokens_sort_j112 o_tokens_value_j112 o_tokens_code_j112 o_tokens_fault_j112 o_tokens_faultPlace_j112 o_tokens_text o_steps_many_j112 o_steps_cells_j112 o_opened_j112 q1_many q1_codes q1_sorts q1_numbers) H → va_D A (wd_X10_takeStep E a_o a_o_tokens a_o_steps a_o_opened a_o_tokens_text a_o_steps_cells a_q1 a_q1_codes a_q1_sorts a_q1_numbers o_depth_j112 o_tokens_held o_tokens_length o_tokens_place_j112 o_tokens_next_j112 o_tokens_sort_j112 o_tokens_value_j112 o_tokens_code_j112 o_tokens_fault_j112 o_tokens_faultPlace_j112 o_tokens_text o_steps_many_j112 o_steps_cells_j112 o_opened_j112 q1_many q1_codes q1_sorts q1_numbers) → va_S A s.heap H locs → lv_has ls 5 [(0, .ref a_o), (1, .ref a_q1), (2, .int v2_j112), (3, .int v3_j112)] → W p l e (rmd 8) s m aa below meth cd H locs 0 0 QQ (F0 m 112 ls []) := by
    intro v2_j112 v3_j112 o_depth_j112 o_tokens_place_j112 o_tokens_next_j112 o_tokens_sort_j112 o_tokens_value_j112 o_tokens_code_j112 o_tokens_fault_j112 o_tokens_faultPlace_j112 o_steps_many_j112 o_steps_cells_j112 o_opened_j112 H locs ls hf hP hD hS hl
    unfold X10_takeStep_j112 at hf
    refine lv_aload_n hx hb dX10_takeStep_112 rfl (lv_at hl 0 rfl) ?_
    refine va_get (D := E.1) (ci := 10) (v := .ref a_o_tokens) (C := RX10) (T := TX10) (N := 4) hx hb hts inX10 hown hK hP 0 rfl rfl 0 (by decide) (hts _ fl_X10_22) (fun _ h9 => h9) rfl dX10_takeStep_113 ?_
    refine va_get (D := E.1) (ci := 8) (v := .int o_tokens_fault_j112) (C := RX8) (T := TX8) (N := 10) hx hb hts inX8 hown hK hP 1 rfl rfl 8 (by decide) (hts _ fl_X10_50) (fun _ h9 => h9) rfl dX10_takeStep_116 ?_
    refine lv_if_eq (tgt := 123) hx hb dX10_takeStep_119 (by decide) (fun hc => ?_) (fun hc => ?_)
    · have hf := it_t hc hf
      refine lv_aload_n hx hb dX10_takeStep_123 rfl (lv_at hl 0 rfl) ?_
      refine va_get (D := E.1) (ci := 10) (v := .ref a_o_steps) (C := RX10) (T := TX10) (N := 4) hx hb hts inX10 hown hK hP 0 rfl rfl 1 (by decide) (hts _ fl_X10_14) (fun _ h9 => h9) rfl dX10_takeStep_124 ?_
      obtain ⟨u127, hu127, hf⟩ := bd hf
      refine callVI (wn := (wd_X10_takeStep E a_o a_o_tokens a_o_steps a_o_opened a_o_tokens_text a_o_steps_cells a_q1 a_q1_codes a_q1_sorts a_q1_numbers o_depth_j112 o_tokens_held o_tokens_length o_tokens_place_j112 o_tokens_next_j112 o_tokens_sort_j112 o_tokens_value_j112 o_tokens_code_j112 o_tokens_fault_j112 o_tokens_faultPlace_j112 o_tokens_text u127.2.1 u127.2.2 o_opened_j112 q1_many q1_codes q1_sorts q1_numbers)) (n1 := 10) (ct_X7_add l E F a_o_steps a_o_steps_cells 180 6 o_steps_many_j112 o_steps_cells_j112 u127 hu127) [3, 4] cal_X7_add cav_X7_add lk_X10_72 cx hP hD hS hl dX10_takeStep_127 rfl rfl rfl rfl (Nat.le_of_ble_eq_true rfl) ⟨Nat.le_of_ble_eq_true rfl, Nat.le_of_ble_eq_true rfl⟩ rfl (by decide +kernel) rfl [none, none, none, some 0, some 1, none, none, none, none, none] rfl (by decide +kernel) rfl (fun H locs hP hD hS => ?_)
      refine lv_istore (lv' := [(4, .int u127.1), (0, .ref a_o), (1, .ref a_q1), (2, .int v2_j112), (3, .int v3_j112)]) hx hb dX10_takeStep_130 hl (by decide) rfl (fun ls hl => ?_)
      refine lv_aload_n hx hb dX10_takeStep_132 rfl (lv_at hl 1 rfl) ?_
      refine va_get (D := E.1) (ci := 10) (v := .ref a_o_steps) (C := RX10) (T := TX10) (N := 4) hx hb hts inX10 hown hK hP 0 rfl rfl 1 (by decide) (hts _ fl_X10_14) (fun _ h9 => h9) rfl dX10_takeStep_133 ?_
      refine lv_iload hx hb dX10_takeStep_136 (lv_at hl 0 rfl) ?_
      refine lv_iconst (v := 0) hx hb dX10_takeStep_138 (by decide) ?_
      refine lv_iload_n hx hb dX10_takeStep_139 rfl (lv_at hl 3 rfl) ?_
      obtain ⟨u140, hu140, hf⟩ := bd hf
      refine callVV (wn := (wd_X10_takeStep E a_o a_o_tokens a_o_steps a_o_opened a_o_tokens_text a_o_steps_cells a_q1 a_q1_codes a_q1_sorts a_q1_numbers o_depth_j112 o_tokens_held o_tokens_length o_tokens_place_j112 o_tokens_next_j112 o_tokens_sort_j112 o_tokens_value_j112 o_tokens_code_j112 o_tokens_fault_j112 o_tokens_faultPlace_j112 o_tokens_text u127.2.1 u140 o_opened_j112 q1_many q1_codes q1_sorts q1_numbers)) (n1 := 10) (ct_X7_set l E a_o_steps a_o_steps_cells 180 6 u127.2.1 u127.2.2 u127.1 (0 : Int32) v2_j112 u140 hu140) [3, 4] cal_X7_set cav_X7_set lk_X10_76 cx hP hD hS hl dX10_takeStep_140 rfl rfl rfl rfl (Nat.le_of_ble_eq_true rfl) ⟨Nat.le_of_ble_eq_true rfl, Nat.le_of_ble_eq_true rfl⟩ rfl (by decide +kernel) rfl [none, none, none, some 0, some 1, none, none, none, none, none] rfl (by decide +kernel) rfl (fun H locs hP hD hS => ?_)
      refine lv_aload_n hx hb dX10_takeStep_143 rfl (lv_at hl 1 rfl) ?_
      refine va_get (D := E.1) (ci := 10) (v := .ref a_o_tokens) (C := RX10) (T := TX10) (N := 4) hx hb hts inX10 hown hK hP 0 rfl rfl 0 (by decide) (hts _ fl_X10_22) (fun _ h9 => h9) rfl dX10_takeStep_144 ?_
      obtain ⟨u147, hu147, hf⟩ := bd hf
      refine callVV (wn := (wd_X10_takeStep E a_o a_o_tokens a_o_steps a_o_opened a_o_tokens_text a_o_steps_cells a_q1 a_q1_codes a_q1_sorts a_q1_numbers o_depth_j112 o_tokens_held o_tokens_length u147.1 u147.2.1 u147.2.2.1 u147.2.2.2.1 u147.2.2.2.2 o_tokens_fault_j112 o_tokens_faultPlace_j112 o_tokens_text u127.2.1 u140 o_opened_j112 q1_many q1_codes q1_sorts q1_numbers)) (n1 := 10) (ct_X8_advance l E F a_o_tokens a_o_tokens_text o_tokens_held o_tokens_length o_tokens_place_j112 o_tokens_next_j112 o_tokens_sort_j112 o_tokens_value_j112 o_tokens_code_j112 o_tokens_fault_j112 o_tokens_faultPlace_j112 o_tokens_text u147 hu147) [1, 2] cal_X8_advance cav_X8_advance lk_X10_80 cx hP hD hS hl dX10_takeStep_147 rfl rfl rfl rfl (Nat.le_of_ble_eq_true rfl) ⟨Nat.le_of_ble_eq_true rfl, Nat.le_of_ble_eq_true rfl⟩ rfl (by decide +kernel) rfl [none, some 0, some 1, none, none, none, none, none, none, none] rfl (by decide +kernel) rfl (fun H locs hP hD hS => ?_)
      refine lv_iload_n hx hb dX10_takeStep_150 rfl (lv_at hl 3 rfl) ?_
      refine lv_bipush (v := 18) hx hb dX10_takeStep_151 (by decide) ?_
      refine lv_icmp_ne (tgt := 166) hx hb dX10_takeStep_153 (by decide) (fun hc => ?_) (fun hc => ?_)
      · have hf := it_f hc hf
        refine lv_aload_n hx hb dX10_takeStep_166 rfl (lv_at hl 1 rfl) ?_
        refine lv_iload hx hb dX10_takeStep_167 (lv_at hl 0 rfl) ?_
        refine lv_iload_n hx hb dX10_takeStep_169 rfl (lv_at hl 3 rfl) ?_
        refine lv_aload_n hx hb dX10_takeStep_170 rfl (lv_at hl 2 rfl) ?_
        obtain ⟨u171, hu171, hf⟩ := bd hf
        refine callVV (wn := (wd_X10_takeStep E a_o a_o_tokens a_o_steps a_o_opened a_o_tokens_text a_o_steps_cells a_q1 a_q1_codes a_q1_sorts a_q1_numbers o_depth_j112 o_tokens_held o_tokens_length u171.1 u171.2.1 u171.2.2.1 u171.2.2.2.1 u171.2.2.2.2.1 u171.2.2.2.2.2.1 u171.2.2.2.2.2.2.1 o_tokens_text u127.2.1 u171.2.2.2.2.2.2.2 o_opened_j112 q1_many q1_codes q1_sorts q1_numbers)) (n1 := 10) (ct_X10_takeRest l E F a_o a_o_tokens a_o_steps a_o_opened a_o_tokens_text a_o_steps_cells a_q1 a_q1_codes a_q1_sorts a_q1_numbers o_depth_j112 o_tokens_held o_tokens_length u147.1 u147.2.1 u147.2.2.1 u147.2.2.2.1 u147.2.2.2.2 o_tokens_fault_j112 o_tokens_faultPlace_j112 o_tokens_text u127.2.1 u140 q1_many q1_codes q1_sorts q1_numbers u127.1 v2_j112 u171 hu171) [0, 1, 2, 3, 4, 6, 7, 8, 9] cal_X10_takeRest cav_X10_takeRest lk_X10_87 cx hP hD hS hl dX10_takeStep_171 rfl rfl rfl rfl (Nat.le_of_ble_eq_true rfl) ⟨Nat.le_of_ble_eq_true rfl, Nat.le_of_ble_eq_true rfl⟩ rfl (by decide +kernel) rfl [some 0, some 1, some 2, some 3, some 4, none, some 5, some 6, some 7, some 8] rfl (by decide +kernel) rfl (fun H locs hP hD hS => ?_)
        exact hj174 _ _ _ _ _ _ _ _ _ _ _ _ _ _ _ _ hf hP hD hS (lv_sub hl [1, 4, 0] rfl)
      · have hf := it_t hc hf
        refine lv_aload_n hx hb dX10_takeStep_156 rfl (lv_at hl 1 rfl) ?_
        refine lv_iload hx hb dX10_takeStep_157 (lv_at hl 0 rfl) ?_
        refine lv_aload_n hx hb dX10_takeStep_159 rfl (lv_at hl 2 rfl) ?_
        obtain ⟨u160, hu160, hf⟩ := bd hf
        refine callVV (wn := (wd_X10_takeStep E a_o a_o_tokens a_o_steps a_o_opened a_o_tokens_text a_o_steps_cells a_q1 a_q1_codes a_q1_sorts a_q1_numbers o_depth_j112 o_tokens_held o_tokens_length u160.1 u160.2.1 u160.2.2.1 u160.2.2.2.1 u160.2.2.2.2.1 u160.2.2.2.2.2.1 u160.2.2.2.2.2.2.1 o_tokens_text u127.2.1 u160.2.2.2.2.2.2.2 o_opened_j112 q1_many q1_codes q1_sorts q1_numbers)) (n1 := 10) (ct_X10_takeTest l E F a_o a_o_tokens a_o_steps a_o_opened a_o_tokens_text a_o_steps_cells a_q1 a_q1_codes a_q1_sorts a_q1_numbers o_depth_j112 o_tokens_held o_tokens_length u147.1 u147.2.1 u147.2.2.1 u147.2.2.2.1 u147.2.2.2.2 o_tokens_fault_j112 o_tokens_faultPlace_j112 o_tokens_text u127.2.1 u140 q1_many q1_codes q1_sorts q1_numbers u127.1 u160 hu160) [0, 1, 2, 3, 4, 6, 7, 8, 9] cal_X10_takeTest cav_X10_takeTest lk_X10_83 cx hP hD hS hl dX10_takeStep_160 rfl rfl rfl rfl (Nat.le_of_ble_eq_true rfl) ⟨Nat.le_of_ble_eq_true rfl, Nat.le_of_ble_eq_true rfl⟩ rfl (by decide +kernel) rfl [some 0, some 1, some 2, some 3, some 4, none, some 5, some 6, some 7, some 8] rfl (by decide +kernel) rfl (fun H locs hP hD hS => ?_)
        refine lv_goto (tgt := 174) hx hb dX10_takeStep_163 (by decide) ?_
        exact hj174 _ _ _ _ _ _ _ _ _ _ _ _ _ _ _ _ hf hP hD hS (lv_sub hl [1, 4, 0] rfl)
    · have hf := it_f hc hf
      obtain rfl := Option.some.inj hf
      subst hq
      exact retV cx hP hD hS dX10_takeStep_122
  have hj51 : ∀ (v2_j51 : Int32) (o_depth_j51 : Int32) (o_tokens_place_j51 : Int32) (o_tokens_next_j51 : Int32) (o_tokens_sort_j51 : Int32) (o_tokens_value_j51 : Int32) (o_tokens_code_j51 : Int64) (o_tokens_fault_j51 : Int32) (o_tokens_faultPlace_j51 : Int32) (o_steps_many_j51 : Int32) (o_steps_cells_j51 : Nat → Int32) (o_opened_j51 : Nat → Int32) (k0_j51 : Int32) (H : Heap) (locs : List Loc) (ls : Array Slot), X10_takeStep_j51 F o_depth_j51 o_tokens_length o_tokens_place_j51 o_tokens_next_j51 o_tokens_sort_j51 o_tokens_value_j51 o_tokens_code_j51 o_tokens_fault_j51 o_tokens_faultPlace_j51 o_tokens_text o_steps_many_j51 o_steps_cells_j51 o_opened_j51 q1_many q1_codes q1_sorts q1_numbers v2_j51 k0_j51 = some u → va_P E.1 vwCl (wd_X10_takeStep E a_o a_o_tokens a_o_steps a_o_opened a_o_tokens_text a_o_steps_cells a_q1 a_q1_codes a_q1_sorts a_q1_numbers o_depth_j51 o_tokens_held o_tokens_length o_tokens_place_j51 o_tokens_next_j51 o_tokens_sort_j51 o_tokens_value_j51 o_tokens_code_j51 o_tokens_fault_j51 o_tokens_faultPlace_j51 o_tokens_text o_steps_many_j51 o_steps_cells_j51 o_opened_j51 q1_many q1_codes q1_sorts q1_numbers) H → va_D A (wd_X10_takeStep E a_o a_o_tokens a_o_steps a_o_opened a_o_tokens_text a_o_steps_cells a_q1 a_q1_codes a_q1_sorts a_q1_numbers o_depth_j51 o_tokens_held o_tokens_length o_tokens_place_j51 o_tokens_next_j51 o_tokens_sort_j51 o_tokens_value_j51 o_tokens_code_j51 o_tokens_fault_j51 o_tokens_faultPlace_j51 o_tokens_text o_steps_many_j51 o_steps_cells_j51 o_opened_j51 q1_many q1_codes q1_sorts q1_numbers) → va_S A s.heap H locs → lv_has ls 5 [(0, .ref a_o), (1, .ref a_q1), (2, .int v2_j51)] → W p l e (rmd 8) s m aa below meth cd H locs 0 0 QQ (F0 m 51 ls [.int k0_j51]) := by
    intro v2_j51 o_depth_j51 o_tokens_place_j51 o_tokens_next_j51 o_tokens_sort_j51 o_tokens_value_j51 o_tokens_code_j51 o_tokens_fault_j51 o_tokens_faultPlace_j51 o_steps_many_j51 o_steps_cells_j51 o_opened_j51 k0_j51 H locs ls hf hP hD hS hl
    unfold X10_takeStep_j51 at hf
    refine lv_istore_n (lv' := [(3, .int k0_j51), (0, .ref a_o), (1, .ref a_q1), (2, .int v2_j51)]) hx hb dX10_takeStep_51 rfl hl (by decide) rfl (fun ls hl => ?_)
    refine lv_iload_n hx hb dX10_takeStep_52 rfl (lv_at hl 3 rfl) ?_
    obtain ⟨u53, hu53, hf⟩ := bd hf
    refine keepSI (ct_X10_isStep l E v2_j51 u53 hu53) [] cal_X10_isStep sta_X10_isStep lk_X10_62 cx hP hD hS hl dX10_takeStep_53 rfl rfl (Nat.le_of_ble_eq_true rfl) ⟨Nat.le_of_ble_eq_true rfl, Nat.le_of_ble_eq_true rfl⟩ rfl (by decide) (fun H locs hP hS => ?_)
    refine lv_if_ne (tgt := 69) hx hb dX10_takeStep_56 (by decide) (fun hc => ?_) (fun hc => ?_)
    · have hf := it_f hc hf
      refine lv_aload_n hx hb dX10_takeStep_69 rfl (lv_at hl 1 rfl) ?_
      refine va_get (D := E.1) (ci := 10) (v := .ref a_o_steps) (C := RX10) (T := TX10) (N := 4) hx hb hts inX10 hown hK hP 0 rfl rfl 1 (by decide) (hts _ fl_X10_14) (fun _ h9 => h9) rfl dX10_takeStep_70 ?_
      obtain ⟨u73, hu73, hf⟩ := bd hf
      refine keepVI (ct_X7_isFull l E a_o_steps a_o_steps_cells 180 6 o_steps_many_j51 o_steps_cells_j51 u73 hu73) [3, 4] cal_X7_isFull cav_X7_isFull lk_X10_69 cx hP hD hS hl dX10_takeStep_73 rfl rfl rfl rfl (Nat.le_of_ble_eq_true rfl) ⟨Nat.le_of_ble_eq_true rfl, Nat.le_of_ble_eq_true rfl⟩ rfl (by decide) (fun H locs hP hS => ?_)
      refine lv_if_eq (tgt := 91) hx hb dX10_takeStep_76 (by decide) (fun hc => ?_) (fun hc => ?_)
      · have hf := it_t hc hf
        refine lv_iload_n hx hb dX10_takeStep_91 rfl (lv_at hl 0 rfl) ?_
        refine lv_if_eq (tgt := 112) hx hb dX10_takeStep_92 (by decide) (fun hc => ?_) (fun hc => ?_)
        · have hf := it_t hc hf
          exact hj112 _ _ _ _ _ _ _ _ _ _ _ _ _ _ _ _ hf hP hD hS (lv_sub hl [1, 2, 3, 0] rfl)
        · have hf := it_f hc hf
          refine lv_aload_n hx hb dX10_takeStep_95 rfl (lv_at hl 1 rfl) ?_
          refine va_get (D := E.1) (ci := 10) (v := .int o_depth_j51) (C := RX10) (T := TX10) (N := 4) hx hb hts inX10 hown hK hP 0 rfl rfl 3 (by decide) (hts _ fl_X10_30) (fun _ h9 => h9) rfl dX10_takeStep_96 ?_
          refine lv_iconst (v := 3) hx hb dX10_takeStep_99 (by decide) ?_
          refine lv_icmp_lt (tgt := 112) hx hb dX10_takeStep_100 (by decide) (fun hc => ?_) (fun hc => ?_)
          · have hf := it_t hc hf
            exact hj112 _ _ _ _ _ _ _ _ _ _ _ _ _ _ _ _ hf hP hD hS (lv_sub hl [1, 2, 3, 0] rfl)
          · have hf := it_f hc hf
            refine lv_aload_n hx hb dX10_takeStep_103 rfl (lv_at hl 1 rfl) ?_
            refine va_get (D := E.1) (ci := 10) (v := .ref a_o_tokens) (C := RX10) (T := TX10) (N := 4) hx hb hts inX10 hown hK hP 0 rfl rfl 0 (by decide) (hts _ fl_X10_22) (fun _ h9 => h9) rfl dX10_takeStep_104 ?_
            refine lv_bipush (v := 7) hx hb dX10_takeStep_107 (by decide) ?_
            obtain ⟨u109, hu109, hf⟩ := bd hf
            refine callVV (wn := (wd_X10_takeStep E a_o a_o_tokens a_o_steps a_o_opened a_o_tokens_text a_o_steps_cells a_q1 a_q1_codes a_q1_sorts a_q1_numbers o_depth_j51 o_tokens_held o_tokens_length o_tokens_place_j51 o_tokens_next_j51 o_tokens_sort_j51 o_tokens_value_j51 o_tokens_code_j51 u109.1 u109.2 o_tokens_text o_steps_many_j51 o_steps_cells_j51 o_opened_j51 q1_many q1_codes q1_sorts q1_numbers)) (n1 := 10) (ct_X8_fail l E a_o_tokens a_o_tokens_text o_tokens_held o_tokens_length o_tokens_place_j51 o_tokens_next_j51 o_tokens_sort_j51 o_tokens_value_j51 o_tokens_code_j51 o_tokens_fault_j51 o_tokens_faultPlace_j51 (7 : Int32) u109 hu109) [1] cal_X8_fail cav_X8_fail lk_X10_47 cx hP hD hS hl dX10_takeStep_109 rfl rfl rfl rfl (Nat.le_of_ble_eq_true rfl) ⟨Nat.le_of_ble_eq_true rfl, Nat.le_of_ble_eq_true rfl⟩ rfl (by decide +kernel) rfl [none, some 0, none, none, none, none, none, none, none, none] rfl (by decide +kernel) rfl (fun H locs hP hD hS => ?_)
            exact hj112 _ _ _ _ _ _ _ _ _ _ _ _ _ _ _ _ hf hP hD hS (lv_sub hl [1, 2, 3, 0] rfl)
      · have hf := it_f hc hf
        refine lv_aload_n hx hb dX10_takeStep_79 rfl (lv_at hl 1 rfl) ?_
        refine va_get (D := E.1) (ci := 10) (v := .ref a_o_tokens) (C := RX10) (T := TX10) (N := 4) hx hb hts inX10 hown hK hP 0 rfl rfl 0 (by decide) (hts _ fl_X10_22) (fun _ h9 => h9) rfl dX10_takeStep_80 ?_
        refine lv_bipush (v := 6) hx hb dX10_takeStep_83 (by decide) ?_
        obtain ⟨u85, hu85, hf⟩ := bd hf
        refine callVV (wn := (wd_X10_takeStep E a_o a_o_tokens a_o_steps a_o_opened a_o_tokens_text a_o_steps_cells a_q1 a_q1_codes a_q1_sorts a_q1_numbers o_depth_j51 o_tokens_held o_tokens_length o_tokens_place_j51 o_tokens_next_j51 o_tokens_sort_j51 o_tokens_value_j51 o_tokens_code_j51 u85.1 u85.2 o_tokens_text o_steps_many_j51 o_steps_cells_j51 o_opened_j51 q1_many q1_codes q1_sorts q1_numbers)) (n1 := 10) (ct_X8_fail l E a_o_tokens a_o_tokens_text o_tokens_held o_tokens_length o_tokens_place_j51 o_tokens_next_j51 o_tokens_sort_j51 o_tokens_value_j51 o_tokens_code_j51 o_tokens_fault_j51 o_tokens_faultPlace_j51 (6 : Int32) u85 hu85) [1] cal_X8_fail cav_X8_fail lk_X10_47 cx hP hD hS hl dX10_takeStep_85 rfl rfl rfl rfl (Nat.le_of_ble_eq_true rfl) ⟨Nat.le_of_ble_eq_true rfl, Nat.le_of_ble_eq_true rfl⟩ rfl (by decide +kernel) rfl [none, some 0, none, none, none, none, none, none, none, none] rfl (by decide +kernel) rfl (fun H locs hP hD hS => ?_)
        refine lv_goto (tgt := 112) hx hb dX10_takeStep_88 (by decide) ?_
        exact hj112 _ _ _ _ _ _ _ _ _ _ _ _ _ _ _ _ hf hP hD hS (lv_sub hl [1, 2, 3, 0] rfl)
    · have hf := it_t hc hf
      refine lv_aload_n hx hb dX10_takeStep_59 rfl (lv_at hl 1 rfl) ?_
      refine va_get (D := E.1) (ci := 10) (v := .ref a_o_tokens) (C := RX10) (T := TX10) (N := 4) hx hb hts inX10 hown hK hP 0 rfl rfl 0 (by decide) (hts _ fl_X10_22) (fun _ h9 => h9) rfl dX10_takeStep_60 ?_
      obtain ⟨u63, hu63, hf⟩ := bd hf
      refine callVV (wn := (wd_X10_takeStep E a_o a_o_tokens a_o_steps a_o_opened a_o_tokens_text a_o_steps_cells a_q1 a_q1_codes a_q1_sorts a_q1_numbers o_depth_j51 o_tokens_held o_tokens_length o_tokens_place_j51 o_tokens_next_j51 o_tokens_sort_j51 o_tokens_value_j51 o_tokens_code_j51 u63.1 u63.2 o_tokens_text o_steps_many_j51 o_steps_cells_j51 o_opened_j51 q1_many q1_codes q1_sorts q1_numbers)) (n1 := 10) (ct_X8_failHere l E a_o_tokens a_o_tokens_text o_tokens_held o_tokens_length o_tokens_place_j51 o_tokens_next_j51 o_tokens_sort_j51 o_tokens_value_j51 o_tokens_code_j51 o_tokens_fault_j51 o_tokens_faultPlace_j51 u63 hu63) [1] cal_X8_failHere cav_X8_failHere lk_X10_66 cx hP hD hS hl dX10_takeStep_63 rfl rfl rfl rfl (Nat.le_of_ble_eq_true rfl) ⟨Nat.le_of_ble_eq_true rfl, Nat.le_of_ble_eq_true rfl⟩ rfl (by decide +kernel) rfl [none, some 0, none, none, none, none, none, none, none, none] rfl (by decide +kernel) rfl (fun H locs hP hD hS => ?_)
      refine lv_goto (tgt := 112) hx hb dX10_takeStep_66 (by decide) ?_
      exact hj112 _ _ _ _ _ _ _ _ _ _ _ _ _ _ _ _ hf hP hD hS (lv_sub hl [1, 2, 3, 0] rfl)
  have hj46 : ∀ (v2_j46 : Int32) (o_depth_j46 : Int32) (o_tokens_place_j46 : Int32) (o_tokens_next_j46 : Int32) (o_tokens_sort_j46 : Int32) (o_tokens_value_j46 : Int32) (o_tokens_code_j46 : Int64) (o_tokens_fault_j46 : Int32) (o_tokens_faultPlace_j46 : Int32) (o_steps_many_j46 : Int32) (o_steps_cells_j46 : Nat → Int32) (o_opened_j46 : Nat → Int32) (H : Heap) (locs : List Loc) (ls : Array Slot), X10_takeStep_j46 F o_depth_j46 o_tokens_length o_tokens_place_j46 o_tokens_next_j46 o_tokens_sort_j46 o_tokens_value_j46 o_tokens_code_j46 o_tokens_fault_j46 o_tokens_faultPlace_j46 o_tokens_text o_steps_many_j46 o_steps_cells_j46 o_opened_j46 q1_many q1_codes q1_sorts q1_numbers v2_j46 = some u → va_P E.1 vwCl (wd_X10_takeStep E a_o a_o_tokens a_o_steps a_o_opened a_o_tokens_text a_o_steps_cells a_q1 a_q1_codes a_q1_sorts a_q1_numbers o_depth_j46 o_tokens_held o_tokens_length o_tokens_place_j46 o_tokens_next_j46 o_tokens_sort_j46 o_tokens_value_j46 o_tokens_code_j46 o_tokens_fault_j46 o_tokens_faultPlace_j46 o_tokens_text o_steps_many_j46 o_steps_cells_j46 o_opened_j46 q1_many q1_codes q1_sorts q1_numbers) H → va_D A (wd_X10_takeStep E a_o a_o_tokens a_o_steps a_o_opened a_o_tokens_text a_o_steps_cells a_q1 a_q1_codes a_q1_sorts a_q1_numbers o_depth_j46 o_tokens_held o_tokens_length o_tokens_place_j46 o_tokens_next_j46 o_tokens_sort_j46 o_tokens_value_j46 o_tokens_code_j46 o_tokens_fault_j46 o_tokens_faultPlace_j46 o_tokens_text o_steps_many_j46 o_steps_cells_j46 o_opened_j46 q1_many q1_codes q1_sorts q1_numbers) → va_S A s.heap H locs → lv_has ls 5 [(0, .ref a_o), (1, .ref a_q1), (2, .int v2_j46)] → W p l e (rmd 8) s m aa below meth cd H locs 0 0 QQ (F0 m 46 ls []) := by
    intro v2_j46 o_depth_j46 o_tokens_place_j46 o_tokens_next_j46 o_tokens_sort_j46 o_tokens_value_j46 o_tokens_code_j46 o_tokens_fault_j46 o_tokens_faultPlace_j46 o_steps_many_j46 o_steps_cells_j46 o_opened_j46 H locs ls hf hP hD hS hl
    unfold X10_takeStep_j46 at hf
    refine lv_iconst (v := 1) hx hb dX10_takeStep_46 (by decide) ?_
    refine lv_goto (tgt := 51) hx hb dX10_takeStep_47 (by decide) ?_
    exact hj51 _ _ _ _ _ _ _ _ _ _ _ _ _ _ _ _ hf hP hD hS (lv_sub hl [0, 1, 2] rfl)
  have hj22 : ∀ (o_depth_j22 : Int32) (o_tokens_place_j22 : Int32) (o_tokens_next_j22 : Int32) (o_tokens_sort_j22 : Int32) (o_tokens_value_j22 : Int32) (o_tokens_code_j22 : Int64) (o_tokens_fault_j22 : Int32) (o_tokens_faultPlace_j22 : Int32) (o_steps_many_j22 : Int32) (o_steps_cells_j22 : Nat → Int32) (o_opened_j22 : Nat → Int32) (k0_j22 : Int32) (H : Heap) (locs : List Loc) (ls : Array Slot), X10_takeStep_j22 F o_depth_j22 o_tokens_length o_tokens_place_j22 o_tokens_next_j22 o_tokens_sort_j22 o_tokens_value_j22 o_tokens_code_j22 o_tokens_fault_j22 o_tokens_faultPlace_j22 o_tokens_text o_steps_many_j22 o_steps_cells_j22 o_opened_j22 q1_many q1_codes q1_sorts q1_numbers k0_j22 = some u → va_P E.1 vwCl (wd_X10_takeStep E a_o a_o_tokens a_o_steps a_o_opened a_o_tokens_text a_o_steps_cells a_q1 a_q1_codes a_q1_sorts a_q1_numbers o_depth_j22 o_tokens_held o_tokens_length o_tokens_place_j22 o_tokens_next_j22 o_tokens_sort_j22 o_tokens_value_j22 o_tokens_code_j22 o_tokens_fault_j22 o_tokens_faultPlace_j22 o_tokens_text o_steps_many_j22 o_steps_cells_j22 o_opened_j22 q1_many q1_codes q1_sorts q1_numbers) H → va_D A (wd_X10_takeStep E a_o a_o_tokens a_o_steps a_o_opened a_o_tokens_text a_o_steps_cells a_q1 a_q1_codes a_q1_sorts a_q1_numbers o_depth_j22 o_tokens_held o_tokens_length o_tokens_place_j22 o_tokens_next_j22 o_tokens_sort_j22 o_tokens_value_j22 o_tokens_code_j22 o_tokens_fault_j22 o_tokens_faultPlace_j22 o_tokens_text o_steps_many_j22 o_steps_cells_j22 o_opened_j22 q1_many q1_codes q1_sorts q1_numbers) → va_S A s.heap H locs → lv_has ls 5 [(0, .ref a_o), (1, .ref a_q1)] → W p l e (rmd 8) s m aa below meth cd H locs 0 0 QQ (F0 m 22 ls [.int k0_j22]) := by
    intro o_depth_j22 o_tokens_place_j22 o_tokens_next_j22 o_tokens_sort_j22 o_tokens_value_j22 o_tokens_code_j22 o_tokens_fault_j22 o_tokens_faultPlace_j22 o_steps_many_j22 o_steps_cells_j22 o_opened_j22 k0_j22 H locs ls hf hP hD hS hl
    unfold X10_takeStep_j22 at hf
    refine lv_istore_n (lv' := [(2, .int k0_j22), (0, .ref a_o), (1, .ref a_q1)]) hx hb dX10_takeStep_22 rfl hl (by decide) rfl (fun ls hl => ?_)
    refine lv_iload_n hx hb dX10_takeStep_23 rfl (lv_at hl 0 rfl) ?_
    refine lv_bipush (v := 24) hx hb dX10_takeStep_24 (by decide) ?_
    refine lv_icmp_ne (tgt := 34) hx hb dX10_takeStep_26 (by decide) (fun hc => ?_) (fun hc => ?_)
    · have hf := it_f hc hf
      refine lv_iload_n hx hb dX10_takeStep_34 rfl (lv_at hl 0 rfl) ?_
      refine lv_bipush (v := 18) hx hb dX10_takeStep_35 (by decide) ?_
      refine lv_icmp_eq (tgt := 46) hx hb dX10_takeStep_37 (by decide) (fun hc => ?_) (fun hc => ?_)
      · have hf := it_t hc hf
        exact hj46 _ _ _ _ _ _ _ _ _ _ _ _ _ _ _ hf hP hD hS (lv_sub hl [1, 2, 0] rfl)
      · have hf := it_f hc hf
        refine lv_iload_n hx hb dX10_takeStep_40 rfl (lv_at hl 0 rfl) ?_
        refine lv_bipush (v := 23) hx hb dX10_takeStep_41 (by decide) ?_
        refine lv_icmp_ne (tgt := 50) hx hb dX10_takeStep_43 (by decide) (fun hc => ?_) (fun hc => ?_)
        · have hf := it_f hc hf
          refine lv_iconst (v := 0) hx hb dX10_takeStep_50 (by decide) ?_
          exact hj51 _ _ _ _ _ _ _ _ _ _ _ _ _ _ _ _ hf hP hD hS (lv_sub hl [1, 2, 0] rfl)
        · have hf := it_t hc hf
          exact hj46 _ _ _ _ _ _ _ _ _ _ _ _ _ _ _ hf hP hD hS (lv_sub hl [1, 2, 0] rfl)
    · have hf := it_t hc hf
      refine lv_aload_n hx hb dX10_takeStep_29 rfl (lv_at hl 1 rfl) ?_
      obtain ⟨u30, hu30, hf⟩ := bd hf
      refine callVV (wn := (wd_X10_takeStep E a_o a_o_tokens a_o_steps a_o_opened a_o_tokens_text a_o_steps_cells a_q1 a_q1_codes a_q1_sorts a_q1_numbers u30.1 o_tokens_held o_tokens_length u30.2.1 u30.2.2.1 u30.2.2.2.1 u30.2.2.2.2.1 u30.2.2.2.2.2.1 u30.2.2.2.2.2.2.1 u30.2.2.2.2.2.2.2.1 o_tokens_text o_steps_many_j22 u30.2.2.2.2.2.2.2.2 o_opened_j22 q1_many q1_codes q1_sorts q1_numbers)) (n1 := 10) (ct_X10_takeClose l E F a_o a_o_tokens a_o_steps a_o_opened a_o_tokens_text a_o_steps_cells o_depth_j22 o_tokens_held o_tokens_length o_tokens_place_j22 o_tokens_next_j22 o_tokens_sort_j22 o_tokens_value_j22 o_tokens_code_j22 o_tokens_fault_j22 o_tokens_faultPlace_j22 o_tokens_text o_steps_many_j22 o_steps_cells_j22 o_opened_j22 u30 hu30) [0, 1, 2, 3, 4, 5] cal_X10_takeClose cav_X10_takeClose lk_X10_59 cx hP hD hS hl dX10_takeStep_30 rfl rfl rfl rfl (Nat.le_of_ble_eq_true rfl) ⟨Nat.le_of_ble_eq_true rfl, Nat.le_of_ble_eq_true rfl⟩ rfl (by decide +kernel) rfl [some 0, some 1, some 2, some 3, some 4, some 5, none, none, none, none] rfl (by decide +kernel) rfl (fun H locs hP hD hS => ?_)
      obtain rfl := Option.some.inj hf
      subst hq
      exact retV cx hP hD hS dX10_takeStep_33
  unfold X10_takeStep at hf
  refine lv_aload_n hx hb dX10_takeStep_0 rfl (lv_at hl 0 rfl) ?_
  refine va_get (D := E.1) (ci := 10) (v := .ref a_o_tokens) (C := RX10) (T := TX10) (N := 4) hx hb hts inX10 hown hK hP 0 rfl rfl 0 (by decide) (hts _ fl_X10_22) (fun _ h9 => h9) rfl dX10_takeStep_1 ?_
  refine va_get (D := E.1) (ci := 8) (v := .int o_tokens_sort) (C := RX8) (T := TX8) (N := 10) hx hb hts inX8 hown hK hP 1 rfl rfl 5 (by decide) (hts _ fl_X10_53) (fun _ h9 => h9) rfl dX10_takeStep_4 ?_
  refine lv_iconst (v := 1) hx hb dX10_takeStep_7 (by decide) ?_
  refine lv_icmp_ne (tgt := 21) hx hb dX10_takeStep_8 (by decide) (fun hc => ?_) (fun hc => ?_)
  · have hf := it_f hc hf
    refine lv_iconst (v := 0) hx hb dX10_takeStep_21 (by decide) ?_
    exact hj22 _ _ _ _ _ _ _ _ _ _ _ _ _ _ _ hf hP hD hS (lv_sub hl [0, 1] rfl)
  · have hf := it_t hc hf
    refine lv_aload_n hx hb dX10_takeStep_11 rfl (lv_at hl 0 rfl) ?_
    refine va_get (D := E.1) (ci := 10) (v := .ref a_o_tokens) (C := RX10) (T := TX10) (N := 4) hx hb hts inX10 hown hK hP 0 rfl rfl 0 (by decide) (hts _ fl_X10_22) (fun _ h9 => h9) rfl dX10_takeStep_12 ?_
    refine va_get (D := E.1) (ci := 8) (v := .int o_tokens_value) (C := RX8) (T := TX8) (N := 10) hx hb hts inX8 hown hK hP 1 rfl rfl 6 (by decide) (hts _ fl_X10_56) (fun _ h9 => h9) rfl dX10_takeStep_15 ?_
    refine lv_goto (tgt := 22) hx hb dX10_takeStep_18 (by decide) ?_
    exact hj22 _ _ _ _ _ _ _ _ _ _ _ _ _ _ _ hf hP hD hS (lv_sub hl [0, 1] rfl)
