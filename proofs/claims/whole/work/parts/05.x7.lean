theorem acp : Cond.native arraycopyName ∈ gtbl ∧ Cond.static arraycopyName ∈ gtbl ∧ Cond.initialized "java/lang/System" ∈ gtbl := ⟨gt_in 654 (by decide +kernel) rfl, gt_in 653 (by decide +kernel) rfl, gt_in 163 (by decide +kernel) rfl⟩
theorem cal_X7_get : Cal yX7_get cX7_get 4 (some .int) 2 := ⟨gt_in 992 (by decide +kernel) rfl, gt_in 153 (by decide +kernel) rfl, by decide +kernel, by decide +kernel, by decide +kernel⟩
theorem cal_X7_isFull : Cal yX7_isFull cX7_isFull 1 (some .boolean) 0 := ⟨gt_in 817 (by decide +kernel) rfl, gt_in 153 (by decide +kernel) rfl, by decide +kernel, by decide +kernel, by decide +kernel⟩
theorem cal_X7_set : Cal yX7_set cX7_set 4 none 3 := ⟨gt_in 855 (by decide +kernel) rfl, gt_in 153 (by decide +kernel) rfl, by decide +kernel, by decide +kernel, by decide +kernel⟩
theorem cav_X7_get : CalV yX7_get := ⟨gt_in 990 (by decide +kernel) rfl, gt_in 991 (by decide +kernel) rfl⟩
theorem cav_X7_isFull : CalV yX7_isFull := ⟨gt_in 815 (by decide +kernel) rfl, gt_in 816 (by decide +kernel) rfl⟩
theorem cav_X7_set : CalV yX7_set := ⟨gt_in 853 (by decide +kernel) rfl, gt_in 854 (by decide +kernel) rfl⟩
theorem fl_X7_15 : Cond.fieldLink RX7 15 RX7 (TX7 1).2.1 (TX7 1).2.2.1 ∈ gtbl := gt_in 197 (by decide +kernel) (by decide +kernel)
theorem fl_X7_19 : Cond.fieldLink RX7 19 RX7 (TX7 2).2.1 (TX7 2).2.2.1 ∈ gtbl := gt_in 198 (by decide +kernel) (by decide +kernel)
theorem fl_X7_9 : Cond.fieldLink RX7 9 RX7 (TX7 0).2.1 (TX7 0).2.2.1 ∈ gtbl := gt_in 196 (by decide +kernel) (by decide +kernel)
theorem lk_X7_22 : Cond.methodLink RX7 22 yX7_isFull ∈ gtbl := gt_in 851 (by decide +kernel) rfl
theorem lk_X7_26 : Cond.methodLink RX7 26 yX7_set ∈ gtbl := gt_in 852 (by decide +kernel) rfl
theorem lk_X7_30 : Cond.methodLink RX7 30 yX7_get ∈ gtbl := gt_in 989 (by decide +kernel) rfl
theorem lk_X7_34 : Cond.methodLink RX7 34 arraycopyName ∈ gtbl := gt_in 917 (by decide +kernel) rfl
def X7_copyFrom (n_o_cells : Nat) (n_q1_cells : Nat) (o_many : Int32) (o_cells : Nat → Int32) (q1_many : Int32) (q1_cells : Nat → Int32) : Option (Int32 × (Nat → Int32)) :=
  if (Int32.ofNat n_q1_cells) = (Int32.ofNat n_o_cells) then
  if cpok 0 0 (Int32.ofNat n_o_cells) n_q1_cells n_o_cells then
  some (q1_many, (jcpy q1_cells o_cells 0 0 (Int32.ofNat n_o_cells)))
  else none
  else
  some (o_many, o_cells)
abbrev wd_X7_copyFrom (E : vE) (a_o a_o_cells a_q1 a_q1_cells : Nat) (n_o_cells n_q1_cells : Nat) (o_width : Int32) (o_many : Int32) (o_cells : Nat → Int32) (q1_width : Int32) (q1_many : Int32) (q1_cells : Nat → Int32) : va_W := [(a_o, .inr (7, [.int o_width, .ref a_o_cells, .int o_many])), (a_o_cells, .inl (E.2.1, n_o_cells, .inl o_cells)), (a_q1, .inr (7, [.int q1_width, .ref a_q1_cells, .int q1_many])), (a_q1_cells, .inl (E.2.1, n_q1_cells, .inl q1_cells))]
set_option maxHeartbeats 4000000 in
set_option maxRecDepth 100000 in
theorem ct_X7_copyFrom (l : Launch) (E : vE) (a_o a_o_cells a_q1 a_q1_cells : Nat) (n_o_cells n_q1_cells : Nat) (o_width : Int32) (o_many : Int32) (o_cells : Nat → Int32) (q1_width : Int32) (q1_many : Int32) (q1_cells : Nat → Int32) (u : Int32 × (Nat → Int32)) (hf : X7_copyFrom n_o_cells n_q1_cells o_many o_cells q1_many q1_cells = some u) :
    CtV l yX7_copyFrom cX7_copyFrom 2 none 1 E [.ref a_o, .ref a_q1] (wd_X7_copyFrom E a_o a_o_cells a_q1 a_q1_cells n_o_cells n_q1_cells o_width o_many o_cells q1_width q1_many q1_cells) (wd_X7_copyFrom E a_o a_o_cells a_q1 a_q1_cells n_o_cells n_q1_cells o_width u.1 u.2 q1_width q1_many q1_cells) := by
  refine ctV (by decide) (Nat.le_of_ble_eq_true rfl) ?_
  intro p e s m below meth cd A ls aa QQ hq cx hP hD hS hl
  obtain ⟨⟨hx, hb, hml, hown, hts⟩, hr, hlocks, hK, hA⟩ := id cx
  have hl : lv_has ls 2 [(0, .ref a_o), (1, .ref a_q1)] := hl
  unfold X7_copyFrom at hf
  refine lv_aload_n hx hb dX7_copyFrom_0 rfl (lv_at hl 1 rfl) ?_
  refine va_get (D := E.1) (ci := 7) (v := .ref a_q1_cells) (C := RX7) (T := TX7) (N := 3) hx hb hts inX7 hown hK hP 2 rfl rfl 1 (by decide) (hts _ fl_X7_15) (fun _ h9 => h9) rfl dX7_copyFrom_1 ?_
  refine va_alen (v := (Int32.ofNat n_q1_cells)) hx hb hK hP 3 0 rfl rfl rfl dX7_copyFrom_4 ?_
  refine lv_aload_n hx hb dX7_copyFrom_5 rfl (lv_at hl 0 rfl) ?_
  refine va_get (D := E.1) (ci := 7) (v := .ref a_o_cells) (C := RX7) (T := TX7) (N := 3) hx hb hts inX7 hown hK hP 0 rfl rfl 1 (by decide) (hts _ fl_X7_15) (fun _ h9 => h9) rfl dX7_copyFrom_6 ?_
  refine va_alen (v := (Int32.ofNat n_o_cells)) hx hb hK hP 1 0 rfl rfl rfl dX7_copyFrom_9 ?_
  refine lv_icmp_ne (tgt := 39) hx hb dX7_copyFrom_10 (by decide) (fun hc => ?_) (fun hc => ?_)
  · have hf := it_f hc hf
    obtain rfl := Option.some.inj hf
    subst hq
    exact retV cx hP hD hS dX7_copyFrom_39
  · have hf := it_t hc hf
    refine lv_aload_n hx hb dX7_copyFrom_13 rfl (lv_at hl 1 rfl) ?_
    refine va_get (D := E.1) (ci := 7) (v := .ref a_q1_cells) (C := RX7) (T := TX7) (N := 3) hx hb hts inX7 hown hK hP 2 rfl rfl 1 (by decide) (hts _ fl_X7_15) (fun _ h9 => h9) rfl dX7_copyFrom_14 ?_
    refine lv_iconst (v := 0) hx hb dX7_copyFrom_17 (by decide) ?_
    refine lv_aload_n hx hb dX7_copyFrom_18 rfl (lv_at hl 0 rfl) ?_
    refine va_get (D := E.1) (ci := 7) (v := .ref a_o_cells) (C := RX7) (T := TX7) (N := 3) hx hb hts inX7 hown hK hP 0 rfl rfl 1 (by decide) (hts _ fl_X7_15) (fun _ h9 => h9) rfl dX7_copyFrom_19 ?_
    refine lv_iconst (v := 0) hx hb dX7_copyFrom_22 (by decide) ?_
    refine lv_aload_n hx hb dX7_copyFrom_23 rfl (lv_at hl 0 rfl) ?_
    refine va_get (D := E.1) (ci := 7) (v := .ref a_o_cells) (C := RX7) (T := TX7) (N := 3) hx hb hts inX7 hown hK hP 0 rfl rfl 1 (by decide) (hts _ fl_X7_15) (fun _ h9 => h9) rfl dX7_copyFrom_24 ?_
    refine va_alen (v := (Int32.ofNat n_o_cells)) hx hb hK hP 1 0 rfl rfl rfl dX7_copyFrom_27 ?_
    obtain ⟨hi, hf⟩ := ck hf
    refine r_copyi 3 1 cx hP hD hS hl rfl rfl hi lk_X7_34 acp (Nat.le_of_ble_eq_true rfl) (by decide) dX7_copyFrom_28 (fun H locs hP hD hS => ?_)
    have hP : va_P E.1 vwCl (wd_X7_copyFrom E a_o a_o_cells a_q1 a_q1_cells n_o_cells n_q1_cells o_width o_many (jcpy q1_cells o_cells 0 0 (Int32.ofNat n_o_cells)) q1_width q1_many q1_cells) H := hP
    have hD : va_D A (wd_X7_copyFrom E a_o a_o_cells a_q1 a_q1_cells n_o_cells n_q1_cells o_width o_many (jcpy q1_cells o_cells 0 0 (Int32.ofNat n_o_cells)) q1_width q1_many q1_cells) := hD
    refine lv_aload_n hx hb dX7_copyFrom_31 rfl (lv_at hl 0 rfl) ?_
    refine lv_aload_n hx hb dX7_copyFrom_32 rfl (lv_at hl 1 rfl) ?_
    refine va_get (D := E.1) (ci := 7) (v := .int q1_many) (C := RX7) (T := TX7) (N := 3) hx hb hts inX7 hown hK hP 2 rfl rfl 2 (by decide) (hts _ fl_X7_19) (fun _ h9 => h9) rfl dX7_copyFrom_33 ?_
    refine va_put (D := E.1) (ci := 7) (v := .int q1_many) (ty := .int) (C := RX7) (T := TX7) (N := 3) hx hb hts inX7 tyX7 tyX7_ok nmX7 hown hK hP hD hS 0 rfl rfl 2 (by decide) (hts _ fl_X7_19) (fun _ h9 => h9) rfl (by decide +kernel) rfl rfl (Nat.le_of_ble_eq_true rfl) dX7_copyFrom_36 (fun H locs hP hD hS => ?_)
    have hP : va_P E.1 vwCl (wd_X7_copyFrom E a_o a_o_cells a_q1 a_q1_cells n_o_cells n_q1_cells o_width q1_many (jcpy q1_cells o_cells 0 0 (Int32.ofNat n_o_cells)) q1_width q1_many q1_cells) H := hP
    have hD : va_D A (wd_X7_copyFrom E a_o a_o_cells a_q1 a_q1_cells n_o_cells n_q1_cells o_width q1_many (jcpy q1_cells o_cells 0 0 (Int32.ofNat n_o_cells)) q1_width q1_many q1_cells) := hD
    obtain rfl := Option.some.inj hf
    subst hq
    exact retV cx hP hD hS dX7_copyFrom_39
def X7_isFull (n_o_cells : Nat) (o_width : Int32) (o_many : Int32) : Option (Int32) :=
  if ((o_many + 1) * o_width) ≤ (Int32.ofNat n_o_cells) then
  some 0
  else
  some 1
abbrev wd_X7_isFull (E : vE) (a_o a_o_cells : Nat) (n_o_cells : Nat) (o_width : Int32) (o_many : Int32) (o_cells : Nat → Int32) : va_W := [(a_o, .inr (7, [.int o_width, .ref a_o_cells, .int o_many])), (a_o_cells, .inl (E.2.1, n_o_cells, .inl o_cells))]
set_option maxHeartbeats 4000000 in
set_option maxRecDepth 100000 in
theorem ct_X7_isFull (l : Launch) (E : vE) (a_o a_o_cells : Nat) (n_o_cells : Nat) (o_width : Int32) (o_many : Int32) (o_cells : Nat → Int32) (u : Int32) (hf : X7_isFull n_o_cells o_width o_many = some u) :
    CtI l yX7_isFull cX7_isFull 1 (some .boolean) 0 E [.ref a_o] (wd_X7_isFull E a_o a_o_cells n_o_cells o_width o_many o_cells) (wd_X7_isFull E a_o a_o_cells n_o_cells o_width o_many o_cells) u := by
  refine ctI (by decide) (Nat.le_of_ble_eq_true rfl) ?_
  intro p e s m below meth cd A ls aa QQ hq cx hP hD hS hl
  obtain ⟨⟨hx, hb, hml, hown, hts⟩, hr, hlocks, hK, hA⟩ := id cx
  have hl : lv_has ls 1 [(0, .ref a_o)] := hl
  unfold X7_isFull at hf
  refine lv_aload_n hx hb dX7_isFull_0 rfl (lv_at hl 0 rfl) ?_
  refine va_get (D := E.1) (ci := 7) (v := .int o_many) (C := RX7) (T := TX7) (N := 3) hx hb hts inX7 hown hK hP 0 rfl rfl 2 (by decide) (hts _ fl_X7_19) (fun _ h9 => h9) rfl dX7_isFull_1 ?_
  refine lv_iconst (v := 1) hx hb dX7_isFull_4 (by decide) ?_
  refine lv_iadd hx hb dX7_isFull_5 ?_
  refine lv_aload_n hx hb dX7_isFull_6 rfl (lv_at hl 0 rfl) ?_
  refine va_get (D := E.1) (ci := 7) (v := .int o_width) (C := RX7) (T := TX7) (N := 3) hx hb hts inX7 hown hK hP 0 rfl rfl 0 (by decide) (hts _ fl_X7_9) (fun _ h9 => h9) rfl dX7_isFull_7 ?_
  refine lv_imul hx hb dX7_isFull_10 ?_
  refine lv_aload_n hx hb dX7_isFull_11 rfl (lv_at hl 0 rfl) ?_
  refine va_get (D := E.1) (ci := 7) (v := .ref a_o_cells) (C := RX7) (T := TX7) (N := 3) hx hb hts inX7 hown hK hP 0 rfl rfl 1 (by decide) (hts _ fl_X7_15) (fun _ h9 => h9) rfl dX7_isFull_12 ?_
  refine va_alen (v := (Int32.ofNat n_o_cells)) hx hb hK hP 1 0 rfl rfl rfl dX7_isFull_15 ?_
  refine lv_icmp_le (tgt := 23) hx hb dX7_isFull_16 (by decide) (fun hc => ?_) (fun hc => ?_)
  · have hf := it_t hc hf
    refine lv_iconst (v := 0) hx hb dX7_isFull_23 (by decide) ?_
    obtain rfl := Option.some.inj hf
    subst hq
    exact retZ cx rfl hP hD hS dX7_isFull_24
  · have hf := it_f hc hf
    refine lv_iconst (v := 1) hx hb dX7_isFull_19 (by decide) ?_
    refine lv_goto (tgt := 24) hx hb dX7_isFull_20 (by decide) ?_
    obtain rfl := Option.some.inj hf
    subst hq
    exact retZ cx rfl hP hD hS dX7_isFull_24
def X7_set (n_o_cells : Nat) (o_width : Int32) (o_many : Int32) (o_cells : Nat → Int32) (v1 : Int32) (v2 : Int32) (v3 : Int32) : Option ((Nat → Int32)) :=
  if v1 < 0 then
  some o_cells
  else
  if o_many ≤ v1 then
  some o_cells
  else
  if v2 < 0 then
  some o_cells
  else
  if o_width ≤ v2 then
  some o_cells
  else
  if ix ((v1 * o_width) + v2) n_o_cells then
  some (jput o_cells ((v1 * o_width) + v2) v3)
  else none
abbrev wd_X7_set (E : vE) (a_o a_o_cells : Nat) (n_o_cells : Nat) (o_width : Int32) (o_many : Int32) (o_cells : Nat → Int32) : va_W := [(a_o, .inr (7, [.int o_width, .ref a_o_cells, .int o_many])), (a_o_cells, .inl (E.2.1, n_o_cells, .inl o_cells))]
set_option maxHeartbeats 4000000 in
set_option maxRecDepth 100000 in
theorem ct_X7_set (l : Launch) (E : vE) (a_o a_o_cells : Nat) (n_o_cells : Nat) (o_width : Int32) (o_many : Int32) (o_cells : Nat → Int32) (v1 : Int32) (v2 : Int32) (v3 : Int32) (u : (Nat → Int32)) (hf : X7_set n_o_cells o_width o_many o_cells v1 v2 v3 = some u) :
    CtV l yX7_set cX7_set 4 none 0 E [.ref a_o, .int v1, .int v2, .int v3] (wd_X7_set E a_o a_o_cells n_o_cells o_width o_many o_cells) (wd_X7_set E a_o a_o_cells n_o_cells o_width o_many u) := by
  refine ctV (by decide) (Nat.le_of_ble_eq_true rfl) ?_
  intro p e s m below meth cd A ls aa QQ hq cx hP hD hS hl
  obtain ⟨⟨hx, hb, hml, hown, hts⟩, hr, hlocks, hK, hA⟩ := id cx
  have hl : lv_has ls 4 [(0, .ref a_o), (1, .int v1), (2, .int v2), (3, .int v3)] := hl
  unfold X7_set at hf
  refine lv_iload_n hx hb dX7_set_0 rfl (lv_at hl 1 rfl) ?_
  refine lv_if_lt (tgt := 38) hx hb dX7_set_1 (by decide) (fun hc => ?_) (fun hc => ?_)
  · have hf := it_t hc hf
    obtain rfl := Option.some.inj hf
    subst hq
    exact retV cx hP hD hS dX7_set_38
  · have hf := it_f hc hf
    refine lv_iload_n hx hb dX7_set_4 rfl (lv_at hl 1 rfl) ?_
    refine lv_aload_n hx hb dX7_set_5 rfl (lv_at hl 0 rfl) ?_
    refine va_get (D := E.1) (ci := 7) (v := .int o_many) (C := RX7) (T := TX7) (N := 3) hx hb hts inX7 hown hK hP 0 rfl rfl 2 (by decide) (hts _ fl_X7_19) (fun _ h9 => h9) rfl dX7_set_6 ?_
    refine lv_icmp_ge (tgt := 38) hx hb dX7_set_9 (by decide) (fun hc => ?_) (fun hc => ?_)
    · have hf := it_t hc hf
      obtain rfl := Option.some.inj hf
      subst hq
      exact retV cx hP hD hS dX7_set_38
    · have hf := it_f hc hf
      refine lv_iload_n hx hb dX7_set_12 rfl (lv_at hl 2 rfl) ?_
      refine lv_if_lt (tgt := 38) hx hb dX7_set_13 (by decide) (fun hc => ?_) (fun hc => ?_)
      · have hf := it_t hc hf
        obtain rfl := Option.some.inj hf
        subst hq
        exact retV cx hP hD hS dX7_set_38
      · have hf := it_f hc hf
        refine lv_iload_n hx hb dX7_set_16 rfl (lv_at hl 2 rfl) ?_
        refine lv_aload_n hx hb dX7_set_17 rfl (lv_at hl 0 rfl) ?_
        refine va_get (D := E.1) (ci := 7) (v := .int o_width) (C := RX7) (T := TX7) (N := 3) hx hb hts inX7 hown hK hP 0 rfl rfl 0 (by decide) (hts _ fl_X7_9) (fun _ h9 => h9) rfl dX7_set_18 ?_
        refine lv_icmp_ge (tgt := 38) hx hb dX7_set_21 (by decide) (fun hc => ?_) (fun hc => ?_)
        · have hf := it_t hc hf
          obtain rfl := Option.some.inj hf
          subst hq
          exact retV cx hP hD hS dX7_set_38
        · have hf := it_f hc hf
          refine lv_aload_n hx hb dX7_set_24 rfl (lv_at hl 0 rfl) ?_
          refine va_get (D := E.1) (ci := 7) (v := .ref a_o_cells) (C := RX7) (T := TX7) (N := 3) hx hb hts inX7 hown hK hP 0 rfl rfl 1 (by decide) (hts _ fl_X7_15) (fun _ h9 => h9) rfl dX7_set_25 ?_
          refine lv_iload_n hx hb dX7_set_28 rfl (lv_at hl 1 rfl) ?_
          refine lv_aload_n hx hb dX7_set_29 rfl (lv_at hl 0 rfl) ?_
          refine va_get (D := E.1) (ci := 7) (v := .int o_width) (C := RX7) (T := TX7) (N := 3) hx hb hts inX7 hown hK hP 0 rfl rfl 0 (by decide) (hts _ fl_X7_9) (fun _ h9 => h9) rfl dX7_set_30 ?_
          refine lv_imul hx hb dX7_set_33 ?_
          refine lv_iload_n hx hb dX7_set_34 rfl (lv_at hl 2 rfl) ?_
          refine lv_iadd hx hb dX7_set_35 ?_
          refine lv_iload_n hx hb dX7_set_36 rfl (lv_at hl 3 rfl) ?_
          obtain ⟨hi, hf⟩ := ck hf
          refine r_iast 1 cx hP hD hS rfl hi dX7_set_37 (fun H locs hP hD hS => ?_)
          have hP : va_P E.1 vwCl (wd_X7_set E a_o a_o_cells n_o_cells o_width o_many (jput o_cells ((v1 * o_width) + v2) v3)) H := hP
          have hD : va_D A (wd_X7_set E a_o a_o_cells n_o_cells o_width o_many (jput o_cells ((v1 * o_width) + v2) v3)) := hD
          obtain rfl := Option.some.inj hf
          subst hq
          exact retV cx hP hD hS dX7_set_38
def X7_add_b21 (F : Nat) (n_o_cells : Nat) (o_width : Int32) (o_many : Int32) (st21 : Int32 × (Nat → Int32)) : Option ((Int32 × (Nat → Int32)) ⊕ (((Nat → Int32)))) :=
  if o_width ≤ st21.1 then
  some (.inr st21.2)
  else
  (X7_set n_o_cells o_width o_many st21.2 (o_many - 1) st21.1 (0 : Int32)).bind fun u38 =>
  some (.inl ((st21.1 + 1), u38))
def X7_add (F : Nat) (n_o_cells : Nat) (o_width : Int32) (o_many : Int32) (o_cells : Nat → Int32) : Option (Int32 × Int32 × (Nat → Int32)) :=
  (X7_isFull n_o_cells o_width o_many).bind fun u1 =>
  if u1 = 0 then
  (iter (X7_add_b21 F n_o_cells o_width (o_many + 1)) F (0, o_cells)).bind (fun (e21 : (Nat → Int32)) =>
    some (((o_many + 1) - 1), (o_many + 1), e21))
  else
  some ((-1), o_many, o_cells)
abbrev wd_X7_add (E : vE) (a_o a_o_cells : Nat) (n_o_cells : Nat) (o_width : Int32) (o_many : Int32) (o_cells : Nat → Int32) : va_W := [(a_o, .inr (7, [.int o_width, .ref a_o_cells, .int o_many])), (a_o_cells, .inl (E.2.1, n_o_cells, .inl o_cells))]
set_option maxHeartbeats 4000000 in
set_option maxRecDepth 100000 in
theorem ct_X7_add (l : Launch) (E : vE) (F : Nat) (a_o a_o_cells : Nat) (n_o_cells : Nat) (o_width : Int32) (o_many : Int32) (o_cells : Nat → Int32) (u : Int32 × Int32 × (Nat → Int32)) (hf : X7_add F n_o_cells o_width o_many o_cells = some u) :
    CtI l yX7_add cX7_add 2 (some .int) 1 E [.ref a_o] (wd_X7_add E a_o a_o_cells n_o_cells o_width o_many o_cells) (wd_X7_add E a_o a_o_cells n_o_cells o_width u.2.1 u.2.2) u.1 := by
  refine ctI (by decide) (Nat.le_of_ble_eq_true rfl) ?_
  intro p e s m below meth cd A ls aa QQ hq cx hP hD hS hl
  obtain ⟨⟨hx, hb, hml, hown, hts⟩, hr, hlocks, hK, hA⟩ := id cx
  have hl : lv_has ls 2 [(0, .ref a_o)] := hl
  unfold X7_add at hf
  refine lv_aload_n hx hb dX7_add_0 rfl (lv_at hl 0 rfl) ?_
  obtain ⟨u1, hu1, hf⟩ := bd hf
  refine keepVI (ct_X7_isFull l E a_o a_o_cells n_o_cells o_width o_many o_cells u1 hu1) [0, 1] cal_X7_isFull cav_X7_isFull lk_X7_22 cx hP hD hS hl dX7_add_1 rfl rfl rfl rfl (Nat.le_of_ble_eq_true rfl) ⟨Nat.le_of_ble_eq_true rfl, Nat.le_of_ble_eq_true rfl⟩ rfl (by decide) (fun H locs hP hS => ?_)
  refine lv_if_eq (tgt := 9) hx hb dX7_add_4 (by decide) (fun hc => ?_) (fun hc => ?_)
  · have hf := it_t hc hf
    refine lv_aload_n hx hb dX7_add_9 rfl (lv_at hl 0 rfl) ?_
    refine lv_dup hx hb dX7_add_10 rfl ?_
    refine va_get (D := E.1) (ci := 7) (v := .int o_many) (C := RX7) (T := TX7) (N := 3) hx hb hts inX7 hown hK hP 0 rfl rfl 2 (by decide) (hts _ fl_X7_19) (fun _ h9 => h9) rfl dX7_add_11 ?_
    refine lv_iconst (v := 1) hx hb dX7_add_14 (by decide) ?_
    refine lv_iadd hx hb dX7_add_15 ?_
    refine va_put (D := E.1) (ci := 7) (v := .int (o_many + 1)) (ty := .int) (C := RX7) (T := TX7) (N := 3) hx hb hts inX7 tyX7 tyX7_ok nmX7 hown hK hP hD hS 0 rfl rfl 2 (by decide) (hts _ fl_X7_19) (fun _ h9 => h9) rfl (by decide +kernel) rfl rfl (Nat.le_of_ble_eq_true rfl) dX7_add_16 (fun H locs hP hD hS => ?_)
    have hP : va_P E.1 vwCl (wd_X7_add E a_o a_o_cells n_o_cells o_width (o_many + 1) o_cells) H := hP
    have hD : va_D A (wd_X7_add E a_o a_o_cells n_o_cells o_width (o_many + 1) o_cells) := hD
    refine lv_iconst (v := 0) hx hb dX7_add_19 (by decide) ?_
    refine lv_istore_n (lv' := [(1, .int 0), (0, .ref a_o)]) hx hb dX7_add_20 rfl hl (by decide) rfl (fun ls hl => ?_)
    obtain ⟨e21, hit21, hf⟩ := bd hf
    refine iter_W (b := X7_add_b21 F n_o_cells o_width (o_many + 1)) (P := fun st21 => ∀ (H : Heap) (locs : List Loc) (ls : Array Slot), va_P E.1 vwCl (wd_X7_add E a_o a_o_cells n_o_cells o_width (o_many + 1) st21.2) H → va_D A (wd_X7_add E a_o a_o_cells n_o_cells o_width (o_many + 1) st21.2) → va_S A s.heap H locs → lv_has ls 2 [(0, .ref a_o), (1, .int st21.1)] → W p l e (rmd 1) s m aa below meth cd H locs 0 0 QQ (F0 m 21 ls [])) (G := (fun (e21 : (Nat → Int32)) => ∀ (H : Heap) (locs : List Loc) (ls : Array Slot), va_P E.1 vwCl (wd_X7_add E a_o a_o_cells n_o_cells o_width (o_many + 1) e21) H → va_D A (wd_X7_add E a_o a_o_cells n_o_cells o_width (o_many + 1) e21) → va_S A s.heap H locs → lv_has ls 2 [(0, .ref a_o)] → W p l e (rmd 1) s m aa below meth cd H locs 0 0 QQ (F0 m 47 ls []))) ?_ F (0, o_cells) e21 hit21 ?_ _ _ _ hP hD hS (lv_sub hl [1, 0] rfl)
    · intro st21 r21 hf hk21 he21 H locs ls hP hD hS hl
      unfold X7_add_b21 at hf
      refine lv_iload_n hx hb dX7_add_21 rfl (lv_at hl 1 rfl) ?_
      refine lv_aload_n hx hb dX7_add_22 rfl (lv_at hl 0 rfl) ?_
      refine va_get (D := E.1) (ci := 7) (v := .int o_width) (C := RX7) (T := TX7) (N := 3) hx hb hts inX7 hown hK hP 0 rfl rfl 0 (by decide) (hts _ fl_X7_9) (fun _ h9 => h9) rfl dX7_add_23 ?_
      refine lv_icmp_ge (tgt := 47) hx hb dX7_add_26 (by decide) (fun hc => ?_) (fun hc => ?_)
      · have hf := it_t hc hf
        exact he21 _ (Option.some.inj hf).symm _ _ _ hP hD hS (lv_sub hl [0] rfl)
      · have hf := it_f hc hf
        refine lv_aload_n hx hb dX7_add_29 rfl (lv_at hl 0 rfl) ?_
        refine lv_aload_n hx hb dX7_add_30 rfl (lv_at hl 0 rfl) ?_
        refine va_get (D := E.1) (ci := 7) (v := .int (o_many + 1)) (C := RX7) (T := TX7) (N := 3) hx hb hts inX7 hown hK hP 0 rfl rfl 2 (by decide) (hts _ fl_X7_19) (fun _ h9 => h9) rfl dX7_add_31 ?_
        refine lv_iconst (v := 1) hx hb dX7_add_34 (by decide) ?_
        refine lv_isub hx hb dX7_add_35 ?_
        refine lv_iload_n hx hb dX7_add_36 rfl (lv_at hl 1 rfl) ?_
        refine lv_iconst (v := 0) hx hb dX7_add_37 (by decide) ?_
        obtain ⟨u38, hu38, hf⟩ := bd hf
        refine callVV (wn := (wd_X7_add E a_o a_o_cells n_o_cells o_width (o_many + 1) u38)) (ct_X7_set l E a_o a_o_cells n_o_cells o_width (o_many + 1) st21.2 ((o_many + 1) - 1) st21.1 (0 : Int32) u38 hu38) [0, 1] [] [0, 1] cal_X7_set cav_X7_set lk_X7_26 cx hP hD hS hl dX7_add_38 rfl rfl rfl rfl (Nat.le_of_ble_eq_true rfl) ⟨Nat.le_of_ble_eq_true rfl, Nat.le_of_ble_eq_true rfl⟩ rfl (by decide) rfl (by decide) (by decide) rfl (by decide) (fun H locs hP hD hS => ?_)
        refine lv_iinc (v := (st21.1 + 1)) (lv' := [(1, .int (st21.1 + 1)), (0, .ref a_o)]) hx hb dX7_add_41 hl (k := 1) rfl rfl (by decide) rfl (fun ls hl => ?_)
        refine lv_goto (tgt := 21) hx hb dX7_add_44 (by decide) ?_
        exact hk21 _ (Option.some.inj hf).symm _ _ _ hP hD hS (lv_sub hl [1, 0] rfl)
    · refine fun H locs ls hP hD hS hl => ?_
      refine lv_aload_n hx hb dX7_add_47 rfl (lv_at hl 0 rfl) ?_
      refine va_get (D := E.1) (ci := 7) (v := .int (o_many + 1)) (C := RX7) (T := TX7) (N := 3) hx hb hts inX7 hown hK hP 0 rfl rfl 2 (by decide) (hts _ fl_X7_19) (fun _ h9 => h9) rfl dX7_add_48 ?_
      refine lv_iconst (v := 1) hx hb dX7_add_51 (by decide) ?_
      refine lv_isub hx hb dX7_add_52 ?_
      obtain rfl := Option.some.inj hf
      subst hq
      exact retI cx hP hD hS dX7_add_53
  · have hf := it_f hc hf
    refine lv_iconst (v := (-1)) hx hb dX7_add_7 (by decide) ?_
    obtain rfl := Option.some.inj hf
    subst hq
    exact retI cx hP hD hS dX7_add_8
def X7_get_j29 (n_o_cells : Nat) (o_width : Int32) (o_many : Int32) (o_cells : Nat → Int32) (v1 : Int32) (v2 : Int32) (k0 : Int32) : Option (Int32) :=
  if k0 = 0 then
  some 0
  else
  if ix ((v1 * o_width) + v2) n_o_cells then
  some (jat o_cells ((v1 * o_width) + v2))
  else none
def X7_get_j28 (n_o_cells : Nat) (o_width : Int32) (o_many : Int32) (o_cells : Nat → Int32) (v1 : Int32) (v2 : Int32) : Option (Int32) :=
  X7_get_j29 n_o_cells o_width o_many o_cells v1 v2 0
def X7_get (n_o_cells : Nat) (o_width : Int32) (o_many : Int32) (o_cells : Nat → Int32) (v1 : Int32) (v2 : Int32) : Option (Int32) :=
  if v1 < 0 then
  X7_get_j28 n_o_cells o_width o_many o_cells v1 v2
  else
  if o_many ≤ v1 then
  X7_get_j28 n_o_cells o_width o_many o_cells v1 v2
  else
  if v2 < 0 then
  X7_get_j28 n_o_cells o_width o_many o_cells v1 v2
  else
  if o_width ≤ v2 then
  X7_get_j28 n_o_cells o_width o_many o_cells v1 v2
  else
  X7_get_j29 n_o_cells o_width o_many o_cells v1 v2 1
abbrev wd_X7_get (E : vE) (a_o a_o_cells : Nat) (n_o_cells : Nat) (o_width : Int32) (o_many : Int32) (o_cells : Nat → Int32) : va_W := [(a_o, .inr (7, [.int o_width, .ref a_o_cells, .int o_many])), (a_o_cells, .inl (E.2.1, n_o_cells, .inl o_cells))]
set_option maxHeartbeats 4000000 in
set_option maxRecDepth 100000 in
theorem ct_X7_get (l : Launch) (E : vE) (a_o a_o_cells : Nat) (n_o_cells : Nat) (o_width : Int32) (o_many : Int32) (o_cells : Nat → Int32) (v1 : Int32) (v2 : Int32) (u : Int32) (hf : X7_get n_o_cells o_width o_many o_cells v1 v2 = some u) :
    CtI l yX7_get cX7_get 4 (some .int) 0 E [.ref a_o, .int v1, .int v2] (wd_X7_get E a_o a_o_cells n_o_cells o_width o_many o_cells) (wd_X7_get E a_o a_o_cells n_o_cells o_width o_many o_cells) u := by
  refine ctI (by decide) (Nat.le_of_ble_eq_true rfl) ?_
  intro p e s m below meth cd A ls aa QQ hq cx hP hD hS hl
  obtain ⟨⟨hx, hb, hml, hown, hts⟩, hr, hlocks, hK, hA⟩ := id cx
  have hl : lv_has ls 4 [(0, .ref a_o), (1, .int v1), (2, .int v2)] := hl
  have hj29 : ∀ (k0 : Int32) (H : Heap) (locs : List Loc) (ls : Array Slot), X7_get_j29 n_o_cells o_width o_many o_cells v1 v2 k0 = some u → va_P E.1 vwCl (wd_X7_get E a_o a_o_cells n_o_cells o_width o_many o_cells) H → va_D A (wd_X7_get E a_o a_o_cells n_o_cells o_width o_many o_cells) → va_S A s.heap H locs → lv_has ls 4 [(0, .ref a_o), (1, .int v1), (2, .int v2)] → W p l e (rmd 0) s m aa below meth cd H locs 0 0 QQ (F0 m 29 ls [.int k0]) := by
    intro k0 H locs ls hf hP hD hS hl
    unfold X7_get_j29 at hf
    refine lv_istore_n (lv' := [(3, .int k0), (0, .ref a_o), (1, .int v1), (2, .int v2)]) hx hb dX7_get_29 rfl hl (by decide) rfl (fun ls hl => ?_)
    refine lv_iload_n hx hb dX7_get_30 rfl (lv_at hl 0 rfl) ?_
    refine lv_if_eq (tgt := 50) hx hb dX7_get_31 (by decide) (fun hc => ?_) (fun hc => ?_)
    · have hf := it_t hc hf
      refine lv_iconst (v := 0) hx hb dX7_get_50 (by decide) ?_
      obtain rfl := Option.some.inj hf
      subst hq
      exact retI cx hP hD hS dX7_get_51
    · have hf := it_f hc hf
      refine lv_aload_n hx hb dX7_get_34 rfl (lv_at hl 1 rfl) ?_
      refine va_get (D := E.1) (ci := 7) (v := .ref a_o_cells) (C := RX7) (T := TX7) (N := 3) hx hb hts inX7 hown hK hP 0 rfl rfl 1 (by decide) (hts _ fl_X7_15) (fun _ h9 => h9) rfl dX7_get_35 ?_
      refine lv_iload_n hx hb dX7_get_38 rfl (lv_at hl 2 rfl) ?_
      refine lv_aload_n hx hb dX7_get_39 rfl (lv_at hl 1 rfl) ?_
      refine va_get (D := E.1) (ci := 7) (v := .int o_width) (C := RX7) (T := TX7) (N := 3) hx hb hts inX7 hown hK hP 0 rfl rfl 0 (by decide) (hts _ fl_X7_9) (fun _ h9 => h9) rfl dX7_get_40 ?_
      refine lv_imul hx hb dX7_get_43 ?_
      refine lv_iload_n hx hb dX7_get_44 rfl (lv_at hl 3 rfl) ?_
      refine lv_iadd hx hb dX7_get_45 ?_
      obtain ⟨hi, hf⟩ := ck hf
      refine r_iald 1 cx hP rfl hi dX7_get_46 ?_
      refine lv_goto (tgt := 51) hx hb dX7_get_47 (by decide) ?_
      obtain rfl := Option.some.inj hf
      subst hq
      exact retI cx hP hD hS dX7_get_51
  have hj28 : ∀ (H : Heap) (locs : List Loc) (ls : Array Slot), X7_get_j28 n_o_cells o_width o_many o_cells v1 v2 = some u → va_P E.1 vwCl (wd_X7_get E a_o a_o_cells n_o_cells o_width o_many o_cells) H → va_D A (wd_X7_get E a_o a_o_cells n_o_cells o_width o_many o_cells) → va_S A s.heap H locs → lv_has ls 4 [(0, .ref a_o), (1, .int v1), (2, .int v2)] → W p l e (rmd 0) s m aa below meth cd H locs 0 0 QQ (F0 m 28 ls []) := by
    intro H locs ls hf hP hD hS hl
    unfold X7_get_j28 at hf
    refine lv_iconst (v := 0) hx hb dX7_get_28 (by decide) ?_
    exact hj29 _ _ _ _ hf hP hD hS (lv_sub hl [0, 1, 2] rfl)
  unfold X7_get at hf
  refine lv_iload_n hx hb dX7_get_0 rfl (lv_at hl 1 rfl) ?_
  refine lv_if_lt (tgt := 28) hx hb dX7_get_1 (by decide) (fun hc => ?_) (fun hc => ?_)
  · have hf := it_t hc hf
    exact hj28  _ _ _ hf hP hD hS (lv_sub hl [0, 1, 2] rfl)
  · have hf := it_f hc hf
    refine lv_iload_n hx hb dX7_get_4 rfl (lv_at hl 1 rfl) ?_
    refine lv_aload_n hx hb dX7_get_5 rfl (lv_at hl 0 rfl) ?_
    refine va_get (D := E.1) (ci := 7) (v := .int o_many) (C := RX7) (T := TX7) (N := 3) hx hb hts inX7 hown hK hP 0 rfl rfl 2 (by decide) (hts _ fl_X7_19) (fun _ h9 => h9) rfl dX7_get_6 ?_
    refine lv_icmp_ge (tgt := 28) hx hb dX7_get_9 (by decide) (fun hc => ?_) (fun hc => ?_)
    · have hf := it_t hc hf
      exact hj28  _ _ _ hf hP hD hS (lv_sub hl [0, 1, 2] rfl)
    · have hf := it_f hc hf
      refine lv_iload_n hx hb dX7_get_12 rfl (lv_at hl 2 rfl) ?_
      refine lv_if_lt (tgt := 28) hx hb dX7_get_13 (by decide) (fun hc => ?_) (fun hc => ?_)
      · have hf := it_t hc hf
        exact hj28  _ _ _ hf hP hD hS (lv_sub hl [0, 1, 2] rfl)
      · have hf := it_f hc hf
        refine lv_iload_n hx hb dX7_get_16 rfl (lv_at hl 2 rfl) ?_
        refine lv_aload_n hx hb dX7_get_17 rfl (lv_at hl 0 rfl) ?_
        refine va_get (D := E.1) (ci := 7) (v := .int o_width) (C := RX7) (T := TX7) (N := 3) hx hb hts inX7 hown hK hP 0 rfl rfl 0 (by decide) (hts _ fl_X7_9) (fun _ h9 => h9) rfl dX7_get_18 ?_
        refine lv_icmp_ge (tgt := 28) hx hb dX7_get_21 (by decide) (fun hc => ?_) (fun hc => ?_)
        · have hf := it_t hc hf
          exact hj28  _ _ _ hf hP hD hS (lv_sub hl [0, 1, 2] rfl)
        · have hf := it_f hc hf
          refine lv_iconst (v := 1) hx hb dX7_get_24 (by decide) ?_
          refine lv_goto (tgt := 29) hx hb dX7_get_25 (by decide) ?_
          exact hj29 _ _ _ _ hf hP hD hS (lv_sub hl [0, 1, 2] rfl)
def X7_withValue_j32 (F : Nat) (n_o_cells : Nat) (o_width : Int32) (o_many : Int32) (o_cells : Nat → Int32) (v1 : Int32) (v2 : Int32) (v3 : Int32) (v4 : Int32) : Option ((Int32 × Int32) ⊕ ((Int32))) :=
  some (.inl (v3, (v4 + 1)))
def X7_withValue_b5 (F : Nat) (n_o_cells : Nat) (o_width : Int32) (o_many : Int32) (o_cells : Nat → Int32) (v1 : Int32) (v2 : Int32) (st5 : Int32 × Int32) : Option ((Int32 × Int32) ⊕ ((Int32))) :=
  if o_many ≤ st5.2 then
  some (.inr st5.1)
  else
  (X7_get n_o_cells o_width o_many o_cells st5.2 v1).bind fun u18 =>
  if u18 = v2 then
  X7_withValue_j32 F n_o_cells o_width o_many o_cells v1 v2 (st5.1 ||| (jshl 1 st5.2)) st5.2
  else
  X7_withValue_j32 F n_o_cells o_width o_many o_cells v1 v2 st5.1 st5.2
def X7_withValue (F : Nat) (n_o_cells : Nat) (o_width : Int32) (o_many : Int32) (o_cells : Nat → Int32) (v1 : Int32) (v2 : Int32) : Option (Int32) :=
  (iter (X7_withValue_b5 F n_o_cells o_width o_many o_cells v1 v2) F (0, 0)).bind (fun (e5 : Int32) =>
    some e5)
abbrev wd_X7_withValue (E : vE) (a_o a_o_cells : Nat) (n_o_cells : Nat) (o_width : Int32) (o_many : Int32) (o_cells : Nat → Int32) : va_W := [(a_o, .inr (7, [.int o_width, .ref a_o_cells, .int o_many])), (a_o_cells, .inl (E.2.1, n_o_cells, .inl o_cells))]
set_option maxHeartbeats 4000000 in
set_option maxRecDepth 100000 in
theorem ct_X7_withValue (l : Launch) (E : vE) (F : Nat) (a_o a_o_cells : Nat) (n_o_cells : Nat) (o_width : Int32) (o_many : Int32) (o_cells : Nat → Int32) (v1 : Int32) (v2 : Int32) (u : Int32) (hf : X7_withValue F n_o_cells o_width o_many o_cells v1 v2 = some u) :
    CtI l yX7_withValue cX7_withValue 5 (some .int) 1 E [.ref a_o, .int v1, .int v2] (wd_X7_withValue E a_o a_o_cells n_o_cells o_width o_many o_cells) (wd_X7_withValue E a_o a_o_cells n_o_cells o_width o_many o_cells) u := by
  refine ctI (by decide) (Nat.le_of_ble_eq_true rfl) ?_
  intro p e s m below meth cd A ls aa QQ hq cx hP hD hS hl
  obtain ⟨⟨hx, hb, hml, hown, hts⟩, hr, hlocks, hK, hA⟩ := id cx
  have hl : lv_has ls 5 [(0, .ref a_o), (1, .int v1), (2, .int v2)] := hl
  unfold X7_withValue at hf
  refine lv_iconst (v := 0) hx hb dX7_withValue_0 (by decide) ?_
  refine lv_istore_n (lv' := [(3, .int 0), (0, .ref a_o), (1, .int v1), (2, .int v2)]) hx hb dX7_withValue_1 rfl hl (by decide) rfl (fun ls hl => ?_)
  refine lv_iconst (v := 0) hx hb dX7_withValue_2 (by decide) ?_
  refine lv_istore (lv' := [(4, .int 0), (3, .int 0), (0, .ref a_o), (1, .int v1), (2, .int v2)]) hx hb dX7_withValue_3 hl (by decide) rfl (fun ls hl => ?_)
  obtain ⟨e5, hit5, hf⟩ := bd hf
  refine iter_W (b := X7_withValue_b5 F n_o_cells o_width o_many o_cells v1 v2) (P := fun st5 => ∀ (H : Heap) (locs : List Loc) (ls : Array Slot), va_P E.1 vwCl (wd_X7_withValue E a_o a_o_cells n_o_cells o_width o_many o_cells) H → va_D A (wd_X7_withValue E a_o a_o_cells n_o_cells o_width o_many o_cells) → va_S A s.heap H locs → lv_has ls 5 [(0, .ref a_o), (1, .int v1), (2, .int v2), (3, .int st5.1), (4, .int st5.2)] → W p l e (rmd 1) s m aa below meth cd H locs 0 0 QQ (F0 m 5 ls [])) (G := (fun (e5 : Int32) => ∀ (H : Heap) (locs : List Loc) (ls : Array Slot), va_P E.1 vwCl (wd_X7_withValue E a_o a_o_cells n_o_cells o_width o_many o_cells) H → va_D A (wd_X7_withValue E a_o a_o_cells n_o_cells o_width o_many o_cells) → va_S A s.heap H locs → lv_has ls 5 [(3, .int e5)] → W p l e (rmd 1) s m aa below meth cd H locs 0 0 QQ (F0 m 38 ls []))) ?_ F (0, 0) e5 hit5 ?_ _ _ _ hP hD hS (lv_sub hl [2, 3, 4, 1, 0] rfl)
  · intro st5 r5 hf hk5 he5 H locs ls hP hD hS hl
    have hj32 : ∀ (v3 : Int32) (v4 : Int32) (H : Heap) (locs : List Loc) (ls : Array Slot), X7_withValue_j32 F n_o_cells o_width o_many o_cells v1 v2 v3 v4 = some r5 → va_P E.1 vwCl (wd_X7_withValue E a_o a_o_cells n_o_cells o_width o_many o_cells) H → va_D A (wd_X7_withValue E a_o a_o_cells n_o_cells o_width o_many o_cells) → va_S A s.heap H locs → lv_has ls 5 [(0, .ref a_o), (1, .int v1), (2, .int v2), (3, .int v3), (4, .int v4)] → W p l e (rmd 1) s m aa below meth cd H locs 0 0 QQ (F0 m 32 ls []) := by
      intro v3 v4 H locs ls hf hP hD hS hl
      unfold X7_withValue_j32 at hf
      refine lv_iinc (v := (v4 + 1)) (lv' := [(4, .int (v4 + 1)), (0, .ref a_o), (1, .int v1), (2, .int v2), (3, .int v3)]) hx hb dX7_withValue_32 hl (k := 4) rfl rfl (by decide) rfl (fun ls hl => ?_)
      refine lv_goto (tgt := 5) hx hb dX7_withValue_35 (by decide) ?_
      exact hk5 _ (Option.some.inj hf).symm _ _ _ hP hD hS (lv_sub hl [1, 2, 3, 4, 0] rfl)
    unfold X7_withValue_b5 at hf
    refine lv_iload hx hb dX7_withValue_5 (lv_at hl 4 rfl) ?_
    refine lv_aload_n hx hb dX7_withValue_7 rfl (lv_at hl 0 rfl) ?_
    refine va_get (D := E.1) (ci := 7) (v := .int o_many) (C := RX7) (T := TX7) (N := 3) hx hb hts inX7 hown hK hP 0 rfl rfl 2 (by decide) (hts _ fl_X7_19) (fun _ h9 => h9) rfl dX7_withValue_8 ?_
    refine lv_icmp_ge (tgt := 38) hx hb dX7_withValue_11 (by decide) (fun hc => ?_) (fun hc => ?_)
    · have hf := it_t hc hf
      exact he5 _ (Option.some.inj hf).symm _ _ _ hP hD hS (lv_sub hl [3] rfl)
    · have hf := it_f hc hf
      refine lv_aload_n hx hb dX7_withValue_14 rfl (lv_at hl 0 rfl) ?_
      refine lv_iload hx hb dX7_withValue_15 (lv_at hl 4 rfl) ?_
      refine lv_iload_n hx hb dX7_withValue_17 rfl (lv_at hl 1 rfl) ?_
      obtain ⟨u18, hu18, hf⟩ := bd hf
      refine keepVI (ct_X7_get l E a_o a_o_cells n_o_cells o_width o_many o_cells st5.2 v1 u18 hu18) [0, 1] cal_X7_get cav_X7_get lk_X7_30 cx hP hD hS hl dX7_withValue_18 rfl rfl rfl rfl (Nat.le_of_ble_eq_true rfl) ⟨Nat.le_of_ble_eq_true rfl, Nat.le_of_ble_eq_true rfl⟩ rfl (by decide) (fun H locs hP hS => ?_)
      refine lv_iload_n hx hb dX7_withValue_21 rfl (lv_at hl 2 rfl) ?_
      refine lv_icmp_ne (tgt := 32) hx hb dX7_withValue_22 (by decide) (fun hc => ?_) (fun hc => ?_)
      · have hf := it_f hc hf
        exact hj32 _ _ _ _ _ hf hP hD hS (lv_sub hl [0, 1, 2, 3, 4] rfl)
      · have hf := it_t hc hf
        refine lv_iload_n hx hb dX7_withValue_25 rfl (lv_at hl 3 rfl) ?_
        refine lv_iconst (v := 1) hx hb dX7_withValue_26 (by decide) ?_
        refine lv_iload hx hb dX7_withValue_27 (lv_at hl 4 rfl) ?_
        refine r_ishl hx hb dX7_withValue_29 ?_
        refine lv_ior hx hb dX7_withValue_30 ?_
        refine lv_istore_n (lv' := [(3, .int (st5.1 ||| (jshl 1 st5.2))), (0, .ref a_o), (1, .int v1), (2, .int v2), (4, .int st5.2)]) hx hb dX7_withValue_31 rfl hl (by decide) rfl (fun ls hl => ?_)
        exact hj32 _ _ _ _ _ hf hP hD hS (lv_sub hl [1, 2, 3, 0, 4] rfl)
  · refine fun H locs ls hP hD hS hl => ?_
    refine lv_iload_n hx hb dX7_withValue_38 rfl (lv_at hl 0 rfl) ?_
    obtain rfl := Option.some.inj hf
    subst hq
    exact retI cx hP hD hS dX7_withValue_39
def X7_raiseBy (n_o_cells : Nat) (o_width : Int32) (o_many : Int32) (o_cells : Nat → Int32) (v1 : Int32) (v2 : Int32) (v3 : Int32) : Option ((Nat → Int32)) :=
  (X7_get n_o_cells o_width o_many o_cells v1 v2).bind fun u6 =>
  (X7_set n_o_cells o_width o_many o_cells v1 v2 (u6 + v3)).bind fun u11 =>
  some u11
abbrev wd_X7_raiseBy (E : vE) (a_o a_o_cells : Nat) (n_o_cells : Nat) (o_width : Int32) (o_many : Int32) (o_cells : Nat → Int32) : va_W := [(a_o, .inr (7, [.int o_width, .ref a_o_cells, .int o_many])), (a_o_cells, .inl (E.2.1, n_o_cells, .inl o_cells))]
set_option maxHeartbeats 4000000 in
set_option maxRecDepth 100000 in
theorem ct_X7_raiseBy (l : Launch) (E : vE) (a_o a_o_cells : Nat) (n_o_cells : Nat) (o_width : Int32) (o_many : Int32) (o_cells : Nat → Int32) (v1 : Int32) (v2 : Int32) (v3 : Int32) (u : (Nat → Int32)) (hf : X7_raiseBy n_o_cells o_width o_many o_cells v1 v2 v3 = some u) :
    CtV l yX7_raiseBy cX7_raiseBy 4 none 1 E [.ref a_o, .int v1, .int v2, .int v3] (wd_X7_raiseBy E a_o a_o_cells n_o_cells o_width o_many o_cells) (wd_X7_raiseBy E a_o a_o_cells n_o_cells o_width o_many u) := by
  refine ctV (by decide) (Nat.le_of_ble_eq_true rfl) ?_
  intro p e s m below meth cd A ls aa QQ hq cx hP hD hS hl
  obtain ⟨⟨hx, hb, hml, hown, hts⟩, hr, hlocks, hK, hA⟩ := id cx
  have hl : lv_has ls 4 [(0, .ref a_o), (1, .int v1), (2, .int v2), (3, .int v3)] := hl
  unfold X7_raiseBy at hf
  refine lv_aload_n hx hb dX7_raiseBy_0 rfl (lv_at hl 0 rfl) ?_
  refine lv_iload_n hx hb dX7_raiseBy_1 rfl (lv_at hl 1 rfl) ?_
  refine lv_iload_n hx hb dX7_raiseBy_2 rfl (lv_at hl 2 rfl) ?_
  refine lv_aload_n hx hb dX7_raiseBy_3 rfl (lv_at hl 0 rfl) ?_
  refine lv_iload_n hx hb dX7_raiseBy_4 rfl (lv_at hl 1 rfl) ?_
  refine lv_iload_n hx hb dX7_raiseBy_5 rfl (lv_at hl 2 rfl) ?_
  obtain ⟨u6, hu6, hf⟩ := bd hf
  refine keepVI (ct_X7_get l E a_o a_o_cells n_o_cells o_width o_many o_cells v1 v2 u6 hu6) [0, 1] cal_X7_get cav_X7_get lk_X7_30 cx hP hD hS hl dX7_raiseBy_6 rfl rfl rfl rfl (Nat.le_of_ble_eq_true rfl) ⟨Nat.le_of_ble_eq_true rfl, Nat.le_of_ble_eq_true rfl⟩ rfl (by decide) (fun H locs hP hS => ?_)
  refine lv_iload_n hx hb dX7_raiseBy_9 rfl (lv_at hl 3 rfl) ?_
  refine lv_iadd hx hb dX7_raiseBy_10 ?_
  obtain ⟨u11, hu11, hf⟩ := bd hf
  refine callVV (wn := (wd_X7_raiseBy E a_o a_o_cells n_o_cells o_width o_many u11)) (ct_X7_set l E a_o a_o_cells n_o_cells o_width o_many o_cells v1 v2 (u6 + v3) u11 hu11) [0, 1] [] [0, 1] cal_X7_set cav_X7_set lk_X7_26 cx hP hD hS hl dX7_raiseBy_11 rfl rfl rfl rfl (Nat.le_of_ble_eq_true rfl) ⟨Nat.le_of_ble_eq_true rfl, Nat.le_of_ble_eq_true rfl⟩ rfl (by decide) rfl (by decide) (by decide) rfl (by decide) (fun H locs hP hD hS => ?_)
  obtain rfl := Option.some.inj hf
  subst hq
  exact retV cx hP hD hS dX7_raiseBy_14
def X7_sum_b4 (F : Nat) (n_o_cells : Nat) (o_width : Int32) (o_many : Int32) (o_cells : Nat → Int32) (v1 : Int32) (st4 : Int32 × Int32) : Option ((Int32 × Int32) ⊕ ((Int32))) :=
  if o_many ≤ st4.2 then
  some (.inr st4.1)
  else
  (X7_get n_o_cells o_width o_many o_cells st4.2 v1).bind fun u16 =>
  some (.inl ((st4.1 + u16), (st4.2 + 1)))
def X7_sum (F : Nat) (n_o_cells : Nat) (o_width : Int32) (o_many : Int32) (o_cells : Nat → Int32) (v1 : Int32) : Option (Int32) :=
  (iter (X7_sum_b4 F n_o_cells o_width o_many o_cells v1) F (0, 0)).bind (fun (e4 : Int32) =>
    some e4)
abbrev wd_X7_sum (E : vE) (a_o a_o_cells : Nat) (n_o_cells : Nat) (o_width : Int32) (o_many : Int32) (o_cells : Nat → Int32) : va_W := [(a_o, .inr (7, [.int o_width, .ref a_o_cells, .int o_many])), (a_o_cells, .inl (E.2.1, n_o_cells, .inl o_cells))]
set_option maxHeartbeats 4000000 in
set_option maxRecDepth 100000 in
theorem ct_X7_sum (l : Launch) (E : vE) (F : Nat) (a_o a_o_cells : Nat) (n_o_cells : Nat) (o_width : Int32) (o_many : Int32) (o_cells : Nat → Int32) (v1 : Int32) (u : Int32) (hf : X7_sum F n_o_cells o_width o_many o_cells v1 = some u) :
    CtI l yX7_sum cX7_sum 4 (some .int) 1 E [.ref a_o, .int v1] (wd_X7_sum E a_o a_o_cells n_o_cells o_width o_many o_cells) (wd_X7_sum E a_o a_o_cells n_o_cells o_width o_many o_cells) u := by
  refine ctI (by decide) (Nat.le_of_ble_eq_true rfl) ?_
  intro p e s m below meth cd A ls aa QQ hq cx hP hD hS hl
  obtain ⟨⟨hx, hb, hml, hown, hts⟩, hr, hlocks, hK, hA⟩ := id cx
  have hl : lv_has ls 4 [(0, .ref a_o), (1, .int v1)] := hl
  unfold X7_sum at hf
  refine lv_iconst (v := 0) hx hb dX7_sum_0 (by decide) ?_
  refine lv_istore_n (lv' := [(2, .int 0), (0, .ref a_o), (1, .int v1)]) hx hb dX7_sum_1 rfl hl (by decide) rfl (fun ls hl => ?_)
  refine lv_iconst (v := 0) hx hb dX7_sum_2 (by decide) ?_
  refine lv_istore_n (lv' := [(3, .int 0), (2, .int 0), (0, .ref a_o), (1, .int v1)]) hx hb dX7_sum_3 rfl hl (by decide) rfl (fun ls hl => ?_)
  obtain ⟨e4, hit4, hf⟩ := bd hf
  refine iter_W (b := X7_sum_b4 F n_o_cells o_width o_many o_cells v1) (P := fun st4 => ∀ (H : Heap) (locs : List Loc) (ls : Array Slot), va_P E.1 vwCl (wd_X7_sum E a_o a_o_cells n_o_cells o_width o_many o_cells) H → va_D A (wd_X7_sum E a_o a_o_cells n_o_cells o_width o_many o_cells) → va_S A s.heap H locs → lv_has ls 4 [(0, .ref a_o), (1, .int v1), (2, .int st4.1), (3, .int st4.2)] → W p l e (rmd 1) s m aa below meth cd H locs 0 0 QQ (F0 m 4 ls [])) (G := (fun (e4 : Int32) => ∀ (H : Heap) (locs : List Loc) (ls : Array Slot), va_P E.1 vwCl (wd_X7_sum E a_o a_o_cells n_o_cells o_width o_many o_cells) H → va_D A (wd_X7_sum E a_o a_o_cells n_o_cells o_width o_many o_cells) → va_S A s.heap H locs → lv_has ls 4 [(2, .int e4)] → W p l e (rmd 1) s m aa below meth cd H locs 0 0 QQ (F0 m 27 ls []))) ?_ F (0, 0) e4 hit4 ?_ _ _ _ hP hD hS (lv_sub hl [2, 3, 1, 0] rfl)
  · intro st4 r4 hf hk4 he4 H locs ls hP hD hS hl
    unfold X7_sum_b4 at hf
    refine lv_iload_n hx hb dX7_sum_4 rfl (lv_at hl 3 rfl) ?_
    refine lv_aload_n hx hb dX7_sum_5 rfl (lv_at hl 0 rfl) ?_
    refine va_get (D := E.1) (ci := 7) (v := .int o_many) (C := RX7) (T := TX7) (N := 3) hx hb hts inX7 hown hK hP 0 rfl rfl 2 (by decide) (hts _ fl_X7_19) (fun _ h9 => h9) rfl dX7_sum_6 ?_
    refine lv_icmp_ge (tgt := 27) hx hb dX7_sum_9 (by decide) (fun hc => ?_) (fun hc => ?_)
    · have hf := it_t hc hf
      exact he4 _ (Option.some.inj hf).symm _ _ _ hP hD hS (lv_sub hl [2] rfl)
    · have hf := it_f hc hf
      refine lv_iload_n hx hb dX7_sum_12 rfl (lv_at hl 2 rfl) ?_
      refine lv_aload_n hx hb dX7_sum_13 rfl (lv_at hl 0 rfl) ?_
      refine lv_iload_n hx hb dX7_sum_14 rfl (lv_at hl 3 rfl) ?_
      refine lv_iload_n hx hb dX7_sum_15 rfl (lv_at hl 1 rfl) ?_
      obtain ⟨u16, hu16, hf⟩ := bd hf
      refine keepVI (ct_X7_get l E a_o a_o_cells n_o_cells o_width o_many o_cells st4.2 v1 u16 hu16) [0, 1] cal_X7_get cav_X7_get lk_X7_30 cx hP hD hS hl dX7_sum_16 rfl rfl rfl rfl (Nat.le_of_ble_eq_true rfl) ⟨Nat.le_of_ble_eq_true rfl, Nat.le_of_ble_eq_true rfl⟩ rfl (by decide) (fun H locs hP hS => ?_)
      refine lv_iadd hx hb dX7_sum_19 ?_
      refine lv_istore_n (lv' := [(2, .int (st4.1 + u16)), (0, .ref a_o), (1, .int v1), (3, .int st4.2)]) hx hb dX7_sum_20 rfl hl (by decide) rfl (fun ls hl => ?_)
      refine lv_iinc (v := (st4.2 + 1)) (lv' := [(3, .int (st4.2 + 1)), (2, .int (st4.1 + u16)), (0, .ref a_o), (1, .int v1)]) hx hb dX7_sum_21 hl (k := 3) rfl rfl (by decide) rfl (fun ls hl => ?_)
      refine lv_goto (tgt := 4) hx hb dX7_sum_24 (by decide) ?_
      exact hk4 _ (Option.some.inj hf).symm _ _ _ hP hD hS (lv_sub hl [2, 3, 1, 0] rfl)
  · refine fun H locs ls hP hD hS hl => ?_
    refine lv_iload_n hx hb dX7_sum_27 rfl (lv_at hl 0 rfl) ?_
    obtain rfl := Option.some.inj hf
    subst hq
    exact retI cx hP hD hS dX7_sum_28
