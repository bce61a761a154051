def X6_hoursToAll_j35 (F : Nat) (o_corners : Int32) (o_hours : Nat → Int32) (v1 : Int32) (v3 : Int32) (k0 : Int32) (k1 : Int32) : Option ((Int32 × Int32) ⊕ ((Int32))) :=
  some (.inl ((k1 + k0), (v3 + 1)))
def X6_hoursToAll_b4 (F : Nat) (o_corners : Int32) (o_hours : Nat → Int32) (v1 : Int32) (st4 : Int32 × Int32) : Option ((Int32 × Int32) ⊕ ((Int32))) :=
  if o_corners ≤ st4.2 then
  some (.inr st4.1)
  else
  (X6_hoursBetween o_hours v1 st4.2).bind fun u15 =>
  if u15 = (-1) then
  X6_hoursToAll_j35 F o_corners o_hours v1 st4.2 1000 st4.1
  else
  X6_hoursToAll_j35 F o_corners o_hours v1 st4.2 u15 st4.1
def X6_hoursToAll (F : Nat) (o_corners : Int32) (o_hours : Nat → Int32) (v1 : Int32) : Option (Int32) :=
  (iter (X6_hoursToAll_b4 F o_corners o_hours v1) F (0, 0)).bind (fun (e4 : Int32) =>
    some e4)
abbrev wd_X6_hoursToAll (E : vE) (a_o a_o_roads a_o_takes a_o_hours : Nat) (o_corners : Int32) (o_hours : Nat → Int32) : va_W := [(a_o, .inr (6, [.int o_corners, .ref a_o_roads, .ref a_o_takes, .ref a_o_hours])), (a_o_hours, .inl (E.2.1, 64, .inl o_hours))]
set_option maxHeartbeats 4000000 in
set_option maxRecDepth 100000 in
theorem ct_X6_hoursToAll (l : Launch) (E : vE) (F : Nat) (a_o a_o_roads a_o_takes a_o_hours : Nat) (o_corners : Int32) (o_hours : Nat → Int32) (v1 : Int32) (u : Int32) (hf : X6_hoursToAll F o_corners o_hours v1 = some u) :
    CtI l yX6_hoursToAll cX6_hoursToAll 5 (some .int) 2 E [.ref a_o, .int v1] (wd_X6_hoursToAll E a_o a_o_roads a_o_takes a_o_hours o_corners o_hours) (wd_X6_hoursToAll E a_o a_o_roads a_o_takes a_o_hours o_corners o_hours) u := by
  refine ctI (by decide) (Nat.le_of_ble_eq_true rfl) ?_
  intro p e s m below meth cd A ls aa QQ hq cx hP hD hS hl
  obtain ⟨⟨hx, hb, hml, hown, hts⟩, hr, hlocks, hK, hA, hX⟩ := id cx
  have hl : lv_has ls 5 [(0, .ref a_o), (1, .int v1)] := hl
  unfold X6_hoursToAll at hf
  refine lv_iconst (v := 0) hx hb dX6_hoursToAll_0 (by decide) ?_
  refine lv_istore_n (lv' := [(2, .int 0), (0, .ref a_o), (1, .int v1)]) hx hb dX6_hoursToAll_1 rfl hl (by decide) rfl (fun ls hl => ?_)
  refine lv_iconst (v := 0) hx hb dX6_hoursToAll_2 (by decide) ?_
  refine lv_istore_n (lv' := [(3, .int 0), (2, .int 0), (0, .ref a_o), (1, .int v1)]) hx hb dX6_hoursToAll_3 rfl hl (by decide) rfl (fun ls hl => ?_)
  obtain ⟨e4, hit4, hf⟩ := bd hf
  refine iter_W (b := X6_hoursToAll_b4 F o_corners o_hours v1) (P := fun st4 => ∀ (H : Heap) (locs : List Loc) (ls : Array Slot), va_P E.1 vwCl (wd_X6_hoursToAll E a_o a_o_roads a_o_takes a_o_hours o_corners o_hours) H → va_D A (wd_X6_hoursToAll E a_o a_o_roads a_o_takes a_o_hours o_corners o_hours) → va_S A s.heap H locs → lv_has ls 5 [(0, .ref a_o), (1, .int v1), (2, .int st4.1), (3, .int st4.2)] → W p l e (rmd 2) s m aa below meth cd H locs 0 0 QQ (F0 m 4 ls [])) (G := (fun (e4 : Int32) => ∀ (H : Heap) (locs : List Loc) (ls : Array Slot), va_P E.1 vwCl (wd_X6_hoursToAll E a_o a_o_roads a_o_takes a_o_hours o_corners o_hours) H → va_D A (wd_X6_hoursToAll E a_o a_o_roads a_o_takes a_o_hours o_corners o_hours) → va_S A s.heap H locs → lv_has ls 5 [(2, .int e4)] → W p l e (rmd 2) s m aa below meth cd H locs 0 0 QQ (F0 m 43 ls []))) ?_ F (0, 0) e4 hit4 ?_ _ _ _ hP hD hS (lv_sub hl [2, 3, 1, 0] rfl)
  · intro st4 r4 hf hk4 he4 H locs ls hP hD hS hl
    have hj35 : ∀ (v3_j35 : Int32) (k0_j35 : Int32) (k1_j35 : Int32) (H : Heap) (locs : List Loc) (ls : Array Slot), X6_hoursToAll_j35 F o_corners o_hours v1 v3_j35 k0_j35 k1_j35 = some r4 → va_P E.1 vwCl (wd_X6_hoursToAll E a_o a_o_roads a_o_takes a_o_hours o_corners o_hours) H → va_D A (wd_X6_hoursToAll E a_o a_o_roads a_o_takes a_o_hours o_corners o_hours) → va_S A s.heap H locs → lv_has ls 5 [(0, .ref a_o), (1, .int v1), (3, .int v3_j35)] → W p l e (rmd 2) s m aa below meth cd H locs 0 0 QQ (F0 m 35 ls [.int k0_j35, .int k1_j35]) := by
      intro v3_j35 k0_j35 k1_j35 H locs ls hf hP hD hS hl
      unfold X6_hoursToAll_j35 at hf
      refine lv_iadd hx hb dX6_hoursToAll_35 ?_
      refine lv_istore_n (lv' := [(2, .int (k1_j35 + k0_j35)), (0, .ref a_o), (1, .int v1), (3, .int v3_j35)]) hx hb dX6_hoursToAll_36 rfl hl (by decide) rfl (fun ls hl => ?_)
      refine lv_iinc (v := (v3_j35 + 1)) (lv' := [(3, .int (v3_j35 + 1)), (2, .int (k1_j35 + k0_j35)), (0, .ref a_o), (1, .int v1)]) hx hb dX6_hoursToAll_37 hl (k := 3) rfl rfl (by decide) rfl (fun ls hl => ?_)
      refine lv_goto (tgt := 4) hx hb dX6_hoursToAll_40 (by decide) ?_
      exact hk4 _ (Option.some.inj hf).symm _ _ _ hP hD hS (lv_sub hl [2, 3, 1, 0] rfl)
    unfold X6_hoursToAll_b4 at hf
    refine lv_iload_n hx hb dX6_hoursToAll_4 rfl (lv_at hl 3 rfl) ?_
    refine lv_aload_n hx hb dX6_hoursToAll_5 rfl (lv_at hl 0 rfl) ?_
    refine va_get (D := E.1) (ci := 6) (v := .int o_corners) (C := RX6) (T := TX6) (N := 4) hx hb hts inX6 hown hK hP 0 rfl rfl 0 (by decide) (hts _ fl_X6_27) (fun _ h9 => h9) rfl dX6_hoursToAll_6 ?_
    refine lv_icmp_ge (tgt := 43) hx hb dX6_hoursToAll_9 (by decide) (fun hc => ?_) (fun hc => ?_)
    · have hf := it_t hc hf
      exact he4 _ (Option.some.inj hf).symm _ _ _ hP hD hS (lv_sub hl [2] rfl)
    · have hf := it_f hc hf
      refine lv_aload_n hx hb dX6_hoursToAll_12 rfl (lv_at hl 0 rfl) ?_
      refine lv_iload_n hx hb dX6_hoursToAll_13 rfl (lv_at hl 1 rfl) ?_
      refine lv_iload_n hx hb dX6_hoursToAll_14 rfl (lv_at hl 3 rfl) ?_
      obtain ⟨u15, hu15, hf⟩ := bd hf
      refine keepVI (ct_X6_hoursBetween l E a_o a_o_roads a_o_takes a_o_hours o_corners o_hours v1 st4.2 u15 hu15) [0, 1] cal_X6_hoursBetween cav_X6_hoursBetween lk_X6_72 cx hP hD hS hl dX6_hoursToAll_15 rfl rfl rfl rfl (Nat.le_of_ble_eq_true rfl) ⟨Nat.le_of_ble_eq_true rfl, Nat.le_of_ble_eq_true rfl⟩ rfl (by decide) (fun H locs hP hS => ?_)
      refine lv_istore (lv' := [(4, .int u15), (0, .ref a_o), (1, .int v1), (2, .int st4.1), (3, .int st4.2)]) hx hb dX6_hoursToAll_18 hl (by decide) rfl (fun ls hl => ?_)
      refine lv_iload_n hx hb dX6_hoursToAll_20 rfl (lv_at hl 3 rfl) ?_
      refine lv_iload hx hb dX6_hoursToAll_21 (lv_at hl 0 rfl) ?_
      refine lv_iconst (v := (-1)) hx hb dX6_hoursToAll_23 (by decide) ?_
      refine lv_icmp_ne (tgt := 33) hx hb dX6_hoursToAll_24 (by decide) (fun hc => ?_) (fun hc => ?_)
      · have hf := it_f hc hf
        refine lv_iload hx hb dX6_hoursToAll_33 (lv_at hl 0 rfl) ?_
        exact hj35 _ _ _ _ _ _ hf hP hD hS (lv_sub hl [1, 2, 4] rfl)
      · have hf := it_t hc hf
        refine lv_sipush (v := 1000) hx hb dX6_hoursToAll_27 (by decide) ?_
        refine lv_goto (tgt := 35) hx hb dX6_hoursToAll_30 (by decide) ?_
        exact hj35 _ _ _ _ _ _ hf hP hD hS (lv_sub hl [1, 2, 4] rfl)
  · refine fun H locs ls hP hD hS hl => ?_
    refine lv_iload_n hx hb dX6_hoursToAll_43 rfl (lv_at hl 0 rfl) ?_
    obtain rfl := Option.some.inj hf
    subst hq
    exact retI cx hP hD hS dX6_hoursToAll_44
def X6_middle_j45 (F : Nat) (o_corners : Int32) (o_hours : Nat → Int32) (v1 : Int32) (v2 : Int32) (v3 : Int32) : Option ((Int32 × Int32 × Int32) ⊕ ((Int32))) :=
  some (.inl (v1, v2, (v3 + 1)))
def X6_middle_j40 (F : Nat) (o_corners : Int32) (o_hours : Nat → Int32) (v3 : Int32) (v4 : Int32) : Option ((Int32 × Int32 × Int32) ⊕ ((Int32))) :=
  X6_middle_j45 F o_corners o_hours v3 v4 v3
def X6_middle_b6 (F : Nat) (o_corners : Int32) (o_hours : Nat → Int32) (st6 : Int32 × Int32 × Int32) : Option ((Int32 × Int32 × Int32) ⊕ ((Int32))) :=
  if o_corners ≤ st6.2.2 then
  some (.inr st6.1)
  else
  (X6_hoursToAll F o_corners o_hours st6.2.2).bind fun u16 =>
  if (1000 : Int32) ≤ u16 then
  X6_middle_j45 F o_corners o_hours st6.1 st6.2.1 st6.2.2
  else
  if st6.1 = (-1) then
  X6_middle_j40 F o_corners o_hours st6.2.2 u16
  else
  if st6.2.1 ≤ u16 then
  X6_middle_j45 F o_corners o_hours st6.1 st6.2.1 st6.2.2
  else
  X6_middle_j40 F o_corners o_hours st6.2.2 u16
def X6_middle (F : Nat) (o_corners : Int32) (o_hours : Nat → Int32) : Option (Int32) :=
  (iter (X6_middle_b6 F o_corners o_hours) F ((-1), 0, 0)).bind (fun (e6 : Int32) =>
    some e6)
abbrev wd_X6_middle (E : vE) (a_o a_o_roads a_o_takes a_o_hours : Nat) (o_corners : Int32) (o_hours : Nat → Int32) : va_W := [(a_o, .inr (6, [.int o_corners, .ref a_o_roads, .ref a_o_takes, .ref a_o_hours])), (a_o_hours, .inl (E.2.1, 64, .inl o_hours))]
set_option maxHeartbeats 4000000 in
set_option maxRecDepth 100000 in
theorem ct_X6_middle (l : Launch) (E : vE) (F : Nat) (a_o a_o_roads a_o_takes a_o_hours : Nat) (o_corners : Int32) (o_hours : Nat → Int32) (u : Int32) (hf : X6_middle F o_corners o_hours = some u) :
    CtI l yX6_middle cX6_middle 5 (some .int) 3 E [.ref a_o] (wd_X6_middle E a_o a_o_roads a_o_takes a_o_hours o_corners o_hours) (wd_X6_middle E a_o a_o_roads a_o_takes a_o_hours o_corners o_hours) u := by
  refine ctI (by decide) (Nat.le_of_ble_eq_true rfl) ?_
  intro p e s m below meth cd A ls aa QQ hq cx hP hD hS hl
  obtain ⟨⟨hx, hb, hml, hown, hts⟩, hr, hlocks, hK, hA, hX⟩ := id cx
  have hl : lv_has ls 5 [(0, .ref a_o)] := hl
  unfold X6_middle at hf
  refine lv_iconst (v := (-1)) hx hb dX6_middle_0 (by decide) ?_
  refine lv_istore_n (lv' := [(1, .int (-1)), (0, .ref a_o)]) hx hb dX6_middle_1 rfl hl (by decide) rfl (fun ls hl => ?_)
  refine lv_iconst (v := 0) hx hb dX6_middle_2 (by decide) ?_
  refine lv_istore_n (lv' := [(2, .int 0), (1, .int (-1)), (0, .ref a_o)]) hx hb dX6_middle_3 rfl hl (by decide) rfl (fun ls hl => ?_)
  refine lv_iconst (v := 0) hx hb dX6_middle_4 (by decide) ?_
  refine lv_istore_n (lv' := [(3, .int 0), (2, .int 0), (1, .int (-1)), (0, .ref a_o)]) hx hb dX6_middle_5 rfl hl (by decide) rfl (fun ls hl => ?_)
  obtain ⟨e6, hit6, hf⟩ := bd hf
  refine iter_W (b := X6_middle_b6 F o_corners o_hours) (P := fun st6 => ∀ (H : Heap) (locs : List Loc) (ls : Array Slot), va_P E.1 vwCl (wd_X6_middle E a_o a_o_roads a_o_takes a_o_hours o_corners o_hours) H → va_D A (wd_X6_middle E a_o a_o_roads a_o_takes a_o_hours o_corners o_hours) → va_S A s.heap H locs → lv_has ls 5 [(0, .ref a_o), (1, .int st6.1), (2, .int st6.2.1), (3, .int st6.2.2)] → W p l e (rmd 3) s m aa below meth cd H locs 0 0 QQ (F0 m 6 ls [])) (G := (fun (e6 : Int32) => ∀ (H : Heap) (locs : List Loc) (ls : Array Slot), va_P E.1 vwCl (wd_X6_middle E a_o a_o_roads a_o_takes a_o_hours o_corners o_hours) H → va_D A (wd_X6_middle E a_o a_o_roads a_o_takes a_o_hours o_corners o_hours) → va_S A s.heap H locs → lv_has ls 5 [(1, .int e6)] → W p l e (rmd 3) s m aa below meth cd H locs 0 0 QQ (F0 m 51 ls []))) ?_ F ((-1), 0, 0) e6 hit6 ?_ _ _ _ hP hD hS (lv_sub hl [3, 2, 1, 0] rfl)
  · intro st6 r6 hf hk6 he6 H locs ls hP hD hS hl
    have hj45 : ∀ (v1_j45 : Int32) (v2_j45 : Int32) (v3_j45 : Int32) (H : Heap) (locs : List Loc) (ls : Array Slot), X6_middle_j45 F o_corners o_hours v1_j45 v2_j45 v3_j45 = some r6 → va_P E.1 vwCl (wd_X6_middle E a_o a_o_roads a_o_takes a_o_hours o_corners o_hours) H → va_D A (wd_X6_middle E a_o a_o_roads a_o_takes a_o_hours o_corners o_hours) → va_S A s.heap H locs → lv_has ls 5 [(0, .ref a_o), (1, .int v1_j45), (2, .int v2_j45), (3, .int v3_j45)] → W p l e (rmd 3) s m aa below meth cd H locs 0 0 QQ (F0 m 45 ls []) := by
      intro v1_j45 v2_j45 v3_j45 H locs ls hf hP hD hS hl
      unfold X6_middle_j45 at hf
      refine lv_iinc (v := (v3_j45 + 1)) (lv' := [(3, .int (v3_j45 + 1)), (0, .ref a_o), (1, .int v1_j45), (2, .int v2_j45)]) hx hb dX6_middle_45 hl (k := 3) rfl rfl (by decide) rfl (fun ls hl => ?_)
      refine lv_goto (tgt := 6) hx hb dX6_middle_48 (by decide) ?_
      exact hk6 _ (Option.some.inj hf).symm _ _ _ hP hD hS (lv_sub hl [1, 2, 3, 0] rfl)
    have hj40 : ∀ (v3_j40 : Int32) (v4_j40 : Int32) (H : Heap) (locs : List Loc) (ls : Array Slot), X6_middle_j40 F o_corners o_hours v3_j40 v4_j40 = some r6 → va_P E.1 vwCl (wd_X6_middle E a_o a_o_roads a_o_takes a_o_hours o_corners o_hours) H → va_D A (wd_X6_middle E a_o a_o_roads a_o_takes a_o_hours o_corners o_hours) → va_S A s.heap H locs → lv_has ls 5 [(0, .ref a_o), (3, .int v3_j40), (4, .int v4_j40)] → W p l e (rmd 3) s m aa below meth cd H locs 0 0 QQ (F0 m 40 ls []) := by
      intro v3_j40 v4_j40 H locs ls hf hP hD hS hl
      unfold X6_middle_j40 at hf
      refine lv_iload_n hx hb dX6_middle_40 rfl (lv_at hl 1 rfl) ?_
      refine lv_istore_n (lv' := [(1, .int v3_j40), (0, .ref a_o), (3, .int v3_j40), (4, .int v4_j40)]) hx hb dX6_middle_41 rfl hl (by decide) rfl (fun ls hl => ?_)
      refine lv_iload hx hb dX6_middle_42 (lv_at hl 3 rfl) ?_
      refine lv_istore_n (lv' := [(2, .int v4_j40), (1, .int v3_j40), (0, .ref a_o), (3, .int v3_j40), (4, .int v4_j40)]) hx hb dX6_middle_44 rfl hl (by decide) rfl (fun ls hl => ?_)
      exact hj45 _ _ _ _ _ _ hf hP hD hS (lv_sub hl [2, 1, 0, 3] rfl)
    unfold X6_middle_b6 at hf
    refine lv_iload_n hx hb dX6_middle_6 rfl (lv_at hl 3 rfl) ?_
    refine lv_aload_n hx hb dX6_middle_7 rfl (lv_at hl 0 rfl) ?_
    refine va_get (D := E.1) (ci := 6) (v := .int o_corners) (C := RX6) (T := TX6) (N := 4) hx hb hts inX6 hown hK hP 0 rfl rfl 0 (by decide) (hts _ fl_X6_27) (fun _ h9 => h9) rfl dX6_middle_8 ?_
    refine lv_icmp_ge (tgt := 51) hx hb dX6_middle_11 (by decide) (fun hc => ?_) (fun hc => ?_)
    · have hf := it_t hc hf
      exact he6 _ (Option.some.inj hf).symm _ _ _ hP hD hS (lv_sub hl [1] rfl)
    · have hf := it_f hc hf
      refine lv_aload_n hx hb dX6_middle_14 rfl (lv_at hl 0 rfl) ?_
      refine lv_iload_n hx hb dX6_middle_15 rfl (lv_at hl 3 rfl) ?_
      obtain ⟨u16, hu16, hf⟩ := bd hf
      refine keepVI (ct_X6_hoursToAll l E F a_o a_o_roads a_o_takes a_o_hours o_corners o_hours st6.2.2 u16 hu16) [0, 1] cal_X6_hoursToAll cav_X6_hoursToAll lk_X6_75 cx hP hD hS hl dX6_middle_16 rfl rfl rfl rfl (Nat.le_of_ble_eq_true rfl) ⟨Nat.le_of_ble_eq_true rfl, Nat.le_of_ble_eq_true rfl⟩ rfl (by decide) (fun H locs hP hS => ?_)
      refine lv_istore (lv' := [(4, .int u16), (0, .ref a_o), (1, .int st6.1), (2, .int st6.2.1), (3, .int st6.2.2)]) hx hb dX6_middle_19 hl (by decide) rfl (fun ls hl => ?_)
      refine lv_iload hx hb dX6_middle_21 (lv_at hl 0 rfl) ?_
      refine lv_sipush (v := 1000) hx hb dX6_middle_23 (by decide) ?_
      refine lv_icmp_ge (tgt := 45) hx hb dX6_middle_26 (by decide) (fun hc => ?_) (fun hc => ?_)
      · have hf := it_t hc hf
        exact hj45 _ _ _ _ _ _ hf hP hD hS (lv_sub hl [1, 2, 3, 4] rfl)
      · have hf := it_f hc hf
        refine lv_iload_n hx hb dX6_middle_29 rfl (lv_at hl 2 rfl) ?_
        refine lv_iconst (v := (-1)) hx hb dX6_middle_30 (by decide) ?_
        refine lv_icmp_eq (tgt := 40) hx hb dX6_middle_31 (by decide) (fun hc => ?_) (fun hc => ?_)
        · have hf := it_t hc hf
          exact hj40 _ _ _ _ _ hf hP hD hS (lv_sub hl [1, 4, 0] rfl)
        · have hf := it_f hc hf
          refine lv_iload hx hb dX6_middle_34 (lv_at hl 0 rfl) ?_
          refine lv_iload_n hx hb dX6_middle_36 rfl (lv_at hl 3 rfl) ?_
          refine lv_icmp_ge (tgt := 45) hx hb dX6_middle_37 (by decide) (fun hc => ?_) (fun hc => ?_)
          · have hf := it_t hc hf
            exact hj45 _ _ _ _ _ _ hf hP hD hS (lv_sub hl [1, 2, 3, 4] rfl)
          · have hf := it_f hc hf
            exact hj40 _ _ _ _ _ hf hP hD hS (lv_sub hl [1, 4, 0] rfl)
  · refine fun H locs ls hP hD hS hl => ?_
    refine lv_iload_n hx hb dX6_middle_51 rfl (lv_at hl 0 rfl) ?_
    obtain rfl := Option.some.inj hf
    subst hq
    exact retI cx hP hD hS dX6_middle_52
def X6_roadsOutOf_j47 (F : Nat) (o_roads_many : Int32) (o_roads_cells : Nat → Int32) (v1 : Int32) (v2 : Int32) (v3 : Int32) : Option ((Int32 × Int32) ⊕ ((Int32))) :=
  some (.inl (v2, (v3 + 1)))
def X6_roadsOutOf_b4 (F : Nat) (o_roads_many : Int32) (o_roads_cells : Nat → Int32) (v1 : Int32) (st4 : Int32 × Int32) : Option ((Int32 × Int32) ⊕ ((Int32))) :=
  if o_roads_many ≤ st4.2 then
  some (.inr st4.1)
  else
  (X7_get 24 2 o_roads_many o_roads_cells st4.2 (0 : Int32)).bind fun u22 =>
  (X7_get 24 2 o_roads_many o_roads_cells st4.2 (1 : Int32)).bind fun u35 =>
  if ((jshr v1 u22) &&& 1) = ((jshr v1 u35) &&& 1) then
  X6_roadsOutOf_j47 F o_roads_many o_roads_cells v1 st4.1 st4.2
  else
  X6_roadsOutOf_j47 F o_roads_many o_roads_cells v1 (st4.1 + 1) st4.2
def X6_roadsOutOf (F : Nat) (o_roads_many : Int32) (o_roads_cells : Nat → Int32) (v1 : Int32) : Option (Int32) :=
  (iter (X6_roadsOutOf_b4 F o_roads_many o_roads_cells v1) F (0, 0)).bind (fun (e4 : Int32) =>
    some e4)
abbrev wd_X6_roadsOutOf (E : vE) (a_o a_o_roads a_o_takes a_o_hours a_o_roads_cells : Nat) (o_corners : Int32) (o_roads_many : Int32) (o_roads_cells : Nat → Int32) : va_W := [(a_o, .inr (6, [.int o_corners, .ref a_o_roads, .ref a_o_takes, .ref a_o_hours])), (a_o_roads, .inr (7, [.int 2, .ref a_o_roads_cells, .int o_roads_many])), (a_o_roads_cells, .inl (E.2.1, 24, .inl o_roads_cells))]
set_option maxHeartbeats 4000000 in
set_option maxRecDepth 100000 in
theorem ct_X6_roadsOutOf (l : Launch) (E : vE) (F : Nat) (a_o a_o_roads a_o_takes a_o_hours a_o_roads_cells : Nat) (o_corners : Int32) (o_roads_many : Int32) (o_roads_cells : Nat → Int32) (v1 : Int32) (u : Int32) (hf : X6_roadsOutOf F o_roads_many o_roads_cells v1 = some u) :
    CtI l yX6_roadsOutOf cX6_roadsOutOf 4 (some .int) 1 E [.ref a_o, .int v1] (wd_X6_roadsOutOf E a_o a_o_roads a_o_takes a_o_hours a_o_roads_cells o_corners o_roads_many o_roads_cells) (wd_X6_roadsOutOf E a_o a_o_roads a_o_takes a_o_hours a_o_roads_cells o_corners o_roads_many o_roads_cells) u := by
  refine ctI (by decide) (Nat.le_of_ble_eq_true rfl) ?_
  intro p e s m below meth cd A ls aa QQ hq cx hP hD hS hl
  obtain ⟨⟨hx, hb, hml, hown, hts⟩, hr, hlocks, hK, hA, hX⟩ := id cx
  have hl : lv_has ls 4 [(0, .ref a_o), (1, .int v1)] := hl
  unfold X6_roadsOutOf at hf
  refine lv_iconst (v := 0) hx hb dX6_roadsOutOf_0 (by decide) ?_
  refine lv_istore_n (lv' := [(2, .int 0), (0, .ref a_o), (1, .int v1)]) hx hb dX6_roadsOutOf_1 rfl hl (by decide) rfl (fun ls hl => ?_)
  refine lv_iconst (v := 0) hx hb dX6_roadsOutOf_2 (by decide) ?_
  refine lv_istore_n (lv' := [(3, .int 0), (2, .int 0), (0, .ref a_o), (1, .int v1)]) hx hb dX6_roadsOutOf_3 rfl hl (by decide) rfl (fun ls hl => ?_)
  obtain ⟨e4, hit4, hf⟩ := bd hf
  refine iter_W (b := X6_roadsOutOf_b4 F o_roads_many o_roads_cells v1) (P := fun st4 => ∀ (H : Heap) (locs : List Loc) (ls : Array Slot), va_P E.1 vwCl (wd_X6_roadsOutOf E a_o a_o_roads a_o_takes a_o_hours a_o_roads_cells o_corners o_roads_many o_roads_cells) H → va_D A (wd_X6_roadsOutOf E a_o a_o_roads a_o_takes a_o_hours a_o_roads_cells o_corners o_roads_many o_roads_cells) → va_S A s.heap H locs → lv_has ls 4 [(0, .ref a_o), (1, .int v1), (2, .int st4.1), (3, .int st4.2)] → W p l e (rmd 1) s m aa below meth cd H locs 0 0 QQ (F0 m 4 ls [])) (G := (fun (e4 : Int32) => ∀ (H : Heap) (locs : List Loc) (ls : Array Slot), va_P E.1 vwCl (wd_X6_roadsOutOf E a_o a_o_roads a_o_takes a_o_hours a_o_roads_cells o_corners o_roads_many o_roads_cells) H → va_D A (wd_X6_roadsOutOf E a_o a_o_roads a_o_takes a_o_hours a_o_roads_cells o_corners o_roads_many o_roads_cells) → va_S A s.heap H locs → lv_has ls 4 [(2, .int e4)] → W p l e (rmd 1) s m aa below meth cd H locs 0 0 QQ (F0 m 53 ls []))) ?_ F (0, 0) e4 hit4 ?_ _ _ _ hP hD hS (lv_sub hl [2, 3, 1, 0] rfl)
  · intro st4 r4 hf hk4 he4 H locs ls hP hD hS hl
    have hj47 : ∀ (v2_j47 : Int32) (v3_j47 : Int32) (H : Heap) (locs : List Loc) (ls : Array Slot), X6_roadsOutOf_j47 F o_roads_many o_roads_cells v1 v2_j47 v3_j47 = some r4 → va_P E.1 vwCl (wd_X6_roadsOutOf E a_o a_o_roads a_o_takes a_o_hours a_o_roads_cells o_corners o_roads_many o_roads_cells) H → va_D A (wd_X6_roadsOutOf E a_o a_o_roads a_o_takes a_o_hours a_o_roads_cells o_corners o_roads_many o_roads_cells) → va_S A s.heap H locs → lv_has ls 4 [(0, .ref a_o), (1, .int v1), (2, .int v2_j47), (3, .int v3_j47)] → W p l e (rmd 1) s m aa below meth cd H locs 0 0 QQ (F0 m 47 ls []) := by
      intro v2_j47 v3_j47 H locs ls hf hP hD hS hl
      unfold X6_roadsOutOf_j47 at hf
      refine lv_iinc (v := (v3_j47 + 1)) (lv' := [(3, .int (v3_j47 + 1)), (0, .ref a_o), (1, .int v1), (2, .int v2_j47)]) hx hb dX6_roadsOutOf_47 hl (k := 3) rfl rfl (by decide) rfl (fun ls hl => ?_)
      refine lv_goto (tgt := 4) hx hb dX6_roadsOutOf_50 (by decide) ?_
      exact hk4 _ (Option.some.inj hf).symm _ _ _ hP hD hS (lv_sub hl [1, 2, 3, 0] rfl)
    unfold X6_roadsOutOf_b4 at hf
    refine lv_iload_n hx hb dX6_roadsOutOf_4 rfl (lv_at hl 3 rfl) ?_
    refine lv_aload_n hx hb dX6_roadsOutOf_5 rfl (lv_at hl 0 rfl) ?_
    refine va_get (D := E.1) (ci := 6) (v := .ref a_o_roads) (C := RX6) (T := TX6) (N := 4) hx hb hts inX6 hown hK hP 0 rfl rfl 1 (by decide) (hts _ fl_X6_16) (fun _ h9 => h9) rfl dX6_roadsOutOf_6 ?_
    refine va_get (D := E.1) (ci := 7) (v := .int o_roads_many) (C := RX7) (T := TX7) (N := 3) hx hb hts inX7 hown hK hP 1 rfl rfl 2 (by decide) (hts _ fl_X6_31) (fun _ h9 => h9) rfl dX6_roadsOutOf_9 ?_
    refine lv_icmp_ge (tgt := 53) hx hb dX6_roadsOutOf_12 (by decide) (fun hc => ?_) (fun hc => ?_)
    · have hf := it_t hc hf
      exact he4 _ (Option.some.inj hf).symm _ _ _ hP hD hS (lv_sub hl [2] rfl)
    · have hf := it_f hc hf
      refine lv_iload_n hx hb dX6_roadsOutOf_15 rfl (lv_at hl 1 rfl) ?_
      refine lv_aload_n hx hb dX6_roadsOutOf_16 rfl (lv_at hl 0 rfl) ?_
      refine va_get (D := E.1) (ci := 6) (v := .ref a_o_roads) (C := RX6) (T := TX6) (N := 4) hx hb hts inX6 hown hK hP 0 rfl rfl 1 (by decide) (hts _ fl_X6_16) (fun _ h9 => h9) rfl dX6_roadsOutOf_17 ?_
      refine lv_iload_n hx hb dX6_roadsOutOf_20 rfl (lv_at hl 3 rfl) ?_
      refine lv_iconst (v := 0) hx hb dX6_roadsOutOf_21 (by decide) ?_
      obtain ⟨u22, hu22, hf⟩ := bd hf
      refine keepVI (ct_X7_get l E a_o_roads a_o_roads_cells 24 2 o_roads_many o_roads_cells st4.2 (0 : Int32) u22 hu22) [1, 2] cal_X7_get cav_X7_get lk_X6_82 cx hP hD hS hl dX6_roadsOutOf_22 rfl rfl rfl rfl (Nat.le_of_ble_eq_true rfl) ⟨Nat.le_of_ble_eq_true rfl, Nat.le_of_ble_eq_true rfl⟩ rfl (by decide) (fun H locs hP hS => ?_)
      refine r_ishr hx hb dX6_roadsOutOf_25 ?_
      refine lv_iconst (v := 1) hx hb dX6_roadsOutOf_26 (by decide) ?_
      refine lv_iand hx hb dX6_roadsOutOf_27 ?_
      refine lv_iload_n hx hb dX6_roadsOutOf_28 rfl (lv_at hl 1 rfl) ?_
      refine lv_aload_n hx hb dX6_roadsOutOf_29 rfl (lv_at hl 0 rfl) ?_
      refine va_get (D := E.1) (ci := 6) (v := .ref a_o_roads) (C := RX6) (T := TX6) (N := 4) hx hb hts inX6 hown hK hP 0 rfl rfl 1 (by decide) (hts _ fl_X6_16) (fun _ h9 => h9) rfl dX6_roadsOutOf_30 ?_
      refine lv_iload_n hx hb dX6_roadsOutOf_33 rfl (lv_at hl 3 rfl) ?_
      refine lv_iconst (v := 1) hx hb dX6_roadsOutOf_34 (by decide) ?_
      obtain ⟨u35, hu35, hf⟩ := bd hf
      refine keepVI (ct_X7_get l E a_o_roads a_o_roads_cells 24 2 o_roads_many o_roads_cells st4.2 (1 : Int32) u35 hu35) [1, 2] cal_X7_get cav_X7_get lk_X6_82 cx hP hD hS hl dX6_roadsOutOf_35 rfl rfl rfl rfl (Nat.le_of_ble_eq_true rfl) ⟨Nat.le_of_ble_eq_true rfl, Nat.le_of_ble_eq_true rfl⟩ rfl (by decide) (fun H locs hP hS => ?_)
      refine r_ishr hx hb dX6_roadsOutOf_38 ?_
      refine lv_iconst (v := 1) hx hb dX6_roadsOutOf_39 (by decide) ?_
      refine lv_iand hx hb dX6_roadsOutOf_40 ?_
      refine lv_icmp_eq (tgt := 47) hx hb dX6_roadsOutOf_41 (by decide) (fun hc => ?_) (fun hc => ?_)
      · have hf := it_t hc hf
        exact hj47 _ _ _ _ _ hf hP hD hS (lv_sub hl [0, 1, 2, 3] rfl)
      · have hf := it_f hc hf
        refine lv_iinc (v := (st4.1 + 1)) (lv' := [(2, .int (st4.1 + 1)), (0, .ref a_o), (1, .int v1), (3, .int st4.2)]) hx hb dX6_roadsOutOf_44 hl (k := 2) rfl rfl (by decide) rfl (fun ls hl => ?_)
        exact hj47 _ _ _ _ _ hf hP hD hS (lv_sub hl [1, 2, 0, 3] rfl)
  · refine fun H locs ls hP hD hS hl => ?_
    refine lv_iload_n hx hb dX6_roadsOutOf_53 rfl (lv_at hl 0 rfl) ?_
    obtain rfl := Option.some.inj hf
    subst hq
    exact retI cx hP hD hS dX6_roadsOutOf_54
def X6_fewestClosed_j52 (F : Nat) (o_corners : Int32) (o_roads_many : Int32) (o_roads_cells : Nat → Int32) (v1 : Int32) (v2 : Int32) (v3 : Int32) (v4 : Int32) : Option ((Int32 × Int32) ⊕ ((Int32))) :=
  some (.inl (v3, (v4 + 1)))
def X6_fewestClosed_b11 (F : Nat) (o_corners : Int32) (o_roads_many : Int32) (o_roads_cells : Nat → Int32) (v1 : Int32) (v2 : Int32) (st11 : Int32 × Int32) : Option ((Int32 × Int32) ⊕ ((Int32))) :=
  if (jshl 1 o_corners) ≤ st11.2 then
  some (.inr st11.1)
  else
  if ((jshr st11.2 v1) &&& 1) = 1 then
  if ((jshr st11.2 v2) &&& 1) = 0 then
  (X6_roadsOutOf F o_roads_many o_roads_cells st11.2).bind fun u45 =>
  X6_fewestClosed_j52 F o_corners o_roads_many o_roads_cells v1 v2 (jmin st11.1 u45) st11.2
  else
  X6_fewestClosed_j52 F o_corners o_roads_many o_roads_cells v1 v2 st11.1 st11.2
  else
  X6_fewestClosed_j52 F o_corners o_roads_many o_roads_cells v1 v2 st11.1 st11.2
def X6_fewestClosed (F : Nat) (o_corners : Int32) (o_roads_many : Int32) (o_roads_cells : Nat → Int32) (v1 : Int32) (v2 : Int32) : Option (Int32) :=
  (iter (X6_fewestClosed_b11 F o_corners o_roads_many o_roads_cells v1 v2) F (o_roads_many, 0)).bind (fun (e11 : Int32) =>
    some e11)
abbrev wd_X6_fewestClosed (E : vE) (a_o a_o_roads a_o_takes a_o_hours a_o_roads_cells : Nat) (o_corners : Int32) (o_roads_many : Int32) (o_roads_cells : Nat → Int32) : va_W := [(a_o, .inr (6, [.int o_corners, .ref a_o_roads, .ref a_o_takes, .ref a_o_hours])), (a_o_roads, .inr (7, [.int 2, .ref a_o_roads_cells, .int o_roads_many])), (a_o_roads_cells, .inl (E.2.1, 24, .inl o_roads_cells))]
set_option maxHeartbeats 4000000 in
set_option maxRecDepth 100000 in
theorem ct_X6_fewestClosed (l : Launch) (E : vE) (F : Nat) (a_o a_o_roads a_o_takes a_o_hours a_o_roads_cells : Nat) (o_corners : Int32) (o_roads_many : Int32) (o_roads_cells : Nat → Int32) (v1 : Int32) (v2 : Int32) (u : Int32) (hf : X6_fewestClosed F o_corners o_roads_many o_roads_cells v1 v2 = some u) :
    CtI l yX6_fewestClosed cX6_fewestClosed 5 (some .int) 2 E [.ref a_o, .int v1, .int v2] (wd_X6_fewestClosed E a_o a_o_roads a_o_takes a_o_hours a_o_roads_cells o_corners o_roads_many o_roads_cells) (wd_X6_fewestClosed E a_o a_o_roads a_o_takes a_o_hours a_o_roads_cells o_corners o_roads_many o_roads_cells) u := by
  refine ctI (by decide) (Nat.le_of_ble_eq_true rfl) ?_
  intro p e s m below meth cd A ls aa QQ hq cx hP hD hS hl
  obtain ⟨⟨hx, hb, hml, hown, hts⟩, hr, hlocks, hK, hA, hX⟩ := id cx
  have hl : lv_has ls 5 [(0, .ref a_o), (1, .int v1), (2, .int v2)] := hl
  unfold X6_fewestClosed at hf
  refine lv_aload_n hx hb dX6_fewestClosed_0 rfl (lv_at hl 0 rfl) ?_
  refine va_get (D := E.1) (ci := 6) (v := .ref a_o_roads) (C := RX6) (T := TX6) (N := 4) hx hb hts inX6 hown hK hP 0 rfl rfl 1 (by decide) (hts _ fl_X6_16) (fun _ h9 => h9) rfl dX6_fewestClosed_1 ?_
  refine va_get (D := E.1) (ci := 7) (v := .int o_roads_many) (C := RX7) (T := TX7) (N := 3) hx hb hts inX7 hown hK hP 1 rfl rfl 2 (by decide) (hts _ fl_X6_31) (fun _ h9 => h9) rfl dX6_fewestClosed_4 ?_
  refine lv_istore_n (lv' := [(3, .int o_roads_many), (0, .ref a_o), (1, .int v1), (2, .int v2)]) hx hb dX6_fewestClosed_7 rfl hl (by decide) rfl (fun ls hl => ?_)
  refine lv_iconst (v := 0) hx hb dX6_fewestClosed_8 (by decide) ?_
  refine lv_istore (lv' := [(4, .int 0), (3, .int o_roads_many), (0, .ref a_o), (1, .int v1), (2, .int v2)]) hx hb dX6_fewestClosed_9 hl (by decide) rfl (fun ls hl => ?_)
  obtain ⟨e11, hit11, hf⟩ := bd hf
  refine iter_W (b := X6_fewestClosed_b11 F o_corners o_roads_many o_roads_cells v1 v2) (P := fun st11 => ∀ (H : Heap) (locs : List Loc) (ls : Array Slot), va_P E.1 vwCl (wd_X6_fewestClosed E a_o a_o_roads a_o_takes a_o_hours a_o_roads_cells o_corners o_roads_many o_roads_cells) H → va_D A (wd_X6_fewestClosed E a_o a_o_roads a_o_takes a_o_hours a_o_roads_cells o_corners o_roads_many o_roads_cells) → va_S A s.heap H locs → lv_has ls 5 [(0, .ref a_o), (1, .int v1), (2, .int v2), (3, .int st11.1), (4, .int st11.2)] → W p l e (rmd 2) s m aa below meth cd H locs 0 0 QQ (F0 m 11 ls [])) (G := (fun (e11 : Int32) => ∀ (H : Heap) (locs : List Loc) (ls : Array Slot), va_P E.1 vwCl (wd_X6_fewestClosed E a_o a_o_roads a_o_takes a_o_hours a_o_roads_cells o_corners o_roads_many o_roads_cells) H → va_D A (wd_X6_fewestClosed E a_o a_o_roads a_o_takes a_o_hours a_o_roads_cells o_corners o_roads_many o_roads_cells) → va_S A s.heap H locs → lv_has ls 5 [(3, .int e11)] → W p l e (rmd 2) s m aa below meth cd H locs 0 0 QQ (F0 m 58 ls []))) ?_ F (o_roads_many, 0) e11 hit11 ?_ _ _ _ hP hD hS (lv_sub hl [2, 3, 4, 1, 0] rfl)
  · intro st11 r11 hf hk11 he11 H locs ls hP hD hS hl
    have hj52 : ∀ (v3_j52 : Int32) (v4_j52 : Int32) (H : Heap) (locs : List Loc) (ls : Array Slot), X6_fewestClosed_j52 F o_corners o_roads_many o_roads_cells v1 v2 v3_j52 v4_j52 = some r11 → va_P E.1 vwCl (wd_X6_fewestClosed E a_o a_o_roads a_o_takes a_o_hours a_o_roads_cells o_corners o_roads_many o_roads_cells) H → va_D A (wd_X6_fewestClosed E a_o a_o_roads a_o_takes a_o_hours a_o_roads_cells o_corners o_roads_many o_roads_cells) → va_S A s.heap H locs → lv_has ls 5 [(0, .ref a_o), (1, .int v1), (2, .int v2), (3, .int v3_j52), (4, .int v4_j52)] → W p l e (rmd 2) s m aa below meth cd H locs 0 0 QQ (F0 m 52 ls []) := by
      intro v3_j52 v4_j52 H locs ls hf hP hD hS hl
      unfold X6_fewestClosed_j52 at hf
      refine lv_iinc (v := (v4_j52 + 1)) (lv' := [(4, .int (v4_j52 + 1)), (0, .ref a_o), (1, .int v1), (2, .int v2), (3, .int v3_j52)]) hx hb dX6_fewestClosed_52 hl (k := 4) rfl rfl (by decide) rfl (fun ls hl => ?_)
      refine lv_goto (tgt := 11) hx hb dX6_fewestClosed_55 (by decide) ?_
      exact hk11 _ (Option.some.inj hf).symm _ _ _ hP hD hS (lv_sub hl [1, 2, 3, 4, 0] rfl)
    unfold X6_fewestClosed_b11 at hf
    refine lv_iload hx hb dX6_fewestClosed_11 (lv_at hl 4 rfl) ?_
    refine lv_iconst (v := 1) hx hb dX6_fewestClosed_13 (by decide) ?_
    refine lv_aload_n hx hb dX6_fewestClosed_14 rfl (lv_at hl 0 rfl) ?_
    refine va_get (D := E.1) (ci := 6) (v := .int o_corners) (C := RX6) (T := TX6) (N := 4) hx hb hts inX6 hown hK hP 0 rfl rfl 0 (by decide) (hts _ fl_X6_27) (fun _ h9 => h9) rfl dX6_fewestClosed_15 ?_
    refine r_ishl hx hb dX6_fewestClosed_18 ?_
    refine lv_icmp_ge (tgt := 58) hx hb dX6_fewestClosed_19 (by decide) (fun hc => ?_) (fun hc => ?_)
    · have hf := it_t hc hf
      exact he11 _ (Option.some.inj hf).symm _ _ _ hP hD hS (lv_sub hl [3] rfl)
    · have hf := it_f hc hf
      refine lv_iload hx hb dX6_fewestClosed_22 (lv_at hl 4 rfl) ?_
      refine lv_iload_n hx hb dX6_fewestClosed_24 rfl (lv_at hl 1 rfl) ?_
      refine r_ishr hx hb dX6_fewestClosed_25 ?_
      refine lv_iconst (v := 1) hx hb dX6_fewestClosed_26 (by decide) ?_
      refine lv_iand hx hb dX6_fewestClosed_27 ?_
      refine lv_iconst (v := 1) hx hb dX6_fewestClosed_28 (by decide) ?_
      refine lv_icmp_ne (tgt := 52) hx hb dX6_fewestClosed_29 (by decide) (fun hc => ?_) (fun hc => ?_)
      · have hf := it_f hc hf
        exact hj52 _ _ _ _ _ hf hP hD hS (lv_sub hl [0, 1, 2, 3, 4] rfl)
      · have hf := it_t hc hf
        refine lv_iload hx hb dX6_fewestClosed_32 (lv_at hl 4 rfl) ?_
        refine lv_iload_n hx hb dX6_fewestClosed_34 rfl (lv_at hl 2 rfl) ?_
        refine r_ishr hx hb dX6_fewestClosed_35 ?_
        refine lv_iconst (v := 1) hx hb dX6_fewestClosed_36 (by decide) ?_
        refine lv_iand hx hb dX6_fewestClosed_37 ?_
        refine lv_if_ne (tgt := 52) hx hb dX6_fewestClosed_38 (by decide) (fun hc => ?_) (fun hc => ?_)
        · have hf := it_f hc hf
          exact hj52 _ _ _ _ _ hf hP hD hS (lv_sub hl [0, 1, 2, 3, 4] rfl)
        · have hf := it_t hc hf
          refine lv_iload_n hx hb dX6_fewestClosed_41 rfl (lv_at hl 3 rfl) ?_
          refine lv_aload_n hx hb dX6_fewestClosed_42 rfl (lv_at hl 0 rfl) ?_
          refine lv_iload hx hb dX6_fewestClosed_43 (lv_at hl 4 rfl) ?_
          obtain ⟨u45, hu45, hf⟩ := bd hf
          refine keepVI (ct_X6_roadsOutOf l E F a_o a_o_roads a_o_takes a_o_hours a_o_roads_cells o_corners o_roads_many o_roads_cells st11.2 u45 hu45) [0, 1, 2] cal_X6_roadsOutOf cav_X6_roadsOutOf lk_X6_79 cx hP hD hS hl dX6_fewestClosed_45 rfl rfl rfl rfl (Nat.le_of_ble_eq_true rfl) ⟨Nat.le_of_ble_eq_true rfl, Nat.le_of_ble_eq_true rfl⟩ rfl (by decide) (fun H locs hP hS => ?_)
          refine r_mmin cx hl lk_X6_67 mt_min (Nat.le_of_ble_eq_true rfl) (Nat.le_of_ble_eq_true rfl) dX6_fewestClosed_48 ?_
          refine lv_istore_n (lv' := [(3, .int (jmin st11.1 u45)), (0, .ref a_o), (1, .int v1), (2, .int v2), (4, .int st11.2)]) hx hb dX6_fewestClosed_51 rfl hl (by decide) rfl (fun ls hl => ?_)
          exact hj52 _ _ _ _ _ hf hP hD hS (lv_sub hl [1, 2, 3, 0, 4] rfl)
  · refine fun H locs ls hP hD hS hl => ?_
    refine lv_iload_n hx hb dX6_fewestClosed_58 rfl (lv_at hl 0 rfl) ?_
    obtain rfl := Option.some.inj hf
    subst hq
    exact retI cx hP hD hS dX6_fewestClosed_59
def X8_hasRoomFor (o_held : Int32) (v1 : Int32) : Option (Int32) :=
  if (900 : Int32) < (o_held + v1) then
  some 0
  else
  some 1
abbrev wd_X8_hasRoomFor (E : vE) (a_o a_o_text : Nat) (o_held : Int32) (o_length : Int32) (o_place : Int32) (o_next : Int32) (o_sort : Int32) (o_value : Int32) (o_code : Int64) (o_fault : Int32) (o_faultPlace : Int32) : va_W := [(a_o, .inr (8, [.ref a_o_text, .int o_held, .int o_length, .int o_place, .int o_next, .int o_sort, .int o_value, .long o_code, .int o_fault, .int o_faultPlace]))]
set_option maxHeartbeats 4000000 in
set_option maxRecDepth 100000 in
theorem ct_X8_hasRoomFor (l : Launch) (E : vE) (a_o a_o_text : Nat) (o_held : Int32) (o_length : Int32) (o_place : Int32) (o_next : Int32) (o_sort : Int32) (o_value : Int32) (o_code : Int64) (o_fault : Int32) (o_faultPlace : Int32) (v1 : Int32) (u : Int32) (hf : X8_hasRoomFor o_held v1 = some u) :
    CtI l yX8_hasRoomFor cX8_hasRoomFor 2 (some .boolean) 0 E [.ref a_o, .int v1] (wd_X8_hasRoomFor E a_o a_o_text o_held o_length o_place o_next o_sort o_value o_code o_fault o_faultPlace) (wd_X8_hasRoomFor E a_o a_o_text o_held o_length o_place o_next o_sort o_value o_code o_fault o_faultPlace) u := by
  refine ctI (by decide) (Nat.le_of_ble_eq_true rfl) ?_
  intro p e s m below meth cd A ls aa QQ hq cx hP hD hS hl
  obtain ⟨⟨hx, hb, hml, hown, hts⟩, hr, hlocks, hK, hA, hX⟩ := id cx
  have hl : lv_has ls 2 [(0, .ref a_o), (1, .int v1)] := hl
  unfold X8_hasRoomFor at hf
  refine lv_aload_n hx hb dX8_hasRoomFor_0 rfl (lv_at hl 0 rfl) ?_
  refine va_get (D := E.1) (ci := 8) (v := .int o_held) (C := RX8) (T := TX8) (N := 10) hx hb hts inX8 hown hK hP 0 rfl rfl 1 (by decide) (hts _ fl_X8_19) (fun _ h9 => h9) rfl dX8_hasRoomFor_1 ?_
  refine lv_iload_n hx hb dX8_hasRoomFor_4 rfl (lv_at hl 1 rfl) ?_
  refine lv_iadd hx hb dX8_hasRoomFor_5 ?_
  refine lv_sipush (v := 900) hx hb dX8_hasRoomFor_6 (by decide) ?_
  refine lv_icmp_gt (tgt := 16) hx hb dX8_hasRoomFor_9 (by decide) (fun hc => ?_) (fun hc => ?_)
  · have hf := it_t hc hf
    refine lv_iconst (v := 0) hx hb dX8_hasRoomFor_16 (by decide) ?_
    obtain rfl := Option.some.inj hf
    subst hq
    exact retZ cx rfl hP hD hS dX8_hasRoomFor_17
  · have hf := it_f hc hf
    refine lv_iconst (v := 1) hx hb dX8_hasRoomFor_12 (by decide) ?_
    refine lv_goto (tgt := 17) hx hb dX8_hasRoomFor_13 (by decide) ?_
    obtain rfl := Option.some.inj hf
    subst hq
    exact retZ cx rfl hP hD hS dX8_hasRoomFor_17
def X8_append (o_held : Int32) (o_text : Nat → Int32) (v1 : Int32) : Option (Int32 × (Nat → Int32)) :=
  (X8_hasRoomFor o_held (4 : Int32)).bind fun u2 =>
  if u2 = 0 then
  some (o_held, o_text)
  else
  if ix o_held 900 then
  if ix (o_held + 1) 900 then
  if ix (o_held + 2) 900 then
  if ix (o_held + 3) 900 then
  some ((o_held + 4), (jput (jput (jput (jput o_text o_held (jushr v1 24)) (o_held + 1) ((jushr v1 16) &&& 255)) (o_held + 2) ((jushr v1 8) &&& 255)) (o_held + 3) (v1 &&& 255)))
  else none
  else none
  else none
  else none
abbrev wd_X8_append (E : vE) (a_o a_o_text : Nat) (o_held : Int32) (o_length : Int32) (o_place : Int32) (o_next : Int32) (o_sort : Int32) (o_value : Int32) (o_code : Int64) (o_fault : Int32) (o_faultPlace : Int32) (o_text : Nat → Int32) : va_W := [(a_o, .inr (8, [.ref a_o_text, .int o_held, .int o_length, .int o_place, .int o_next, .int o_sort, .int o_value, .long o_code, .int o_fault, .int o_faultPlace])), (a_o_text, .inl (E.2.1, 900, .inl o_text))]
set_option maxHeartbeats 4000000 in
set_option maxRecDepth 100000 in
theorem ct_X8_append (l : Launch) (E : vE) (a_o a_o_text : Nat) (o_held : Int32) (o_length : Int32) (o_place : Int32) (o_next : Int32) (o_sort : Int32) (o_value : Int32) (o_code : Int64) (o_fault : Int32) (o_faultPlace : Int32) (o_text : Nat → Int32) (v1 : Int32) (u : Int32 × (Nat → Int32)) (hf : X8_append o_held o_text v1 = some u) :
    CtV l yX8_append cX8_append 2 none 1 E [.ref a_o, .int v1] (wd_X8_append E a_o a_o_text o_held o_length o_place o_next o_sort o_value o_code o_fault o_faultPlace o_text) (wd_X8_append E a_o a_o_text u.1 o_length o_place o_next o_sort o_value o_code o_fault o_faultPlace u.2) := by
  refine ctV (by decide) (Nat.le_of_ble_eq_true rfl) ?_
  intro p e s m below meth cd A ls aa QQ hq cx hP hD hS hl
  obtain ⟨⟨hx, hb, hml, hown, hts⟩, hr, hlocks, hK, hA, hX⟩ := id cx
  have hl : lv_has ls 2 [(0, .ref a_o), (1, .int v1)] := hl
  unfold X8_append at hf
  refine lv_aload_n hx hb dX8_append_0 rfl (lv_at hl 0 rfl) ?_
  refine lv_iconst (v := 4) hx hb dX8_append_1 (by decide) ?_
  obtain ⟨u2, hu2, hf⟩ := bd hf
  refine keepVI (ct_X8_hasRoomFor l E a_o a_o_text o_held o_length o_place o_next o_sort o_value o_code o_fault o_faultPlace (4 : Int32) u2 hu2) [0] cal_X8_hasRoomFor cav_X8_hasRoomFor lk_X8_22 cx hP hD hS hl dX8_append_2 rfl rfl rfl rfl (Nat.le_of_ble_eq_true rfl) ⟨Nat.le_of_ble_eq_true rfl, Nat.le_of_ble_eq_true rfl⟩ rfl (by decide) (fun H locs hP hS => ?_)
  refine lv_if_eq (tgt := 85) hx hb dX8_append_5 (by decide) (fun hc => ?_) (fun hc => ?_)
  · have hf := it_t hc hf
    obtain rfl := Option.some.inj hf
    subst hq
    exact retV cx hP hD hS dX8_append_85
  · have hf := it_f hc hf
    refine lv_aload_n hx hb dX8_append_8 rfl (lv_at hl 0 rfl) ?_
    refine va_get (D := E.1) (ci := 8) (v := .ref a_o_text) (C := RX8) (T := TX8) (N := 10) hx hb hts inX8 hown hK hP 0 rfl rfl 0 (by decide) (hts _ fl_X8_11) (fun _ h9 => h9) rfl dX8_append_9 ?_
    refine lv_aload_n hx hb dX8_append_12 rfl (lv_at hl 0 rfl) ?_
    refine va_get (D := E.1) (ci := 8) (v := .int o_held) (C := RX8) (T := TX8) (N := 10) hx hb hts inX8 hown hK hP 0 rfl rfl 1 (by decide) (hts _ fl_X8_19) (fun _ h9 => h9) rfl dX8_append_13 ?_
    refine lv_iload_n hx hb dX8_append_16 rfl (lv_at hl 1 rfl) ?_
    refine lv_bipush (v := 24) hx hb dX8_append_17 (by decide) ?_
    refine lv_iushr (v := (jushr v1 24)) hx hb dX8_append_19 rfl ?_
    obtain ⟨hi, hf⟩ := ck hf
    refine r_iast 1 cx hP hD hS rfl hi dX8_append_20 (fun H locs hP hD hS => ?_)
    have hP : va_P E.1 vwCl (wd_X8_append E a_o a_o_text o_held o_length o_place o_next o_sort o_value o_code o_fault o_faultPlace (jput o_text o_held (jushr v1 24))) H := hP
    have hD : va_D A (wd_X8_append E a_o a_o_text o_held o_length o_place o_next o_sort o_value o_code o_fault o_faultPlace (jput o_text o_held (jushr v1 24))) := hD
    refine lv_aload_n hx hb dX8_append_21 rfl (lv_at hl 0 rfl) ?_
    refine va_get (D := E.1) (ci := 8) (v := .ref a_o_text) (C := RX8) (T := TX8) (N := 10) hx hb hts inX8 hown hK hP 0 rfl rfl 0 (by decide) (hts _ fl_X8_11) (fun _ h9 => h9) rfl dX8_append_22 ?_
    refine lv_aload_n hx hb dX8_append_25 rfl (lv_at hl 0 rfl) ?_
    refine va_get (D := E.1) (ci := 8) (v := .int o_held) (C := RX8) (T := TX8) (N := 10) hx hb hts inX8 hown hK hP 0 rfl rfl 1 (by decide) (hts _ fl_X8_19) (fun _ h9 => h9) rfl dX8_append_26 ?_
    refine lv_iconst (v := 1) hx hb dX8_append_29 (by decide) ?_
    refine lv_iadd hx hb dX8_append_30 ?_
    refine lv_iload_n hx hb dX8_append_31 rfl (lv_at hl 1 rfl) ?_
    refine lv_bipush (v := 16) hx hb dX8_append_32 (by decide) ?_
    refine lv_iushr (v := (jushr v1 16)) hx hb dX8_append_34 rfl ?_
    refine lv_sipush (v := 255) hx hb dX8_append_35 (by decide) ?_
    refine lv_iand hx hb dX8_append_38 ?_
    obtain ⟨hi, hf⟩ := ck hf
    refine r_iast 1 cx hP hD hS rfl hi dX8_append_39 (fun H locs hP hD hS => ?_)
    have hP : va_P E.1 vwCl (wd_X8_append E a_o a_o_text o_held o_length o_place o_next o_sort o_value o_code o_fault o_faultPlace (jput (jput o_text o_held (jushr v1 24)) (o_held + 1) ((jushr v1 16) &&& 255))) H := hP
    have hD : va_D A (wd_X8_append E a_o a_o_text o_held o_length o_place o_next o_sort o_value o_code o_fault o_faultPlace (jput (jput o_text o_held (jushr v1 24)) (o_held + 1) ((jushr v1 16) &&& 255))) := hD
    refine lv_aload_n hx hb dX8_append_40 rfl (lv_at hl 0 rfl) ?_
    refine va_get (D := E.1) (ci := 8) (v := .ref a_o_text) (C := RX8) (T := TX8) (N := 10) hx hb hts inX8 hown hK hP 0 rfl rfl 0 (by decide) (hts _ fl_X8_11) (fun _ h9 => h9) rfl dX8_append_41 ?_
    refine lv_aload_n hx hb dX8_append_44 rfl (lv_at hl 0 rfl) ?_
    refine va_get (D := E.1) (ci := 8) (v := .int o_held) (C := RX8) (T := TX8) (N := 10) hx hb hts inX8 hown hK hP 0 rfl rfl 1 (by decide) (hts _ fl_X8_19) (fun _ h9 => h9) rfl dX8_append_45 ?_
    refine lv_iconst (v := 2) hx hb dX8_append_48 (by decide) ?_
    refine lv_iadd hx hb dX8_append_49 ?_
    refine lv_iload_n hx hb dX8_append_50 rfl (lv_at hl 1 rfl) ?_
    refine lv_bipush (v := 8) hx hb dX8_append_51 (by decide) ?_
    refine lv_iushr (v := (jushr v1 8)) hx hb dX8_append_53 rfl ?_
    refine lv_sipush (v := 255) hx hb dX8_append_54 (by decide) ?_
    refine lv_iand hx hb dX8_append_57 ?_
    obtain ⟨hi, hf⟩ := ck hf
    refine r_iast 1 cx hP hD hS rfl hi dX8_append_58 (fun H locs hP hD hS => ?_)
    have hP : va_P E.1 vwCl (wd_X8_append E a_o a_o_text o_held o_length o_place o_next o_sort o_value o_code o_fault o_faultPlace (jput (jput (jput o_text o_held (jushr v1 24)) (o_held + 1) ((jushr v1 16) &&& 255)) (o_held + 2) ((jushr v1 8) &&& 255))) H := hP
    have hD : va_D A (wd_X8_append E a_o a_o_text o_held o_length o_place o_next o_sort o_value o_code o_fault o_faultPlace (jput (jput (jput o_text o_held (jushr v1 24)) (o_held + 1) ((jushr v1 16) &&& 255)) (o_held + 2) ((jushr v1 8) &&& 255))) := hD
    refine lv_aload_n hx hb dX8_append_59 rfl (lv_at hl 0 rfl) ?_
    refine va_get (D := E.1) (ci := 8) (v := .ref a_o_text) (C := RX8) (T := TX8) (N := 10) hx hb hts inX8 hown hK hP 0 rfl rfl 0 (by decide) (hts _ fl_X8_11) (fun _ h9 => h9) rfl dX8_append_60 ?_
    refine lv_aload_n hx hb dX8_append_63 rfl (lv_at hl 0 rfl) ?_
    refine va_get (D := E.1) (ci := 8) (v := .int o_held) (C := RX8) (T := TX8) (N := 10) hx hb hts inX8 hown hK hP 0 rfl rfl 1 (by decide) (hts _ fl_X8_19) (fun _ h9 => h9) rfl dX8_append_64 ?_
    refine lv_iconst (v := 3) hx hb dX8_append_67 (by decide) ?_
    refine lv_iadd hx hb dX8_append_68 ?_
    refine lv_iload_n hx hb dX8_append_69 rfl (lv_at hl 1 rfl) ?_
    refine lv_sipush (v := 255) hx hb dX8_append_70 (by decide) ?_
    refine lv_iand hx hb dX8_append_73 ?_
    obtain ⟨hi, hf⟩ := ck hf
    refine r_iast 1 cx hP hD hS rfl hi dX8_append_74 (fun H locs hP hD hS => ?_)
    have hP : va_P E.1 vwCl (wd_X8_append E a_o a_o_text o_held o_length o_place o_next o_sort o_value o_code o_fault o_faultPlace (jput (jput (jput (jput o_text o_held (jushr v1 24)) (o_held + 1) ((jushr v1 16) &&& 255)) (o_held + 2) ((jushr v1 8) &&& 255)) (o_held + 3) (v1 &&& 255))) H := hP
    have hD : va_D A (wd_X8_append E a_o a_o_text o_held o_length o_place o_next o_sort o_value o_code o_fault o_faultPlace (jput (jput (jput (jput o_text o_held (jushr v1 24)) (o_held + 1) ((jushr v1 16) &&& 255)) (o_held + 2) ((jushr v1 8) &&& 255)) (o_held + 3) (v1 &&& 255))) := hD
    refine lv_aload_n hx hb dX8_append_75 rfl (lv_at hl 0 rfl) ?_
    refine lv_dup hx hb dX8_append_76 rfl ?_
    refine va_get (D := E.1) (ci := 8) (v := .int o_held) (C := RX8) (T := TX8) (N := 10) hx hb hts inX8 hown hK hP 0 rfl rfl 1 (by decide) (hts _ fl_X8_19) (fun _ h9 => h9) rfl dX8_append_77 ?_
    refine lv_iconst (v := 4) hx hb dX8_append_80 (by decide) ?_
    refine lv_iadd hx hb dX8_append_81 ?_
    refine va_put (D := E.1) (ci := 8) (v := .int (o_held + 4)) (ty := .int) (C := RX8) (T := TX8) (N := 10) hx hb hts inX8 tyX8 tyX8_ok nmX8 hown hK hP hD hS 0 rfl rfl 1 (by decide) (hts _ fl_X8_19) (fun _ h9 => h9) rfl (by decide +kernel) rfl rfl (Nat.le_of_ble_eq_true rfl) dX8_append_82 (fun H locs hP hD hS => ?_)
    have hP : va_P E.1 vwCl (wd_X8_append E a_o a_o_text (o_held + 4) o_length o_place o_next o_sort o_value o_code o_fault o_faultPlace (jput (jput (jput (jput o_text o_held (jushr v1 24)) (o_held + 1) ((jushr v1 16) &&& 255)) (o_held + 2) ((jushr v1 8) &&& 255)) (o_held + 3) (v1 &&& 255))) H := hP
    have hD : va_D A (wd_X8_append E a_o a_o_text (o_held + 4) o_length o_place o_next o_sort o_value o_code o_fault o_faultPlace (jput (jput (jput (jput o_text o_held (jushr v1 24)) (o_held + 1) ((jushr v1 16) &&& 255)) (o_held + 2) ((jushr v1 8) &&& 255)) (o_held + 3) (v1 &&& 255))) := hD
    obtain rfl := Option.some.inj hf
    subst hq
    exact retV cx hP hD hS dX8_append_85
def X8_takeCompare_j26 (F : Nat) (o_length : Int32) (o_place : Int32) (o_next : Int32) (o_sort : Int32) (o_value : Int32) (o_code : Int64) (o_fault : Int32) (o_faultPlace : Int32) (o_text : Nat → Int32) : Option (Int32 × Int32 × Int32 × Int32 × Int32 × Int64 × Int32 × Int32) :=
  (X8_failHere o_place o_sort o_fault o_faultPlace).bind fun u27 =>
  some (0, o_place, o_next, o_sort, o_value, o_code, u27.1, u27.2)
def X8_takeCompare (F : Nat) (o_length : Int32) (o_place : Int32) (o_next : Int32) (o_sort : Int32) (o_value : Int32) (o_code : Int64) (o_fault : Int32) (o_faultPlace : Int32) (o_text : Nat → Int32) : Option (Int32 × Int32 × Int32 × Int32 × Int32 × Int64 × Int32 × Int32) :=
  if o_fault = 0 then
  if o_sort = 3 then
  if o_value = 59 then
  X8_takeCompare_j26 F o_length o_place o_next o_sort o_value o_code o_fault o_faultPlace o_text
  else
  (X8_advance F o_length o_place o_next o_sort o_value o_code o_text).bind fun u38 =>
  some (o_value, u38.1, u38.2.1, u38.2.2.1, u38.2.2.2.1, u38.2.2.2.2, o_fault, o_faultPlace)
  else
  X8_takeCompare_j26 F o_length o_place o_next o_sort o_value o_code o_fault o_faultPlace o_text
  else
  some (0, o_place, o_next, o_sort, o_value, o_code, o_fault, o_faultPlace)
abbrev wd_X8_takeCompare (E : vE) (a_o a_o_text : Nat) (o_held : Int32) (o_length : Int32) (o_place : Int32) (o_next : Int32) (o_sort : Int32) (o_value : Int32) (o_code : Int64) (o_fault : Int32) (o_faultPlace : Int32) (o_text : Nat → Int32) : va_W := [(a_o, .inr (8, [.ref a_o_text, .int o_held, .int o_length, .int o_place, .int o_next, .int o_sort, .int o_value, .long o_code, .int o_fault, .int o_faultPlace])), (a_o_text, .inl (E.2.1, 900, .inl o_text))]
set_option maxHeartbeats 4000000 in
set_option maxRecDepth 100000 in
theorem ct_X8_takeCompare (l : Launch) (E : vE) (F : Nat) (a_o a_o_text : Nat) (o_held : Int32) (o_length : Int32) (o_place : Int32) (o_next : Int32) (o_sort : Int32) (o_value : Int32) (o_code : Int64) (o_fault : Int32) (o_faultPlace : Int32) (o_text : Nat → Int32) (u : Int32 × Int32 × Int32 × Int32 × Int32 × Int64 × Int32 × Int32) (hf : X8_takeCompare F o_length o_place o_next o_sort o_value o_code o_fault o_faultPlace o_text = some u) :
    CtI l yX8_takeCompare cX8_takeCompare 2 (some .int) 6 E [.ref a_o] (wd_X8_takeCompare E a_o a_o_text o_held o_length o_place o_next o_sort o_value o_code o_fault o_faultPlace o_text) (wd_X8_takeCompare E a_o a_o_text o_held o_length u.2.1 u.2.2.1 u.2.2.2.1 u.2.2.2.2.1 u.2.2.2.2.2.1 u.2.2.2.2.2.2.1 u.2.2.2.2.2.2.2 o_text) u.1 := by
  refine ctI (by decide) (Nat.le_of_ble_eq_true rfl) ?_
  intro p e s m below meth cd A ls aa QQ hq cx hP hD hS hl
  obtain ⟨⟨hx, hb, hml, hown, hts⟩, hr, hlocks, hK, hA, hX⟩ := id cx
  have hl : lv_has ls 2 [(0, .ref a_o)] := hl
  have hj26 : ∀ (o_place_j26 : Int32) (o_next_j26 : Int32) (o_sort_j26 : Int32) (o_value_j26 : Int32) (o_code_j26 : Int64) (o_fault_j26 : Int32) (o_faultPlace_j26 : Int32) (H : Heap) (locs : List Loc) (ls : Array Slot), X8_takeCompare_j26 F o_length o_place_j26 o_next_j26 o_sort_j26 o_value_j26 o_code_j26 o_fault_j26 o_faultPlace_j26 o_text = some u → va_P E.1 vwCl (wd_X8_takeCompare E a_o a_o_text o_held o_length o_place_j26 o_next_j26 o_sort_j26 o_value_j26 o_code_j26 o_fault_j26 o_faultPlace_j26 o_text) H → va_D A (wd_X8_takeCompare E a_o a_o_text o_held o_length o_place_j26 o_next_j26 o_sort_j26 o_value_j26 o_code_j26 o_fault_j26 o_faultPlace_j26 o_text) → va_S A s.heap H locs → lv_has ls 2 [(0, .ref a_o)] → W p l e (rmd 6) s m aa below meth cd H locs 0 0 QQ (F0 m 26 ls []) := by
    intro o_place_j26 o_next_j26 o_sort_j26 o_value_j26 o_code_j26 o_fault_j26 o_faultPlace_j26 H locs ls hf hP hD hS hl
    unfold X8_takeCompare_j26 at hf
    refine lv_aload_n hx hb dX8_takeCompare_26 rfl (lv_at hl 0 rfl) ?_
    obtain ⟨u27, hu27, hf⟩ := bd hf
    refine callVV (wn := (wd_X8_takeCompare E a_o a_o_text o_held o_length o_place_j26 o_next_j26 o_sort_j26 o_value_j26 o_code_j26 u27.1 u27.2 o_text)) (n1 := 2) (ct_X8_failHere l E a_o a_o_text o_held o_length o_place_j26 o_next_j26 o_sort_j26 o_value_j26 o_code_j26 o_fault_j26 o_faultPlace_j26 u27 hu27) [0] cal_X8_failHere cav_X8_failHere lk_X8_94 cx hP hD hS hl dX8_takeCompare_27 rfl rfl rfl rfl (Nat.le_of_ble_eq_true rfl) ⟨Nat.le_of_ble_eq_true rfl, Nat.le_of_ble_eq_true rfl⟩ rfl (by decide +kernel) rfl [some 0, none] rfl (by decide +kernel) rfl (fun H locs hP hD hS => ?_)
    refine lv_iconst (v := 0) hx hb dX8_takeCompare_30 (by decide) ?_
    obtain rfl := Option.some.inj hf
    subst hq
    exact retI cx hP hD hS dX8_takeCompare_31
  unfold X8_takeCompare at hf
  refine lv_aload_n hx hb dX8_takeCompare_0 rfl (lv_at hl 0 rfl) ?_
  refine va_get (D := E.1) (ci := 8) (v := .int o_fault) (C := RX8) (T := TX8) (N := 10) hx hb hts inX8 hown hK hP 0 rfl rfl 8 (by decide) (hts _ fl_X8_41) (fun _ h9 => h9) rfl dX8_takeCompare_1 ?_
  refine lv_if_eq (tgt := 9) hx hb dX8_takeCompare_4 (by decide) (fun hc => ?_) (fun hc => ?_)
  · have hf := it_t hc hf
    refine lv_aload_n hx hb dX8_takeCompare_9 rfl (lv_at hl 0 rfl) ?_
    refine va_get (D := E.1) (ci := 8) (v := .int o_sort) (C := RX8) (T := TX8) (N := 10) hx hb hts inX8 hown hK hP 0 rfl rfl 5 (by decide) (hts _ fl_X8_47) (fun _ h9 => h9) rfl dX8_takeCompare_10 ?_
    refine lv_iconst (v := 3) hx hb dX8_takeCompare_13 (by decide) ?_
    refine lv_icmp_ne (tgt := 26) hx hb dX8_takeCompare_14 (by decide) (fun hc => ?_) (fun hc => ?_)
    · have hf := it_f hc hf
      exact hj26 _ _ _ _ _ _ _ _ _ _ hf hP hD hS (lv_sub hl [0] rfl)
    · have hf := it_t hc hf
      refine lv_aload_n hx hb dX8_takeCompare_17 rfl (lv_at hl 0 rfl) ?_
      refine va_get (D := E.1) (ci := 8) (v := .int o_value) (C := RX8) (T := TX8) (N := 10) hx hb hts inX8 hown hK hP 0 rfl rfl 6 (by decide) (hts _ fl_X8_57) (fun _ h9 => h9) rfl dX8_takeCompare_18 ?_
      refine lv_bipush (v := 59) hx hb dX8_takeCompare_21 (by decide) ?_
      refine lv_icmp_ne (tgt := 32) hx hb dX8_takeCompare_23 (by decide) (fun hc => ?_) (fun hc => ?_)
      · have hf := it_f hc hf
        refine lv_aload_n hx hb dX8_takeCompare_32 rfl (lv_at hl 0 rfl) ?_
        refine va_get (D := E.1) (ci := 8) (v := .int o_value) (C := RX8) (T := TX8) (N := 10) hx hb hts inX8 hown hK hP 0 rfl rfl 6 (by decide) (hts _ fl_X8_57) (fun _ h9 => h9) rfl dX8_takeCompare_33 ?_
        refine lv_istore_n (lv' := [(1, .int o_value), (0, .ref a_o)]) hx hb dX8_takeCompare_36 rfl hl (by decide) rfl (fun ls hl => ?_)
        refine lv_aload_n hx hb dX8_takeCompare_37 rfl (lv_at hl 1 rfl) ?_
        obtain ⟨u38, hu38, hf⟩ := bd hf
        refine callVV (wn := (wd_X8_takeCompare E a_o a_o_text o_held o_length u38.1 u38.2.1 u38.2.2.1 u38.2.2.2.1 u38.2.2.2.2 o_fault o_faultPlace o_text)) (n1 := 2) (ct_X8_advance l E F a_o a_o_text o_held o_length o_place o_next o_sort o_value o_code o_fault o_faultPlace o_text u38 hu38) [0, 1] cal_X8_advance cav_X8_advance lk_X8_44 cx hP hD hS hl dX8_takeCompare_38 rfl rfl rfl rfl (Nat.le_of_ble_eq_true rfl) ⟨Nat.le_of_ble_eq_true rfl, Nat.le_of_ble_eq_true rfl⟩ rfl (by decide +kernel) rfl [some 0, some 1] rfl (by decide +kernel) rfl (fun H locs hP hD hS => ?_)
        refine lv_iload_n hx hb dX8_takeCompare_41 rfl (lv_at hl 0 rfl) ?_
        obtain rfl := Option.some.inj hf
        subst hq
        exact retI cx hP hD hS dX8_takeCompare_42
      · have hf := it_t hc hf
        exact hj26 _ _ _ _ _ _ _ _ _ _ hf hP hD hS (lv_sub hl [0] rfl)
  · have hf := it_f hc hf
    refine lv_iconst (v := 0) hx hb dX8_takeCompare_7 (by decide) ?_
    obtain rfl := Option.some.inj hf
    subst hq
    exact retI cx hP hD hS dX8_takeCompare_8
def X9_isTray_j13  : Option (Int32) :=
  some 0
def X9_isTray (v1 : Int32) : Option (Int32) :=
  if v1 < 0 then
  X9_isTray_j13
  else
  if (4 : Int32) ≤ v1 then
  X9_isTray_j13
  else
  some 1
abbrev wd_X9_isTray (E : vE) (a_o a_o_numbers a_o_sorts a_o_sizes : Nat) : va_W := [(a_o, .inr (9, [.ref a_o_numbers, .ref a_o_sorts, .ref a_o_sizes]))]
set_option maxHeartbeats 4000000 in
set_option maxRecDepth 100000 in
theorem ct_X9_isTray (l : Launch) (E : vE) (a_o a_o_numbers a_o_sorts a_o_sizes : Nat) (v1 : Int32) (u : Int32) (hf : X9_isTray v1 = some u) :
    CtI l yX9_isTray cX9_isTray 2 (some .boolean) 0 E [.ref a_o, .int v1] (wd_X9_isTray E a_o a_o_numbers a_o_sorts a_o_sizes) (wd_X9_isTray E a_o a_o_numbers a_o_sorts a_o_sizes) u := by
  refine ctI (by decide) (Nat.le_of_ble_eq_true rfl) ?_
  intro p e s m below meth cd A ls aa QQ hq cx hP hD hS hl
  obtain ⟨⟨hx, hb, hml, hown, hts⟩, hr, hlocks, hK, hA, hX⟩ := id cx
  have hl : lv_has ls 2 [(0, .ref a_o), (1, .int v1)] := hl
  have hj13 : ∀ (H : Heap) (locs : List Loc) (ls : Array Slot), X9_isTray_j13 = some u → va_P E.1 vwCl (wd_X9_isTray E a_o a_o_numbers a_o_sorts a_o_sizes) H → va_D A (wd_X9_isTray E a_o a_o_numbers a_o_sorts a_o_sizes) → va_S A s.heap H locs → lv_has ls 2 [] → W p l e (rmd 0) s m aa below meth cd H locs 0 0 QQ (F0 m 13 ls []) := by
    intro H locs ls hf hP hD hS hl
    unfold X9_isTray_j13 at hf
    refine lv_iconst (v := 0) hx hb dX9_isTray_13 (by decide) ?_
    obtain rfl := Option.some.inj hf
    subst hq
    exact retZ cx rfl hP hD hS dX9_isTray_14
  unfold X9_isTray at hf
  refine lv_iload_n hx hb dX9_isTray_0 rfl (lv_at hl 1 rfl) ?_
  refine lv_if_lt (tgt := 13) hx hb dX9_isTray_1 (by decide) (fun hc => ?_) (fun hc => ?_)
  · have hf := it_t hc hf
    exact hj13  _ _ _ hf hP hD hS (lv_sub hl [] rfl)
  · have hf := it_f hc hf
    refine lv_iload_n hx hb dX9_isTray_4 rfl (lv_at hl 1 rfl) ?_
    refine lv_iconst (v := 4) hx hb dX9_isTray_5 (by decide) ?_
    refine lv_icmp_ge (tgt := 13) hx hb dX9_isTray_6 (by decide) (fun hc => ?_) (fun hc => ?_)
    · have hf := it_t hc hf
      exact hj13  _ _ _ hf hP hD hS (lv_sub hl [] rfl)
    · have hf := it_f hc hf
      refine lv_iconst (v := 1) hx hb dX9_isTray_9 (by decide) ?_
      refine lv_goto (tgt := 14) hx hb dX9_isTray_10 (by decide) ?_
      obtain rfl := Option.some.inj hf
      subst hq
      exact retZ cx rfl hP hD hS dX9_isTray_14
def X9_isMissing_j18 (o_sizes : Nat → Int32) : Option (Int32) :=
  some 1
def X9_isMissing (o_sizes : Nat → Int32) (v1 : Int32) : Option (Int32) :=
  (X9_isTray v1).bind fun u2 =>
  if u2 = 0 then
  X9_isMissing_j18 o_sizes
  else
  if ix v1 4 then
  if (jat o_sizes v1) = (-1) then
  X9_isMissing_j18 o_sizes
  else
  some 0
  else none
abbrev wd_X9_isMissing (E : vE) (a_o a_o_numbers a_o_sorts a_o_sizes : Nat) (o_sizes : Nat → Int32) : va_W := [(a_o, .inr (9, [.ref a_o_numbers, .ref a_o_sorts, .ref a_o_sizes])), (a_o_sizes, .inl (E.2.1, 4, .inl o_sizes))]
set_option maxHeartbeats 4000000 in
set_option maxRecDepth 100000 in
theorem ct_X9_isMissing (l : Launch) (E : vE) (a_o a_o_numbers a_o_sorts a_o_sizes : Nat) (o_sizes : Nat → Int32) (v1 : Int32) (u : Int32) (hf : X9_isMissing o_sizes v1 = some u) :
    CtI l yX9_isMissing cX9_isMissing 2 (some .boolean) 1 E [.ref a_o, .int v1] (wd_X9_isMissing E a_o a_o_numbers a_o_sorts a_o_sizes o_sizes) (wd_X9_isMissing E a_o a_o_numbers a_o_sorts a_o_sizes o_sizes) u := by
  refine ctI (by decide) (Nat.le_of_ble_eq_true rfl) ?_
  intro p e s m below meth cd A ls aa QQ hq cx hP hD hS hl
  obtain ⟨⟨hx, hb, hml, hown, hts⟩, hr, hlocks, hK, hA, hX⟩ := id cx
  have hl : lv_has ls 2 [(0, .ref a_o), (1, .int v1)] := hl
  have hj18 : ∀ (H : Heap) (locs : List Loc) (ls : Array Slot), X9_isMissing_j18 o_sizes = some u → va_P E.1 vwCl (wd_X9_isMissing E a_o a_o_numbers a_o_sorts a_o_sizes o_sizes) H → va_D A (wd_X9_isMissing E a_o a_o_numbers a_o_sorts a_o_sizes o_sizes) → va_S A s.heap H locs → lv_has ls 2 [] → W p l e (rmd 1) s m aa below meth cd H locs 0 0 QQ (F0 m 18 ls []) := by
    intro H locs ls hf hP hD hS hl
    unfold X9_isMissing_j18 at hf
    refine lv_iconst (v := 1) hx hb dX9_isMissing_18 (by decide) ?_
    refine lv_goto (tgt := 23) hx hb dX9_isMissing_19 (by decide) ?_
    obtain rfl := Option.some.inj hf
    subst hq
    exact retZ cx rfl hP hD hS dX9_isMissing_23
  unfold X9_isMissing at hf
  refine lv_aload_n hx hb dX9_isMissing_0 rfl (lv_at hl 0 rfl) ?_
  refine lv_iload_n hx hb dX9_isMissing_1 rfl (lv_at hl 1 rfl) ?_
  obtain ⟨u2, hu2, hf⟩ := bd hf
  refine keepVI (ct_X9_isTray l E a_o a_o_numbers a_o_sorts a_o_sizes v1 u2 hu2) [0] cal_X9_isTray cav_X9_isTray lk_X9_22 cx hP hD hS hl dX9_isMissing_2 rfl rfl rfl rfl (Nat.le_of_ble_eq_true rfl) ⟨Nat.le_of_ble_eq_true rfl, Nat.le_of_ble_eq_true rfl⟩ rfl (by decide) (fun H locs hP hS => ?_)
  refine lv_if_eq (tgt := 18) hx hb dX9_isMissing_5 (by decide) (fun hc => ?_) (fun hc => ?_)
  · have hf := it_t hc hf
    exact hj18  _ _ _ hf hP hD hS (lv_sub hl [] rfl)
  · have hf := it_f hc hf
    refine lv_aload_n hx hb dX9_isMissing_8 rfl (lv_at hl 0 rfl) ?_
    refine va_get (D := E.1) (ci := 9) (v := .ref a_o_sizes) (C := RX9) (T := TX9) (N := 3) hx hb hts inX9 hown hK hP 0 rfl rfl 2 (by decide) (hts _ fl_X9_19) (fun _ h9 => h9) rfl dX9_isMissing_9 ?_
    refine lv_iload_n hx hb dX9_isMissing_12 rfl (lv_at hl 1 rfl) ?_
    obtain ⟨hi, hf⟩ := ck hf
    refine r_iald 1 cx hP rfl hi dX9_isMissing_13 ?_
    refine lv_iconst (v := (-1)) hx hb dX9_isMissing_14 (by decide) ?_
    refine lv_icmp_ne (tgt := 22) hx hb dX9_isMissing_15 (by decide) (fun hc => ?_) (fun hc => ?_)
    · have hf := it_f hc hf
      refine lv_iconst (v := 0) hx hb dX9_isMissing_22 (by decide) ?_
      obtain rfl := Option.some.inj hf
      subst hq
      exact retZ cx rfl hP hD hS dX9_isMissing_23
    · have hf := it_t hc hf
      exact hj18  _ _ _ hf hP hD hS (lv_sub hl [] rfl)
def X9_sortOf (o_sorts : Nat → Int32) (v1 : Int32) : Option (Int32) :=
  (X9_isTray v1).bind fun u2 =>
  if u2 = 0 then
  some (-1)
  else
  if ix v1 4 then
  some (jat o_sorts v1)
  else none
abbrev wd_X9_sortOf (E : vE) (a_o a_o_numbers a_o_sorts a_o_sizes : Nat) (o_sorts : Nat → Int32) : va_W := [(a_o, .inr (9, [.ref a_o_numbers, .ref a_o_sorts, .ref a_o_sizes])), (a_o_sorts, .inl (E.2.1, 4, .inl o_sorts))]
set_option maxHeartbeats 4000000 in
set_option maxRecDepth 100000 in
theorem ct_X9_sortOf (l : Launch) (E : vE) (a_o a_o_numbers a_o_sorts a_o_sizes : Nat) (o_sorts : Nat → Int32) (v1 : Int32) (u : Int32) (hf : X9_sortOf o_sorts v1 = some u) :
    CtI l yX9_sortOf cX9_sortOf 2 (some .int) 1 E [.ref a_o, .int v1] (wd_X9_sortOf E a_o a_o_numbers a_o_sorts a_o_sizes o_sorts) (wd_X9_sortOf E a_o a_o_numbers a_o_sorts a_o_sizes o_sorts) u := by
  refine ctI (by decide) (Nat.le_of_ble_eq_true rfl) ?_
  intro p e s m below meth cd A ls aa QQ hq cx hP hD hS hl
  obtain ⟨⟨hx, hb, hml, hown, hts⟩, hr, hlocks, hK, hA, hX⟩ := id cx
  have hl : lv_has ls 2 [(0, .ref a_o), (1, .int v1)] := hl
  unfold X9_sortOf at hf
  refine lv_aload_n hx hb dX9_sortOf_0 rfl (lv_at hl 0 rfl) ?_
  refine lv_iload_n hx hb dX9_sortOf_1 rfl (lv_at hl 1 rfl) ?_
  obtain ⟨u2, hu2, hf⟩ := bd hf
  refine keepVI (ct_X9_isTray l E a_o a_o_numbers a_o_sorts a_o_sizes v1 u2 hu2) [0] cal_X9_isTray cav_X9_isTray lk_X9_22 cx hP hD hS hl dX9_sortOf_2 rfl rfl rfl rfl (Nat.le_of_ble_eq_true rfl) ⟨Nat.le_of_ble_eq_true rfl, Nat.le_of_ble_eq_true rfl⟩ rfl (by decide) (fun H locs hP hS => ?_)
  refine lv_if_eq (tgt := 17) hx hb dX9_sortOf_5 (by decide) (fun hc => ?_) (fun hc => ?_)
  · have hf := it_t hc hf
    refine lv_iconst (v := (-1)) hx hb dX9_sortOf_17 (by decide) ?_
    obtain rfl := Option.some.inj hf
    subst hq
    exact retI cx hP hD hS dX9_sortOf_18
  · have hf := it_f hc hf
    refine lv_aload_n hx hb dX9_sortOf_8 rfl (lv_at hl 0 rfl) ?_
    refine va_get (D := E.1) (ci := 9) (v := .ref a_o_sorts) (C := RX9) (T := TX9) (N := 3) hx hb hts inX9 hown hK hP 0 rfl rfl 1 (by decide) (hts _ fl_X9_15) (fun _ h9 => h9) rfl dX9_sortOf_9 ?_
    refine lv_iload_n hx hb dX9_sortOf_12 rfl (lv_at hl 1 rfl) ?_
    obtain ⟨hi, hf⟩ := ck hf
    refine r_iald 1 cx hP rfl hi dX9_sortOf_13 ?_
    refine lv_goto (tgt := 18) hx hb dX9_sortOf_14 (by decide) ?_
    obtain rfl := Option.some.inj hf
    subst hq
    exact retI cx hP hD hS dX9_sortOf_18
def X9_hasRange_j28 (o_sizes : Nat → Int32) : Option (Int32) :=
  some 0
def X9_hasRange (o_sizes : Nat → Int32) (v1 : Int32) (v2 : Int32) (v3 : Int32) : Option (Int32) :=
  (X9_isTray v1).bind fun u2 =>
  if u2 = 0 then
  X9_hasRange_j28 o_sizes
  else
  if ix v1 4 then
  if (0 : Int32) < (lg_cmp ((v2.toInt64) + (v3.toInt64)) ((jat o_sizes v1).toInt64)) then
  X9_hasRange_j28 o_sizes
  else
  some 1
  else none
abbrev wd_X9_hasRange (E : vE) (a_o a_o_numbers a_o_sorts a_o_sizes : Nat) (o_sizes : Nat → Int32) : va_W := [(a_o, .inr (9, [.ref a_o_numbers, .ref a_o_sorts, .ref a_o_sizes])), (a_o_sizes, .inl (E.2.1, 4, .inl o_sizes))]
set_option maxHeartbeats 4000000 in
set_option maxRecDepth 100000 in
theorem ct_X9_hasRange (l : Launch) (E : vE) (a_o a_o_numbers a_o_sorts a_o_sizes : Nat) (o_sizes : Nat → Int32) (v1 : Int32) (v2 : Int32) (v3 : Int32) (u : Int32) (hf : X9_hasRange o_sizes v1 v2 v3 = some u) :
    CtI l yX9_hasRange cX9_hasRange 4 (some .boolean) 1 E [.ref a_o, .int v1, .int v2, .int v3] (wd_X9_hasRange E a_o a_o_numbers a_o_sorts a_o_sizes o_sizes) (wd_X9_hasRange E a_o a_o_numbers a_o_sorts a_o_sizes o_sizes) u := by
  refine ctI (by decide) (Nat.le_of_ble_eq_true rfl) ?_
  intro p e s m below meth cd A ls aa QQ hq cx hP hD hS hl
  obtain ⟨⟨hx, hb, hml, hown, hts⟩, hr, hlocks, hK, hA, hX⟩ := id cx
  have hl : lv_has ls 4 [(0, .ref a_o), (1, .int v1), (2, .int v2), (3, .int v3)] := hl
  have hj28 : ∀ (H : Heap) (locs : List Loc) (ls : Array Slot), X9_hasRange_j28 o_sizes = some u → va_P E.1 vwCl (wd_X9_hasRange E a_o a_o_numbers a_o_sorts a_o_sizes o_sizes) H → va_D A (wd_X9_hasRange E a_o a_o_numbers a_o_sorts a_o_sizes o_sizes) → va_S A s.heap H locs → lv_has ls 4 [] → W p l e (rmd 1) s m aa below meth cd H locs 0 0 QQ (F0 m 28 ls []) := by
    intro H locs ls hf hP hD hS hl
    unfold X9_hasRange_j28 at hf
    refine lv_iconst (v := 0) hx hb dX9_hasRange_28 (by decide) ?_
    obtain rfl := Option.some.inj hf
    subst hq
    exact retZ cx rfl hP hD hS dX9_hasRange_29
  unfold X9_hasRange at hf
  refine lv_aload_n hx hb dX9_hasRange_0 rfl (lv_at hl 0 rfl) ?_
  refine lv_iload_n hx hb dX9_hasRange_1 rfl (lv_at hl 1 rfl) ?_
  obtain ⟨u2, hu2, hf⟩ := bd hf
  refine keepVI (ct_X9_isTray l E a_o a_o_numbers a_o_sorts a_o_sizes v1 u2 hu2) [0] cal_X9_isTray cav_X9_isTray lk_X9_22 cx hP hD hS hl dX9_hasRange_2 rfl rfl rfl rfl (Nat.le_of_ble_eq_true rfl) ⟨Nat.le_of_ble_eq_true rfl, Nat.le_of_ble_eq_true rfl⟩ rfl (by decide) (fun H locs hP hS => ?_)
  refine lv_if_eq (tgt := 28) hx hb dX9_hasRange_5 (by decide) (fun hc => ?_) (fun hc => ?_)
  · have hf := it_t hc hf
    exact hj28  _ _ _ hf hP hD hS (lv_sub hl [] rfl)
  · have hf := it_f hc hf
    refine lv_iload_n hx hb dX9_hasRange_8 rfl (lv_at hl 2 rfl) ?_
    refine lv_i2l (v := (v2.toInt64)) hx hb dX9_hasRange_9 rfl ?_
    refine lv_iload_n hx hb dX9_hasRange_10 rfl (lv_at hl 3 rfl) ?_
    refine lv_i2l (v := (v3.toInt64)) hx hb dX9_hasRange_11 rfl ?_
    refine lv_ladd hx hb dX9_hasRange_12 ?_
    refine lv_aload_n hx hb dX9_hasRange_13 rfl (lv_at hl 0 rfl) ?_
    refine va_get (D := E.1) (ci := 9) (v := .ref a_o_sizes) (C := RX9) (T := TX9) (N := 3) hx hb hts inX9 hown hK hP 0 rfl rfl 2 (by decide) (hts _ fl_X9_19) (fun _ h9 => h9) rfl dX9_hasRange_14 ?_
    refine lv_iload_n hx hb dX9_hasRange_17 rfl (lv_at hl 1 rfl) ?_
    obtain ⟨hi, hf⟩ := ck hf
    refine r_iald 1 cx hP rfl hi dX9_hasRange_18 ?_
    refine lv_i2l (v := (jat o_sizes v1).toInt64) hx hb dX9_hasRange_19 rfl ?_
    refine W.lcmp hx hb dX9_hasRange_20 ?_
    refine lv_if_gt (tgt := 28) hx hb dX9_hasRange_21 (by decide) (fun hc => ?_) (fun hc => ?_)
    · have hf := it_t hc hf
      exact hj28  _ _ _ hf hP hD hS (lv_sub hl [] rfl)
    · have hf := it_f hc hf
      refine lv_iconst (v := 1) hx hb dX9_hasRange_24 (by decide) ?_
      refine lv_goto (tgt := 29) hx hb dX9_hasRange_25 (by decide) ?_
      obtain rfl := Option.some.inj hf
      subst hq
      exact retZ cx rfl hP hD hS dX9_hasRange_29
def X9_lay_b32 (F : Nat) (o_sorts : Nat → Int32) (o_sizes : Nat → Int32) (v1 : Int32) (v3 : Int32) (st32 : Int32 × (Nat → Int64)) : Option ((Int32 × (Nat → Int64)) ⊕ (((Nat → Int64)))) :=
  if v3 ≤ st32.1 then
  some (.inr st32.2)
  else
  if ix ((v1 * 60) + st32.1) 240 then
  some (.inl ((st32.1 + 1), (jputL st32.2 ((v1 * 60) + st32.1) 0)))
  else none
def X9_lay (F : Nat) (o_numbers : Nat → Int64) (o_sorts : Nat → Int32) (o_sizes : Nat → Int32) (v1 : Int32) (v2 : Int32) (v3 : Int32) : Option ((Nat → Int64) × (Nat → Int32) × (Nat → Int32)) :=
  (X9_isTray v1).bind fun u2 =>
  if u2 = 0 then
  some (o_numbers, o_sorts, o_sizes)
  else
  if v3 ≤ 60 then
  if ix v1 4 then
  if ix v1 4 then
  (iter (X9_lay_b32 F (jput o_sorts v1 v2) (jput o_sizes v1 v3) v1 v3) F (0, o_numbers)).bind (fun (e32 : (Nat → Int64)) =>
    some (e32, (jput o_sorts v1 v2), (jput o_sizes v1 v3)))
  else none
  else none
  else
  some (o_numbers, o_sorts, o_sizes)
abbrev wd_X9_lay (E : vE) (a_o a_o_numbers a_o_sorts a_o_sizes : Nat) (o_numbers : Nat → Int64) (o_sorts : Nat → Int32) (o_sizes : Nat → Int32) : va_W := [(a_o, .inr (9, [.ref a_o_numbers, .ref a_o_sorts, .ref a_o_sizes])), (a_o_numbers, .inl (E.2.2.1, 240, .inr (.inl o_numbers))), (a_o_sorts, .inl (E.2.1, 4, .inl o_sorts)), (a_o_sizes, .inl (E.2.1, 4, .inl o_sizes))]
set_option maxHeartbeats 4000000 in
set_option maxRecDepth 100000 in
theorem ct_X9_lay (l : Launch) (E : vE) (F : Nat) (a_o a_o_numbers a_o_sorts a_o_sizes : Nat) (o_numbers : Nat → Int64) (o_sorts : Nat → Int32) (o_sizes : Nat → Int32) (v1 : Int32) (v2 : Int32) (v3 : Int32) (u : (Nat → Int64) × (Nat → Int32) × (Nat → Int32)) (hf : X9_lay F o_numbers o_sorts o_sizes v1 v2 v3 = some u) :
    CtV l yX9_lay cX9_lay 5 none 1 E [.ref a_o, .int v1, .int v2, .int v3] (wd_X9_lay E a_o a_o_numbers a_o_sorts a_o_sizes o_numbers o_sorts o_sizes) (wd_X9_lay E a_o a_o_numbers a_o_sorts a_o_sizes u.1 u.2.1 u.2.2) := by
  refine ctV (by decide) (Nat.le_of_ble_eq_true rfl) ?_
  intro p e s m below meth cd A ls aa QQ hq cx hP hD hS hl
  obtain ⟨⟨hx, hb, hml, hown, hts⟩, hr, hlocks, hK, hA, hX⟩ := id cx
  have hl : lv_has ls 5 [(0, .ref a_o), (1, .int v1), (2, .int v2), (3, .int v3)] := hl
  unfold X9_lay at hf
  refine lv_aload_n hx hb dX9_lay_0 rfl (lv_at hl 0 rfl) ?_
  refine lv_iload_n hx hb dX9_lay_1 rfl (lv_at hl 1 rfl) ?_
  obtain ⟨u2, hu2, hf⟩ := bd hf
  refine keepVI (ct_X9_isTray l E a_o a_o_numbers a_o_sorts a_o_sizes v1 u2 hu2) [0] cal_X9_isTray cav_X9_isTray lk_X9_22 cx hP hD hS hl dX9_lay_2 rfl rfl rfl rfl (Nat.le_of_ble_eq_true rfl) ⟨Nat.le_of_ble_eq_true rfl, Nat.le_of_ble_eq_true rfl⟩ rfl (by decide) (fun H locs hP hS => ?_)
  refine lv_if_eq (tgt := 14) hx hb dX9_lay_5 (by decide) (fun hc => ?_) (fun hc => ?_)
  · have hf := it_t hc hf
    obtain rfl := Option.some.inj hf
    subst hq
    exact retV cx hP hD hS dX9_lay_14
  · have hf := it_f hc hf
    refine lv_iload_n hx hb dX9_lay_8 rfl (lv_at hl 3 rfl) ?_
    refine lv_bipush (v := 60) hx hb dX9_lay_9 (by decide) ?_
    refine lv_icmp_le (tgt := 15) hx hb dX9_lay_11 (by decide) (fun hc => ?_) (fun hc => ?_)
    · have hf := it_t hc hf
      refine lv_aload_n hx hb dX9_lay_15 rfl (lv_at hl 0 rfl) ?_
      refine va_get (D := E.1) (ci := 9) (v := .ref a_o_sorts) (C := RX9) (T := TX9) (N := 3) hx hb hts inX9 hown hK hP 0 rfl rfl 1 (by decide) (hts _ fl_X9_15) (fun _ h9 => h9) rfl dX9_lay_16 ?_
      refine lv_iload_n hx hb dX9_lay_19 rfl (lv_at hl 1 rfl) ?_
      refine lv_iload_n hx hb dX9_lay_20 rfl (lv_at hl 2 rfl) ?_
      obtain ⟨hi, hf⟩ := ck hf
      refine r_iast 2 cx hP hD hS rfl hi dX9_lay_21 (fun H locs hP hD hS => ?_)
      have hP : va_P E.1 vwCl (wd_X9_lay E a_o a_o_numbers a_o_sorts a_o_sizes o_numbers (jput o_sorts v1 v2) o_sizes) H := hP
      have hD : va_D A (wd_X9_lay E a_o a_o_numbers a_o_sorts a_o_sizes o_numbers (jput o_sorts v1 v2) o_sizes) := hD
      refine lv_aload_n hx hb dX9_lay_22 rfl (lv_at hl 0 rfl) ?_
      refine va_get (D := E.1) (ci := 9) (v := .ref a_o_sizes) (C := RX9) (T := TX9) (N := 3) hx hb hts inX9 hown hK hP 0 rfl rfl 2 (by decide) (hts _ fl_X9_19) (fun _ h9 => h9) rfl dX9_lay_23 ?_
      refine lv_iload_n hx hb dX9_lay_26 rfl (lv_at hl 1 rfl) ?_
      refine lv_iload_n hx hb dX9_lay_27 rfl (lv_at hl 3 rfl) ?_
      obtain ⟨hi, hf⟩ := ck hf
      refine r_iast 3 cx hP hD hS rfl hi dX9_lay_28 (fun H locs hP hD hS => ?_)
      have hP : va_P E.1 vwCl (wd_X9_lay E a_o a_o_numbers a_o_sorts a_o_sizes o_numbers (jput o_sorts v1 v2) (jput o_sizes v1 v3)) H := hP
      have hD : va_D A (wd_X9_lay E a_o a_o_numbers a_o_sorts a_o_sizes o_numbers (jput o_sorts v1 v2) (jput o_sizes v1 v3)) := hD
      refine lv_iconst (v := 0) hx hb dX9_lay_29 (by decide) ?_
      refine lv_istore (lv' := [(4, .int 0), (0, .ref a_o), (1, .int v1), (2, .int v2), (3, .int v3)]) hx hb dX9_lay_30 hl (by decide) rfl (fun ls hl => ?_)
      obtain ⟨e32, hit32, hf⟩ := bd hf
      refine iter_W (b := X9_lay_b32 F (jput o_sorts v1 v2) (jput o_sizes v1 v3) v1 v3) (P := fun st32 => ∀ (H : Heap) (locs : List Loc) (ls : Array Slot), va_P E.1 vwCl (wd_X9_lay E a_o a_o_numbers a_o_sorts a_o_sizes st32.2 (jput o_sorts v1 v2) (jput o_sizes v1 v3)) H → va_D A (wd_X9_lay E a_o a_o_numbers a_o_sorts a_o_sizes st32.2 (jput o_sorts v1 v2) (jput o_sizes v1 v3)) → va_S A s.heap H locs → lv_has ls 5 [(0, .ref a_o), (1, .int v1), (3, .int v3), (4, .int st32.1)] → W p l e (rmd 1) s m aa below meth cd H locs 0 0 QQ (F0 m 32 ls [])) (G := (fun (e32 : (Nat → Int64)) => ∀ (H : Heap) (locs : List Loc) (ls : Array Slot), va_P E.1 vwCl (wd_X9_lay E a_o a_o_numbers a_o_sorts a_o_sizes e32 (jput o_sorts v1 v2) (jput o_sizes v1 v3)) H → va_D A (wd_X9_lay E a_o a_o_numbers a_o_sorts a_o_sizes e32 (jput o_sorts v1 v2) (jput o_sizes v1 v3)) → va_S A s.heap H locs → lv_has ls 5 [] → W p l e (rmd 1) s m aa below meth cd H locs 0 0 QQ (F0 m 57 ls []))) ?_ F (0, o_numbers) e32 hit32 ?_ _ _ _ hP hD hS (lv_sub hl [1, 2, 4, 0] rfl)
      · intro st32 r32 hf hk32 he32 H locs ls hP hD hS hl
        unfold X9_lay_b32 at hf
        refine lv_iload hx hb dX9_lay_32 (lv_at hl 3 rfl) ?_
        refine lv_iload_n hx hb dX9_lay_34 rfl (lv_at hl 2 rfl) ?_
        refine lv_icmp_ge (tgt := 57) hx hb dX9_lay_35 (by decide) (fun hc => ?_) (fun hc => ?_)
        · have hf := it_t hc hf
          exact he32 _ (Option.some.inj hf).symm _ _ _ hP hD hS (lv_sub hl [] rfl)
        · have hf := it_f hc hf
          refine lv_aload_n hx hb dX9_lay_38 rfl (lv_at hl 0 rfl) ?_
          refine va_get (D := E.1) (ci := 9) (v := .ref a_o_numbers) (C := RX9) (T := TX9) (N := 3) hx hb hts inX9 hown hK hP 0 rfl rfl 0 (by decide) (hts _ fl_X9_11) (fun _ h9 => h9) rfl dX9_lay_39 ?_
          refine lv_iload_n hx hb dX9_lay_42 rfl (lv_at hl 1 rfl) ?_
          refine lv_bipush (v := 60) hx hb dX9_lay_43 (by decide) ?_
          refine lv_imul hx hb dX9_lay_45 ?_
          refine lv_iload hx hb dX9_lay_46 (lv_at hl 3 rfl) ?_
          refine lv_iadd hx hb dX9_lay_48 ?_
          refine lv_lconst (v := 0) hx hb dX9_lay_49 (by decide) ?_
          obtain ⟨hi, hf⟩ := ck hf
          refine r_last 1 cx hP hD hS rfl hi dX9_lay_50 (fun H locs hP hD hS => ?_)
          have hP : va_P E.1 vwCl (wd_X9_lay E a_o a_o_numbers a_o_sorts a_o_sizes (jputL st32.2 ((v1 * 60) + st32.1) 0) (jput o_sorts v1 v2) (jput o_sizes v1 v3)) H := hP
          have hD : va_D A (wd_X9_lay E a_o a_o_numbers a_o_sorts a_o_sizes (jputL st32.2 ((v1 * 60) + st32.1) 0) (jput o_sorts v1 v2) (jput o_sizes v1 v3)) := hD
          refine lv_iinc (v := (st32.1 + 1)) (lv' := [(4, .int (st32.1 + 1)), (0, .ref a_o), (1, .int v1), (3, .int v3)]) hx hb dX9_lay_51 hl (k := 3) rfl rfl (by decide) rfl (fun ls hl => ?_)
          refine lv_goto (tgt := 32) hx hb dX9_lay_54 (by decide) ?_
          exact hk32 _ (Option.some.inj hf).symm _ _ _ hP hD hS (lv_sub hl [1, 2, 3, 0] rfl)
      · refine fun H locs ls hP hD hS hl => ?_
        obtain rfl := Option.some.inj hf
        subst hq
        exact retV cx hP hD hS dX9_lay_57
    · have hf := it_f hc hf
      obtain rfl := Option.some.inj hf
      subst hq
      exact retV cx hP hD hS dX9_lay_14
def X9_hasPlace_j26 (o_sizes : Nat → Int32) : Option (Int32) :=
  some 0
def X9_hasPlace (o_sizes : Nat → Int32) (v1 : Int32) (v2 : Int32) : Option (Int32) :=
  (X9_isTray v1).bind fun u2 =>
  if u2 = 0 then
  X9_hasPlace_j26 o_sizes
  else
  if v2 < 0 then
  X9_hasPlace_j26 o_sizes
  else
  if ix v1 4 then
  if (jat o_sizes v1) ≤ v2 then
  X9_hasPlace_j26 o_sizes
  else
  some 1
  else none
abbrev wd_X9_hasPlace (E : vE) (a_o a_o_numbers a_o_sorts a_o_sizes : Nat) (o_sizes : Nat → Int32) : va_W := [(a_o, .inr (9, [.ref a_o_numbers, .ref a_o_sorts, .ref a_o_sizes])), (a_o_sizes, .inl (E.2.1, 4, .inl o_sizes))]
set_option maxHeartbeats 4000000 in
set_option maxRecDepth 100000 in
theorem ct_X9_hasPlace (l : Launch) (E : vE) (a_o a_o_numbers a_o_sorts a_o_sizes : Nat) (o_sizes : Nat → Int32) (v1 : Int32) (v2 : Int32) (u : Int32) (hf : X9_hasPlace o_sizes v1 v2 = some u) :
    CtI l yX9_hasPlace cX9_hasPlace 3 (some .boolean) 1 E [.ref a_o, .int v1, .int v2] (wd_X9_hasPlace E a_o a_o_numbers a_o_sorts a_o_sizes o_sizes) (wd_X9_hasPlace E a_o a_o_numbers a_o_sorts a_o_sizes o_sizes) u := by
  refine ctI (by decide) (Nat.le_of_ble_eq_true rfl) ?_
  intro p e s m below meth cd A ls aa QQ hq cx hP hD hS hl
  obtain ⟨⟨hx, hb, hml, hown, hts⟩, hr, hlocks, hK, hA, hX⟩ := id cx
  have hl : lv_has ls 3 [(0, .ref a_o), (1, .int v1), (2, .int v2)] := hl
  have hj26 : ∀ (H : Heap) (locs : List Loc) (ls : Array Slot), X9_hasPlace_j26 o_sizes = some u → va_P E.1 vwCl (wd_X9_hasPlace E a_o a_o_numbers a_o_sorts a_o_sizes o_sizes) H → va_D A (wd_X9_hasPlace E a_o a_o_numbers a_o_sorts a_o_sizes o_sizes) → va_S A s.heap H locs → lv_has ls 3 [] → W p l e (rmd 1) s m aa below meth cd H locs 0 0 QQ (F0 m 26 ls []) := by
    intro H locs ls hf hP hD hS hl
    unfold X9_hasPlace_j26 at hf
    refine lv_iconst (v := 0) hx hb dX9_hasPlace_26 (by decide) ?_
    obtain rfl := Option.some.inj hf
    subst hq
    exact retZ cx rfl hP hD hS dX9_hasPlace_27
  unfold X9_hasPlace at hf
  refine lv_aload_n hx hb dX9_hasPlace_0 rfl (lv_at hl 0 rfl) ?_
  refine lv_iload_n hx hb dX9_hasPlace_1 rfl (lv_at hl 1 rfl) ?_
  obtain ⟨u2, hu2, hf⟩ := bd hf
  refine keepVI (ct_X9_isTray l E a_o a_o_numbers a_o_sorts a_o_sizes v1 u2 hu2) [0] cal_X9_isTray cav_X9_isTray lk_X9_22 cx hP hD hS hl dX9_hasPlace_2 rfl rfl rfl rfl (Nat.le_of_ble_eq_true rfl) ⟨Nat.le_of_ble_eq_true rfl, Nat.le_of_ble_eq_true rfl⟩ rfl (by decide) (fun H locs hP hS => ?_)
  refine lv_if_eq (tgt := 26) hx hb dX9_hasPlace_5 (by decide) (fun hc => ?_) (fun hc => ?_)
  · have hf := it_t hc hf
    exact hj26  _ _ _ hf hP hD hS (lv_sub hl [] rfl)
  · have hf := it_f hc hf
    refine lv_iload_n hx hb dX9_hasPlace_8 rfl (lv_at hl 2 rfl) ?_
    refine lv_if_lt (tgt := 26) hx hb dX9_hasPlace_9 (by decide) (fun hc => ?_) (fun hc => ?_)
    · have hf := it_t hc hf
      exact hj26  _ _ _ hf hP hD hS (lv_sub hl [] rfl)
    · have hf := it_f hc hf
      refine lv_iload_n hx hb dX9_hasPlace_12 rfl (lv_at hl 2 rfl) ?_
      refine lv_aload_n hx hb dX9_hasPlace_13 rfl (lv_at hl 0 rfl) ?_
      refine va_get (D := E.1) (ci := 9) (v := .ref a_o_sizes) (C := RX9) (T := TX9) (N := 3) hx hb hts inX9 hown hK hP 0 rfl rfl 2 (by decide) (hts _ fl_X9_19) (fun _ h9 => h9) rfl dX9_hasPlace_14 ?_
      refine lv_iload_n hx hb dX9_hasPlace_17 rfl (lv_at hl 1 rfl) ?_
      obtain ⟨hi, hf⟩ := ck hf
      refine r_iald 1 cx hP rfl hi dX9_hasPlace_18 ?_
      refine lv_icmp_ge (tgt := 26) hx hb dX9_hasPlace_19 (by decide) (fun hc => ?_) (fun hc => ?_)
      · have hf := it_t hc hf
        exact hj26  _ _ _ hf hP hD hS (lv_sub hl [] rfl)
      · have hf := it_f hc hf
        refine lv_iconst (v := 1) hx hb dX9_hasPlace_22 (by decide) ?_
        refine lv_goto (tgt := 27) hx hb dX9_hasPlace_23 (by decide) ?_
        obtain rfl := Option.some.inj hf
        subst hq
        exact retZ cx rfl hP hD hS dX9_hasPlace_27
def X9_get (o_numbers : Nat → Int64) (o_sizes : Nat → Int32) (v1 : Int32) (v2 : Int32) : Option (Int64) :=
  (X9_hasPlace o_sizes v1 v2).bind fun u3 =>
  if u3 = 0 then
  some (-1)
  else
  if ix ((v1 * 60) + v2) 240 then
  some (jat o_numbers ((v1 * 60) + v2))
  else none
abbrev wd_X9_get (E : vE) (a_o a_o_numbers a_o_sorts a_o_sizes : Nat) (o_numbers : Nat → Int64) (o_sizes : Nat → Int32) : va_W := [(a_o, .inr (9, [.ref a_o_numbers, .ref a_o_sorts, .ref a_o_sizes])), (a_o_numbers, .inl (E.2.2.1, 240, .inr (.inl o_numbers))), (a_o_sizes, .inl (E.2.1, 4, .inl o_sizes))]
set_option maxHeartbeats 4000000 in
set_option maxRecDepth 100000 in
theorem ct_X9_get (l : Launch) (E : vE) (a_o a_o_numbers a_o_sorts a_o_sizes : Nat) (o_numbers : Nat → Int64) (o_sizes : Nat → Int32) (v1 : Int32) (v2 : Int32) (u : Int64) (hf : X9_get o_numbers o_sizes v1 v2 = some u) :
    CtL l yX9_get cX9_get 3 (some .long) 2 E [.ref a_o, .int v1, .int v2] (wd_X9_get E a_o a_o_numbers a_o_sorts a_o_sizes o_numbers o_sizes) (wd_X9_get E a_o a_o_numbers a_o_sorts a_o_sizes o_numbers o_sizes) u := by
  refine ctL (by decide) (Nat.le_of_ble_eq_true rfl) ?_
  intro p e s m below meth cd A ls aa QQ hq cx hP hD hS hl
  obtain ⟨⟨hx, hb, hml, hown, hts⟩, hr, hlocks, hK, hA, hX⟩ := id cx
  have hl : lv_has ls 3 [(0, .ref a_o), (1, .int v1), (2, .int v2)] := hl
  unfold X9_get at hf
  refine lv_aload_n hx hb dX9_get_0 rfl (lv_at hl 0 rfl) ?_
  refine lv_iload_n hx hb dX9_get_1 rfl (lv_at hl 1 rfl) ?_
  refine lv_iload_n hx hb dX9_get_2 rfl (lv_at hl 2 rfl) ?_
  obtain ⟨u3, hu3, hf⟩ := bd hf
  refine keepVI (ct_X9_hasPlace l E a_o a_o_numbers a_o_sorts a_o_sizes o_sizes v1 v2 u3 hu3) [0, 2] cal_X9_hasPlace cav_X9_hasPlace lk_X9_26 cx hP hD hS hl dX9_get_3 rfl rfl rfl rfl (Nat.le_of_ble_eq_true rfl) ⟨Nat.le_of_ble_eq_true rfl, Nat.le_of_ble_eq_true rfl⟩ rfl (by decide) (fun H locs hP hS => ?_)
  refine lv_if_eq (tgt := 23) hx hb dX9_get_6 (by decide) (fun hc => ?_) (fun hc => ?_)
  · have hf := it_t hc hf
    refine lv_ldc2 (v := (-1)) hx hb hown (hts _ kl_X9_30) dX9_get_23 ?_
    obtain rfl := Option.some.inj hf
    subst hq
    exact retL cx hP hD hS dX9_get_26
  · have hf := it_f hc hf
    refine lv_aload_n hx hb dX9_get_9 rfl (lv_at hl 0 rfl) ?_
    refine va_get (D := E.1) (ci := 9) (v := .ref a_o_numbers) (C := RX9) (T := TX9) (N := 3) hx hb hts inX9 hown hK hP 0 rfl rfl 0 (by decide) (hts _ fl_X9_11) (fun _ h9 => h9) rfl dX9_get_10 ?_
    refine lv_iload_n hx hb dX9_get_13 rfl (lv_at hl 1 rfl) ?_
    refine lv_bipush (v := 60) hx hb dX9_get_14 (by decide) ?_
    refine lv_imul hx hb dX9_get_16 ?_
    refine lv_iload_n hx hb dX9_get_17 rfl (lv_at hl 2 rfl) ?_
    refine lv_iadd hx hb dX9_get_18 ?_
    obtain ⟨hi, hf⟩ := ck hf
    refine r_lald 1 cx hP rfl hi dX9_get_19 ?_
    refine lv_goto (tgt := 26) hx hb dX9_get_20 (by decide) ?_
    obtain rfl := Option.some.inj hf
    subst hq
    exact retL cx hP hD hS dX9_get_26
