def X8_wordNumber_j96 (F : Nat) (o_place : Int32) (o_next : Int32) (o_text : Nat → Int32) (v1 : Int32) (v2 : Int32) (v3 : Int32) (v4 : Int32) : Option ((Int32 × Int32 × Int32 × Int32) ⊕ ((Int32) ⊕ (Unit))) :=
  some (.inl (v1, v2, v3, (v4 + 1)))
def X8_wordNumber_j94 (F : Nat) (o_place : Int32) (o_next : Int32) (o_text : Nat → Int32) (v1 : Int32) (v2 : Int32) (v4 : Int32) : Option ((Int32 × Int32 × Int32 × Int32) ⊕ ((Int32) ⊕ (Unit))) :=
  X8_wordNumber_j96 F o_place o_next o_text v1 v2 0 v4
def X8_wordNumber_j52 (F : Nat) (o_place : Int32) (o_next : Int32) (o_text : Nat → Int32) (v1 : Int32) (v4 : Int32) : Option ((Int32 × Int32 × Int32 × Int32) ⊕ ((Int32) ⊕ (Unit))) :=
  X8_wordNumber_j96 F o_place o_next o_text (v1 + 1) o_place 1 v4
def X8_wordNumber_b12 (F : Nat) (o_place : Int32) (o_next : Int32) (o_text : Nat → Int32) (st12 : Int32 × Int32 × Int32 × Int32) : Option ((Int32 × Int32 × Int32 × Int32) ⊕ ((Int32) ⊕ (Unit))) :=
  if (strLen 0) ≤ st12.2.2.2 then
  some (.inr (.inr (())))
  else
  if ix st12.2.2.2 (lns.getD 0 0) then
  if (strCh 0 st12.2.2.2) = 32 then
  if st12.2.2.1 = 0 then
  X8_wordNumber_j52 F o_place o_next o_text st12.1 st12.2.2.2
  else
  if st12.2.1 = o_next then
  some (.inr (.inl (st12.1)))
  else
  X8_wordNumber_j52 F o_place o_next o_text st12.1 st12.2.2.2
  else
  if st12.2.2.1 = 0 then
  X8_wordNumber_j94 F o_place o_next o_text st12.1 st12.2.1 st12.2.2.2
  else
  if o_next ≤ st12.2.1 then
  X8_wordNumber_j94 F o_place o_next o_text st12.1 st12.2.1 st12.2.2.2
  else
  if ix st12.2.1 900 then
  if (jat o_text st12.2.1) = (strCh 0 st12.2.2.2) then
  X8_wordNumber_j96 F o_place o_next o_text st12.1 (st12.2.1 + 1) st12.2.2.1 st12.2.2.2
  else
  X8_wordNumber_j94 F o_place o_next o_text st12.1 st12.2.1 st12.2.2.2
  else none
  else none
def X8_wordNumber (F : Nat) (o_place : Int32) (o_next : Int32) (o_text : Nat → Int32) : Option (Int32) :=
  (iter (X8_wordNumber_b12 F o_place o_next o_text) F (1, o_place, 1, 0)).bind (Sum.elim (fun (e12 : Int32) =>
    some e12) (fun (e12 : Unit) =>
    some 0))
abbrev wd_X8_wordNumber (E : vE) (a_o a_o_text : Nat) (o_held : Int32) (o_length : Int32) (o_place : Int32) (o_next : Int32) (o_sort : Int32) (o_value : Int32) (o_code : Int64) (o_fault : Int32) (o_faultPlace : Int32) (o_text : Nat → Int32) : va_W := [(a_o, .inr (8, [.ref a_o_text, .int o_held, .int o_length, .int o_place, .int o_next, .int o_sort, .int o_value, .long o_code, .int o_fault, .int o_faultPlace])), (a_o_text, .inl (E.2.1, 900, .inl o_text))]
set_option maxHeartbeats 4000000 in
set_option maxRecDepth 100000 in
theorem ct_X8_wordNumber (l : Launch) (E : vE) (F : Nat) (a_o a_o_text : Nat) (o_held : Int32) (o_length : Int32) (o_place : Int32) (o_next : Int32) (o_sort : Int32) (o_value : Int32) (o_code : Int64) (o_fault : Int32) (o_faultPlace : Int32) (o_text : Nat → Int32) (u : Int32) (hf : X8_wordNumber F o_place o_next o_text = some u) :
    CtI l yX8_wordNumber cX8_wordNumber 6 (some .int) 4 E [.ref a_o] (wd_X8_wordNumber E a_o a_o_text o_held o_length o_place o_next o_sort o_value o_code o_fault o_faultPlace o_text) (wd_X8_wordNumber E a_o a_o_text o_held o_length o_place o_next o_sort o_value o_code o_fault o_faultPlace o_text) u := by
  refine ctI (by decide) (Nat.le_of_ble_eq_true rfl) ?_
  intro p e s m below meth cd A ls aa QQ hq cx hP hD hS hl
  obtain ⟨⟨hx, hb, hml, hown, hts⟩, hr, hlocks, hK, hA, hX⟩ := id cx
  have hl : lv_has ls 6 [(0, .ref a_o)] := hl
  unfold X8_wordNumber at hf
  refine lv_iconst (v := 1) hx hb dX8_wordNumber_0 (by decide) ?_
  refine lv_istore_n (lv' := [(1, .int 1), (0, .ref a_o)]) hx hb dX8_wordNumber_1 rfl hl (by decide) rfl (fun ls hl => ?_)
  refine lv_aload_n hx hb dX8_wordNumber_2 rfl (lv_at hl 1 rfl) ?_
  refine va_get (D := E.1) (ci := 8) (v := .int o_place) (C := RX8) (T := TX8) (N := 10) hx hb hts inX8 hown hK hP 0 rfl rfl 3 (by decide) (hts _ fl_X8_50) (fun _ h9 => h9) rfl dX8_wordNumber_3 ?_
  refine lv_istore_n (lv' := [(2, .int o_place), (1, .int 1), (0, .ref a_o)]) hx hb dX8_wordNumber_6 rfl hl (by decide) rfl (fun ls hl => ?_)
  refine lv_iconst (v := 1) hx hb dX8_wordNumber_7 (by decide) ?_
  refine lv_istore_n (lv' := [(3, .int 1), (2, .int o_place), (1, .int 1), (0, .ref a_o)]) hx hb dX8_wordNumber_8 rfl hl (by decide) rfl (fun ls hl => ?_)
  refine lv_iconst (v := 0) hx hb dX8_wordNumber_9 (by decide) ?_
  refine lv_istore (lv' := [(4, .int 0), (3, .int 1), (2, .int o_place), (1, .int 1), (0, .ref a_o)]) hx hb dX8_wordNumber_10 hl (by decide) rfl (fun ls hl => ?_)
  obtain ⟨e12, hit12, hf⟩ := bd hf
  refine iter_W (b := X8_wordNumber_b12 F o_place o_next o_text) (P := fun st12 => ∀ (H : Heap) (locs : List Loc) (ls : Array Slot), va_P E.1 vwCl (wd_X8_wordNumber E a_o a_o_text o_held o_length o_place o_next o_sort o_value o_code o_fault o_faultPlace o_text) H → va_D A (wd_X8_wordNumber E a_o a_o_text o_held o_length o_place o_next o_sort o_value o_code o_fault o_faultPlace o_text) → va_S A s.heap H locs → lv_has ls 6 [(0, .ref a_o), (1, .int st12.1), (2, .int st12.2.1), (3, .int st12.2.2.1), (4, .int st12.2.2.2)] → W p l e (rmd 4) s m aa below meth cd H locs 0 0 QQ (F0 m 12 ls [])) (G := (Sum.elim (fun (e12 : Int32) => ∀ (H : Heap) (locs : List Loc) (ls : Array Slot), va_P E.1 vwCl (wd_X8_wordNumber E a_o a_o_text o_held o_length o_place o_next o_sort o_value o_code o_fault o_faultPlace o_text) H → va_D A (wd_X8_wordNumber E a_o a_o_text o_held o_length o_place o_next o_sort o_value o_code o_fault o_faultPlace o_text) → va_S A s.heap H locs → lv_has ls 6 [(1, .int e12)] → W p l e (rmd 4) s m aa below meth cd H locs 0 0 QQ (F0 m 50 ls [])) (fun (e12 : Unit) => ∀ (H : Heap) (locs : List Loc) (ls : Array Slot), va_P E.1 vwCl (wd_X8_wordNumber E a_o a_o_text o_held o_length o_place o_next o_sort o_value o_code o_fault o_faultPlace o_text) H → va_D A (wd_X8_wordNumber E a_o a_o_text o_held o_length o_place o_next o_sort o_value o_code o_fault o_faultPlace o_text) → va_S A s.heap H locs → lv_has ls 6 [] → W p l e (rmd 4) s m aa below meth cd H locs 0 0 QQ (F0 m 102 ls [])))) ?_ F (1, o_place, 1, 0) e12 hit12 ?_ _ _ _ hP hD hS (lv_sub hl [4, 3, 2, 1, 0] rfl)
  · intro st12 r12 hf hk12 he12 H locs ls hP hD hS hl
    have hj96 : ∀ (v1_j96 : Int32) (v2_j96 : Int32) (v3_j96 : Int32) (v4_j96 : Int32) (H : Heap) (locs : List Loc) (ls : Array Slot), X8_wordNumber_j96 F o_place o_next o_text v1_j96 v2_j96 v3_j96 v4_j96 = some r12 → va_P E.1 vwCl (wd_X8_wordNumber E a_o a_o_text o_held o_length o_place o_next o_sort o_value o_code o_fault o_faultPlace o_text) H → va_D A (wd_X8_wordNumber E a_o a_o_text o_held o_length o_place o_next o_sort o_value o_code o_fault o_faultPlace o_text) → va_S A s.heap H locs → lv_has ls 6 [(0, .ref a_o), (1, .int v1_j96), (2, .int v2_j96), (3, .int v3_j96), (4, .int v4_j96)] → W p l e (rmd 4) s m aa below meth cd H locs 0 0 QQ (F0 m 96 ls []) := by
      intro v1_j96 v2_j96 v3_j96 v4_j96 H locs ls hf hP hD hS hl
      unfold X8_wordNumber_j96 at hf
      refine lv_iinc (v := (v4_j96 + 1)) (lv' := [(4, .int (v4_j96 + 1)), (0, .ref a_o), (1, .int v1_j96), (2, .int v2_j96), (3, .int v3_j96)]) hx hb dX8_wordNumber_96 hl (k := 4) rfl rfl (by decide) rfl (fun ls hl => ?_)
      refine lv_goto (tgt := 12) hx hb dX8_wordNumber_99 (by decide) ?_
      exact hk12 _ (Option.some.inj hf).symm _ _ _ hP hD hS (lv_sub hl [1, 2, 3, 4, 0] rfl)
    have hj94 : ∀ (v1_j94 : Int32) (v2_j94 : Int32) (v4_j94 : Int32) (H : Heap) (locs : List Loc) (ls : Array Slot), X8_wordNumber_j94 F o_place o_next o_text v1_j94 v2_j94 v4_j94 = some r12 → va_P E.1 vwCl (wd_X8_wordNumber E a_o a_o_text o_held o_length o_place o_next o_sort o_value o_code o_fault o_faultPlace o_text) H → va_D A (wd_X8_wordNumber E a_o a_o_text o_held o_length o_place o_next o_sort o_value o_code o_fault o_faultPlace o_text) → va_S A s.heap H locs → lv_has ls 6 [(0, .ref a_o), (1, .int v1_j94), (2, .int v2_j94), (4, .int v4_j94)] → W p l e (rmd 4) s m aa below meth cd H locs 0 0 QQ (F0 m 94 ls []) := by
      intro v1_j94 v2_j94 v4_j94 H locs ls hf hP hD hS hl
      unfold X8_wordNumber_j94 at hf
      refine lv_iconst (v := 0) hx hb dX8_wordNumber_94 (by decide) ?_
      refine lv_istore_n (lv' := [(3, .int 0), (0, .ref a_o), (1, .int v1_j94), (2, .int v2_j94), (4, .int v4_j94)]) hx hb dX8_wordNumber_95 rfl hl (by decide) rfl (fun ls hl => ?_)
      exact hj96 _ _ _ _ _ _ _ hf hP hD hS (lv_sub hl [1, 2, 3, 0, 4] rfl)
    have hj52 : ∀ (v1_j52 : Int32) (v4_j52 : Int32) (H : Heap) (locs : List Loc) (ls : Array Slot), X8_wordNumber_j52 F o_place o_next o_text v1_j52 v4_j52 = some r12 → va_P E.1 vwCl (wd_X8_wordNumber E a_o a_o_text o_held o_length o_place o_next o_sort o_value o_code o_fault o_faultPlace o_text) H → va_D A (wd_X8_wordNumber E a_o a_o_text o_held o_length o_place o_next o_sort o_value o_code o_fault o_faultPlace o_text) → va_S A s.heap H locs → lv_has ls 6 [(0, .ref a_o), (1, .int v1_j52), (4, .int v4_j52)] → W p l e (rmd 4) s m aa below meth cd H locs 0 0 QQ (F0 m 52 ls []) := by
      intro v1_j52 v4_j52 H locs ls hf hP hD hS hl
      unfold X8_wordNumber_j52 at hf
      refine lv_iinc (v := (v1_j52 + 1)) (lv' := [(1, .int (v1_j52 + 1)), (0, .ref a_o), (4, .int v4_j52)]) hx hb dX8_wordNumber_52 hl (k := 1) rfl rfl (by decide) rfl (fun ls hl => ?_)
      refine lv_aload_n hx hb dX8_wordNumber_55 rfl (lv_at hl 1 rfl) ?_
      refine va_get (D := E.1) (ci := 8) (v := .int o_place) (C := RX8) (T := TX8) (N := 10) hx hb hts inX8 hown hK hP 0 rfl rfl 3 (by decide) (hts _ fl_X8_50) (fun _ h9 => h9) rfl dX8_wordNumber_56 ?_
      refine lv_istore_n (lv' := [(2, .int o_place), (1, .int (v1_j52 + 1)), (0, .ref a_o), (4, .int v4_j52)]) hx hb dX8_wordNumber_59 rfl hl (by decide) rfl (fun ls hl => ?_)
      refine lv_iconst (v := 1) hx hb dX8_wordNumber_60 (by decide) ?_
      refine lv_istore_n (lv' := [(3, .int 1), (2, .int o_place), (1, .int (v1_j52 + 1)), (0, .ref a_o), (4, .int v4_j52)]) hx hb dX8_wordNumber_61 rfl hl (by decide) rfl (fun ls hl => ?_)
      refine lv_goto (tgt := 96) hx hb dX8_wordNumber_62 (by decide) ?_
      exact hj96 _ _ _ _ _ _ _ hf hP hD hS (lv_sub hl [3, 2, 1, 0, 4] rfl)
    unfold X8_wordNumber_b12 at hf
    refine lv_iload hx hb dX8_wordNumber_12 (lv_at hl 4 rfl) ?_
    refine va_ldcS hx hb hown hX.2.2.2.1 dX8_wordNumber_14 ?_
    refine keepXI (As := []) (cs_length l E 0 (by decide)) [] cal_J0_length_8abf5 cav_J0_length_8abf5 lk_X8_86 cx hP hD hS hl dX8_wordNumber_16 (vk_recv hX.1 (by decide) hS) rfl rfl (Nat.le_of_ble_eq_true rfl) ⟨Nat.le_of_ble_eq_true rfl, Nat.le_of_ble_eq_true rfl⟩ rfl (by decide) (fun H locs hP hS => ?_)
    refine lv_icmp_ge (tgt := 102) hx hb dX8_wordNumber_19 (by decide) (fun hc => ?_) (fun hc => ?_)
    · have hf := it_t hc hf
      exact he12 _ (Option.some.inj hf).symm _ _ _ hP hD hS (lv_sub hl [] rfl)
    · have hf := it_f hc hf
      refine va_ldcS hx hb hown hX.2.2.2.1 dX8_wordNumber_22 ?_
      refine lv_iload hx hb dX8_wordNumber_24 (lv_at hl 4 rfl) ?_
      obtain ⟨hi, hf⟩ := ck hf
      refine keepXI (As := [.int st12.2.2.2]) (cs_charAt l E 0 (by decide) st12.2.2.2 hi) [] cal_J0_charAt_5068e cav_J0_charAt_5068e lk_X8_90 cx hP hD hS hl dX8_wordNumber_26 (vk_recv hX.1 (by decide) hS) rfl rfl (Nat.le_of_ble_eq_true rfl) ⟨Nat.le_of_ble_eq_true rfl, Nat.le_of_ble_eq_true rfl⟩ rfl (by decide) (fun H locs hP hS => ?_)
      refine lv_istore (lv' := [(5, .int (strCh 0 st12.2.2.2)), (0, .ref a_o), (1, .int st12.1), (2, .int st12.2.1), (3, .int st12.2.2.1), (4, .int st12.2.2.2)]) hx hb dX8_wordNumber_29 hl (by decide) rfl (fun ls hl => ?_)
      refine lv_iload hx hb dX8_wordNumber_31 (lv_at hl 0 rfl) ?_
      refine lv_bipush (v := 32) hx hb dX8_wordNumber_33 (by decide) ?_
      refine lv_icmp_ne (tgt := 65) hx hb dX8_wordNumber_35 (by decide) (fun hc => ?_) (fun hc => ?_)
      · have hf := it_f hc hf
        refine lv_iload_n hx hb dX8_wordNumber_65 rfl (lv_at hl 4 rfl) ?_
        refine lv_if_eq (tgt := 94) hx hb dX8_wordNumber_66 (by decide) (fun hc => ?_) (fun hc => ?_)
        · have hf := it_t hc hf
          exact hj94 _ _ _ _ _ _ hf hP hD hS (lv_sub hl [1, 2, 3, 5] rfl)
        · have hf := it_f hc hf
          refine lv_iload_n hx hb dX8_wordNumber_69 rfl (lv_at hl 3 rfl) ?_
          refine lv_aload_n hx hb dX8_wordNumber_70 rfl (lv_at hl 1 rfl) ?_
          refine va_get (D := E.1) (ci := 8) (v := .int o_next) (C := RX8) (T := TX8) (N := 10) hx hb hts inX8 hown hK hP 0 rfl rfl 4 (by decide) (hts _ fl_X8_38) (fun _ h9 => h9) rfl dX8_wordNumber_71 ?_
          refine lv_icmp_ge (tgt := 94) hx hb dX8_wordNumber_74 (by decide) (fun hc => ?_) (fun hc => ?_)
          · have hf := it_t hc hf
            exact hj94 _ _ _ _ _ _ hf hP hD hS (lv_sub hl [1, 2, 3, 5] rfl)
          · have hf := it_f hc hf
            refine lv_aload_n hx hb dX8_wordNumber_77 rfl (lv_at hl 1 rfl) ?_
            refine va_get (D := E.1) (ci := 8) (v := .ref a_o_text) (C := RX8) (T := TX8) (N := 10) hx hb hts inX8 hown hK hP 0 rfl rfl 0 (by decide) (hts _ fl_X8_11) (fun _ h9 => h9) rfl dX8_wordNumber_78 ?_
            refine lv_iload_n hx hb dX8_wordNumber_81 rfl (lv_at hl 3 rfl) ?_
            obtain ⟨hi, hf⟩ := ck hf
            refine r_iald 1 cx hP rfl hi dX8_wordNumber_82 ?_
            refine lv_iload hx hb dX8_wordNumber_83 (lv_at hl 0 rfl) ?_
            refine lv_icmp_ne (tgt := 94) hx hb dX8_wordNumber_85 (by decide) (fun hc => ?_) (fun hc => ?_)
            · have hf := it_f hc hf
              exact hj94 _ _ _ _ _ _ hf hP hD hS (lv_sub hl [1, 2, 3, 5] rfl)
            · have hf := it_t hc hf
              refine lv_iinc (v := (st12.2.1 + 1)) (lv' := [(2, .int (st12.2.1 + 1)), (5, .int (strCh 0 st12.2.2.2)), (0, .ref a_o), (1, .int st12.1), (3, .int st12.2.2.1), (4, .int st12.2.2.2)]) hx hb dX8_wordNumber_88 hl (k := 3) rfl rfl (by decide) rfl (fun ls hl => ?_)
              refine lv_goto (tgt := 96) hx hb dX8_wordNumber_91 (by decide) ?_
              exact hj96 _ _ _ _ _ _ _ hf hP hD hS (lv_sub hl [2, 3, 0, 4, 5] rfl)
      · have hf := it_t hc hf
        refine lv_iload_n hx hb dX8_wordNumber_38 rfl (lv_at hl 4 rfl) ?_
        refine lv_if_eq (tgt := 52) hx hb dX8_wordNumber_39 (by decide) (fun hc => ?_) (fun hc => ?_)
        · have hf := it_t hc hf
          exact hj52 _ _ _ _ _ hf hP hD hS (lv_sub hl [1, 2, 5] rfl)
        · have hf := it_f hc hf
          refine lv_iload_n hx hb dX8_wordNumber_42 rfl (lv_at hl 3 rfl) ?_
          refine lv_aload_n hx hb dX8_wordNumber_43 rfl (lv_at hl 1 rfl) ?_
          refine va_get (D := E.1) (ci := 8) (v := .int o_next) (C := RX8) (T := TX8) (N := 10) hx hb hts inX8 hown hK hP 0 rfl rfl 4 (by decide) (hts _ fl_X8_38) (fun _ h9 => h9) rfl dX8_wordNumber_44 ?_
          refine lv_icmp_ne (tgt := 52) hx hb dX8_wordNumber_47 (by decide) (fun hc => ?_) (fun hc => ?_)
          · have hf := it_f hc hf
            exact hj52 _ _ _ _ _ hf hP hD hS (lv_sub hl [1, 2, 5] rfl)
          · have hf := it_t hc hf
            exact he12 _ (Option.some.inj hf).symm _ _ _ hP hD hS (lv_sub hl [2] rfl)
  · rcases e12 with e12 | e12
    · have hf := se_l hf
      refine fun H locs ls hP hD hS hl => ?_
      refine lv_iload_n hx hb dX8_wordNumber_50 rfl (lv_at hl 0 rfl) ?_
      obtain rfl := Option.some.inj hf
      subst hq
      exact retI cx hP hD hS dX8_wordNumber_51
    · have hf := se_r hf
      refine fun H locs ls hP hD hS hl => ?_
      refine lv_iconst (v := 0) hx hb dX8_wordNumber_102 (by decide) ?_
      obtain rfl := Option.some.inj hf
      subst hq
      exact retI cx hP hD hS dX8_wordNumber_103
def X8_isDigit_j16  : Option (Int32) :=
  some 0
def X8_isDigit (v0 : Int32) : Option (Int32) :=
  if v0 < 48 then
  X8_isDigit_j16
  else
  if (57 : Int32) < v0 then
  X8_isDigit_j16
  else
  some 1
abbrev wd_X8_isDigit (E : vE) : va_W := []
set_option maxHeartbeats 4000000 in
set_option maxRecDepth 100000 in
theorem ct_X8_isDigit (l : Launch) (E : vE) (v0 : Int32) (u : Int32) (hf : X8_isDigit v0 = some u) :
    CtI l yX8_isDigit cX8_isDigit 1 (some .boolean) 0 E [.int v0] (wd_X8_isDigit E) (wd_X8_isDigit E) u := by
  refine ctI (by decide) (Nat.le_of_ble_eq_true rfl) ?_
  intro p e s m below meth cd A ls aa QQ hq cx hP hD hS hl
  obtain ⟨⟨hx, hb, hml, hown, hts⟩, hr, hlocks, hK, hA, hX⟩ := id cx
  have hl : lv_has ls 1 [(0, .int v0)] := hl
  have hj16 : ∀ (H : Heap) (locs : List Loc) (ls : Array Slot), X8_isDigit_j16 = some u → va_P E.1 vwCl (wd_X8_isDigit E) H → va_D A (wd_X8_isDigit E) → va_S A s.heap H locs → lv_has ls 1 [] → W p l e (rmd 0) s m aa below meth cd H locs 0 0 QQ (F0 m 16 ls []) := by
    intro H locs ls hf hP hD hS hl
    unfold X8_isDigit_j16 at hf
    refine lv_iconst (v := 0) hx hb dX8_isDigit_16 (by decide) ?_
    obtain rfl := Option.some.inj hf
    subst hq
    exact retZ cx rfl hP hD hS dX8_isDigit_17
  unfold X8_isDigit at hf
  refine lv_iload_n hx hb dX8_isDigit_0 rfl (lv_at hl 0 rfl) ?_
  refine lv_bipush (v := 48) hx hb dX8_isDigit_1 (by decide) ?_
  refine lv_icmp_lt (tgt := 16) hx hb dX8_isDigit_3 (by decide) (fun hc => ?_) (fun hc => ?_)
  · have hf := it_t hc hf
    exact hj16  _ _ _ hf hP hD hS (lv_sub hl [] rfl)
  · have hf := it_f hc hf
    refine lv_iload_n hx hb dX8_isDigit_6 rfl (lv_at hl 0 rfl) ?_
    refine lv_bipush (v := 57) hx hb dX8_isDigit_7 (by decide) ?_
    refine lv_icmp_gt (tgt := 16) hx hb dX8_isDigit_9 (by decide) (fun hc => ?_) (fun hc => ?_)
    · have hf := it_t hc hf
      exact hj16  _ _ _ hf hP hD hS (lv_sub hl [] rfl)
    · have hf := it_f hc hf
      refine lv_iconst (v := 1) hx hb dX8_isDigit_12 (by decide) ?_
      refine lv_goto (tgt := 17) hx hb dX8_isDigit_13 (by decide) ?_
      obtain rfl := Option.some.inj hf
      subst hq
      exact retZ cx rfl hP hD hS dX8_isDigit_17
def X8_takeDigits_j95 (F : Nat) (o_length : Int32) (o_place : Int32) (o_next : Int32) (o_sort : Int32) (o_value : Int32) (o_text : Nat → Int32) (k0 : Int32) : Option (Int32 × Int32 × Int32) :=
  some (o_next, k0, o_value)
def X8_takeDigits_j76 (F : Nat) (o_length : Int32) (o_place : Int32) (o_next : Int32) (o_sort : Int32) (o_value : Int32) (o_text : Nat → Int32) : Option (Int32 × Int32 × Int32) :=
  if (4 : Int32) < (o_next - o_place) then
  X8_takeDigits_j95 F o_length o_place o_next o_sort o_value o_text 4
  else
  X8_takeDigits_j95 F o_length o_place o_next o_sort o_value o_text 2
def X8_takeDigits_j63 (F : Nat) (o_length : Int32) (o_place : Int32) (o_next : Int32) (o_sort : Int32) (o_value : Int32) (o_text : Nat → Int32) : Option ((Int32 × Int32) ⊕ ((Int32 × Int32))) :=
  some (.inl ((o_next + 1), o_value))
def X8_takeDigits_b0 (F : Nat) (o_length : Int32) (o_place : Int32) (o_sort : Int32) (o_text : Nat → Int32) (st0 : Int32 × Int32) : Option ((Int32 × Int32) ⊕ ((Int32 × Int32))) :=
  if o_length ≤ st0.1 then
  some (.inr (st0.1, st0.2))
  else
  if ix st0.1 900 then
  (X8_isDigit (jat o_text st0.1)).bind fun u20 =>
  if u20 = 0 then
  some (.inr (st0.1, st0.2))
  else
  if (4 : Int32) ≤ (st0.1 - o_place) then
  X8_takeDigits_j63 F o_length o_place st0.1 o_sort st0.2 o_text
  else
  if ix st0.1 900 then
  X8_takeDigits_j63 F o_length o_place st0.1 o_sort (((st0.2 * 10) + (jat o_text st0.1)) - 48) o_text
  else none
  else none
def X8_takeDigits (F : Nat) (o_length : Int32) (o_place : Int32) (o_next : Int32) (o_sort : Int32) (o_value : Int32) (o_text : Nat → Int32) : Option (Int32 × Int32 × Int32) :=
  (iter (X8_takeDigits_b0 F o_length o_place o_sort o_text) F (o_next, o_value)).bind (fun (e0 : Int32 × Int32) =>
    X8_takeDigits_j76 F o_length o_place e0.1 o_sort e0.2 o_text)
abbrev wd_X8_takeDigits (E : vE) (a_o a_o_text : Nat) (o_held : Int32) (o_length : Int32) (o_place : Int32) (o_next : Int32) (o_sort : Int32) (o_value : Int32) (o_code : Int64) (o_fault : Int32) (o_faultPlace : Int32) (o_text : Nat → Int32) : va_W := [(a_o, .inr (8, [.ref a_o_text, .int o_held, .int o_length, .int o_place, .int o_next, .int o_sort, .int o_value, .long o_code, .int o_fault, .int o_faultPlace])), (a_o_text, .inl (E.2.1, 900, .inl o_text))]
set_option maxHeartbeats 4000000 in
set_option maxRecDepth 100000 in
theorem ct_X8_takeDigits (l : Launch) (E : vE) (F : Nat) (a_o a_o_text : Nat) (o_held : Int32) (o_length : Int32) (o_place : Int32) (o_next : Int32) (o_sort : Int32) (o_value : Int32) (o_code : Int64) (o_fault : Int32) (o_faultPlace : Int32) (o_text : Nat → Int32) (u : Int32 × Int32 × Int32) (hf : X8_takeDigits F o_length o_place o_next o_sort o_value o_text = some u) :
    CtV l yX8_takeDigits cX8_takeDigits 1 none 1 E [.ref a_o] (wd_X8_takeDigits E a_o a_o_text o_held o_length o_place o_next o_sort o_value o_code o_fault o_faultPlace o_text) (wd_X8_takeDigits E a_o a_o_text o_held o_length o_place u.1 u.2.1 u.2.2 o_code o_fault o_faultPlace o_text) := by
  refine ctV (by decide) (Nat.le_of_ble_eq_true rfl) ?_
  intro p e s m below meth cd A ls aa QQ hq cx hP hD hS hl
  obtain ⟨⟨hx, hb, hml, hown, hts⟩, hr, hlocks, hK, hA, hX⟩ := id cx
  have hl : lv_has ls 1 [(0, .ref a_o)] := hl
  have hj95 : ∀ (o_next_j95 : Int32) (o_sort_j95 : Int32) (o_value_j95 : Int32) (k0_j95 : Int32) (H : Heap) (locs : List Loc) (ls : Array Slot), X8_takeDigits_j95 F o_length o_place o_next_j95 o_sort_j95 o_value_j95 o_text k0_j95 = some u → va_P E.1 vwCl (wd_X8_takeDigits E a_o a_o_text o_held o_length o_place o_next_j95 o_sort_j95 o_value_j95 o_code o_fault o_faultPlace o_text) H → va_D A (wd_X8_takeDigits E a_o a_o_text o_held o_length o_place o_next_j95 o_sort_j95 o_value_j95 o_code o_fault o_faultPlace o_text) → va_S A s.heap H locs → lv_has ls 1 [] → W p l e (rmd 1) s m aa below meth cd H locs 0 0 QQ (F0 m 95 ls [.int k0_j95, .ref a_o]) := by
    intro o_next_j95 o_sort_j95 o_value_j95 k0_j95 H locs ls hf hP hD hS hl
    unfold X8_takeDigits_j95 at hf
    refine va_put (D := E.1) (ci := 8) (v := .int k0_j95) (ty := .int) (C := RX8) (T := TX8) (N := 10) hx hb hts inX8 tyX8 tyX8_ok nmX8 hown hK hP hD hS 0 rfl rfl 5 (by decide) (hts _ fl_X8_47) (fun _ h9 => h9) rfl (by decide +kernel) rfl rfl (Nat.le_of_ble_eq_true rfl) dX8_takeDigits_95 (fun H locs hP hD hS => ?_)
    have hP : va_P E.1 vwCl (wd_X8_takeDigits E a_o a_o_text o_held o_length o_place o_next_j95 k0_j95 o_value_j95 o_code o_fault o_faultPlace o_text) H := hP
    have hD : va_D A (wd_X8_takeDigits E a_o a_o_text o_held o_length o_place o_next_j95 k0_j95 o_value_j95 o_code o_fault o_faultPlace o_text) := hD
    obtain rfl := Option.some.inj hf
    subst hq
    exact retV cx hP hD hS dX8_takeDigits_98
  have hj76 : ∀ (o_next_j76 : Int32) (o_sort_j76 : Int32) (o_value_j76 : Int32) (H : Heap) (locs : List Loc) (ls : Array Slot), X8_takeDigits_j76 F o_length o_place o_next_j76 o_sort_j76 o_value_j76 o_text = some u → va_P E.1 vwCl (wd_X8_takeDigits E a_o a_o_text o_held o_length o_place o_next_j76 o_sort_j76 o_value_j76 o_code o_fault o_faultPlace o_text) H → va_D A (wd_X8_takeDigits E a_o a_o_text o_held o_length o_place o_next_j76 o_sort_j76 o_value_j76 o_code o_fault o_faultPlace o_text) → va_S A s.heap H locs → lv_has ls 1 [(0, .ref a_o)] → W p l e (rmd 1) s m aa below meth cd H locs 0 0 QQ (F0 m 76 ls []) := by
    intro o_next_j76 o_sort_j76 o_value_j76 H locs ls hf hP hD hS hl
    unfold X8_takeDigits_j76 at hf
    refine lv_aload_n hx hb dX8_takeDigits_76 rfl (lv_at hl 0 rfl) ?_
    refine lv_aload_n hx hb dX8_takeDigits_77 rfl (lv_at hl 0 rfl) ?_
    refine va_get (D := E.1) (ci := 8) (v := .int o_next_j76) (C := RX8) (T := TX8) (N := 10) hx hb hts inX8 hown hK hP 0 rfl rfl 4 (by decide) (hts _ fl_X8_38) (fun _ h9 => h9) rfl dX8_takeDigits_78 ?_
    refine lv_aload_n hx hb dX8_takeDigits_81 rfl (lv_at hl 0 rfl) ?_
    refine va_get (D := E.1) (ci := 8) (v := .int o_place) (C := RX8) (T := TX8) (N := 10) hx hb hts inX8 hown hK hP 0 rfl rfl 3 (by decide) (hts _ fl_X8_50) (fun _ h9 => h9) rfl dX8_takeDigits_82 ?_
    refine lv_isub hx hb dX8_takeDigits_85 ?_
    refine lv_iconst (v := 4) hx hb dX8_takeDigits_86 (by decide) ?_
    refine lv_icmp_gt (tgt := 94) hx hb dX8_takeDigits_87 (by decide) (fun hc => ?_) (fun hc => ?_)
    · have hf := it_t hc hf
      refine lv_iconst (v := 4) hx hb dX8_takeDigits_94 (by decide) ?_
      exact hj95 _ _ _ _ _ _ _ hf hP hD hS (lv_sub hl [] rfl)
    · have hf := it_f hc hf
      refine lv_iconst (v := 2) hx hb dX8_takeDigits_90 (by decide) ?_
      refine lv_goto (tgt := 95) hx hb dX8_takeDigits_91 (by decide) ?_
      exact hj95 _ _ _ _ _ _ _ hf hP hD hS (lv_sub hl [] rfl)
  unfold X8_takeDigits at hf
  obtain ⟨e0, hit0, hf⟩ := bd hf
  refine iter_W (b := X8_takeDigits_b0 F o_length o_place o_sort o_text) (P := fun st0 => ∀ (H : Heap) (locs : List Loc) (ls : Array Slot), va_P E.1 vwCl (wd_X8_takeDigits E a_o a_o_text o_held o_length o_place st0.1 o_sort st0.2 o_code o_fault o_faultPlace o_text) H → va_D A (wd_X8_takeDigits E a_o a_o_text o_held o_length o_place st0.1 o_sort st0.2 o_code o_fault o_faultPlace o_text) → va_S A s.heap H locs → lv_has ls 1 [(0, .ref a_o)] → W p l e (rmd 1) s m aa below meth cd H locs 0 0 QQ (F0 m 0 ls [])) (G := (fun (e0 : Int32 × Int32) => ∀ (H : Heap) (locs : List Loc) (ls : Array Slot), va_P E.1 vwCl (wd_X8_takeDigits E a_o a_o_text o_held o_length o_place e0.1 o_sort e0.2 o_code o_fault o_faultPlace o_text) H → va_D A (wd_X8_takeDigits E a_o a_o_text o_held o_length o_place e0.1 o_sort e0.2 o_code o_fault o_faultPlace o_text) → va_S A s.heap H locs → lv_has ls 1 [(0, .ref a_o)] → W p l e (rmd 1) s m aa below meth cd H locs 0 0 QQ (F0 m 76 ls []))) ?_ F (o_next, o_value) e0 hit0 ?_ _ _ _ hP hD hS (lv_sub hl [0] rfl)
  · intro st0 r0 hf hk0 he0 H locs ls hP hD hS hl
    have hj63 : ∀ (o_next_j63 : Int32) (o_value_j63 : Int32) (H : Heap) (locs : List Loc) (ls : Array Slot), X8_takeDigits_j63 F o_length o_place o_next_j63 o_sort o_value_j63 o_text = some r0 → va_P E.1 vwCl (wd_X8_takeDigits E a_o a_o_text o_held o_length o_place o_next_j63 o_sort o_value_j63 o_code o_fault o_faultPlace o_text) H → va_D A (wd_X8_takeDigits E a_o a_o_text o_held o_length o_place o_next_j63 o_sort o_value_j63 o_code o_fault o_faultPlace o_text) → va_S A s.heap H locs → lv_has ls 1 [(0, .ref a_o)] → W p l e (rmd 1) s m aa below meth cd H locs 0 0 QQ (F0 m 63 ls []) := by
      intro o_next_j63 o_value_j63 H locs ls hf hP hD hS hl
      unfold X8_takeDigits_j63 at hf
      refine lv_aload_n hx hb dX8_takeDigits_63 rfl (lv_at hl 0 rfl) ?_
      refine lv_dup hx hb dX8_takeDigits_64 rfl ?_
      refine va_get (D := E.1) (ci := 8) (v := .int o_next_j63) (C := RX8) (T := TX8) (N := 10) hx hb hts inX8 hown hK hP 0 rfl rfl 4 (by decide) (hts _ fl_X8_38) (fun _ h9 => h9) rfl dX8_takeDigits_65 ?_
      refine lv_iconst (v := 1) hx hb dX8_takeDigits_68 (by decide) ?_
      refine lv_iadd hx hb dX8_takeDigits_69 ?_
      refine va_put (D := E.1) (ci := 8) (v := .int (o_next_j63 + 1)) (ty := .int) (C := RX8) (T := TX8) (N := 10) hx hb hts inX8 tyX8 tyX8_ok nmX8 hown hK hP hD hS 0 rfl rfl 4 (by decide) (hts _ fl_X8_38) (fun _ h9 => h9) rfl (by decide +kernel) rfl rfl (Nat.le_of_ble_eq_true rfl) dX8_takeDigits_70 (fun H locs hP hD hS => ?_)
      have hP : va_P E.1 vwCl (wd_X8_takeDigits E a_o a_o_text o_held o_length o_place (o_next_j63 + 1) o_sort o_value_j63 o_code o_fault o_faultPlace o_text) H := hP
      have hD : va_D A (wd_X8_takeDigits E a_o a_o_text o_held o_length o_place (o_next_j63 + 1) o_sort o_value_j63 o_code o_fault o_faultPlace o_text) := hD
      refine lv_goto (tgt := 0) hx hb dX8_takeDigits_73 (by decide) ?_
      exact hk0 _ (Option.some.inj hf).symm _ _ _ hP hD hS (lv_sub hl [0] rfl)
    unfold X8_takeDigits_b0 at hf
    refine lv_aload_n hx hb dX8_takeDigits_0 rfl (lv_at hl 0 rfl) ?_
    refine va_get (D := E.1) (ci := 8) (v := .int st0.1) (C := RX8) (T := TX8) (N := 10) hx hb hts inX8 hown hK hP 0 rfl rfl 4 (by decide) (hts _ fl_X8_38) (fun _ h9 => h9) rfl dX8_takeDigits_1 ?_
    refine lv_aload_n hx hb dX8_takeDigits_4 rfl (lv_at hl 0 rfl) ?_
    refine va_get (D := E.1) (ci := 8) (v := .int o_length) (C := RX8) (T := TX8) (N := 10) hx hb hts inX8 hown hK hP 0 rfl rfl 2 (by decide) (hts _ fl_X8_35) (fun _ h9 => h9) rfl dX8_takeDigits_5 ?_
    refine lv_icmp_ge (tgt := 76) hx hb dX8_takeDigits_8 (by decide) (fun hc => ?_) (fun hc => ?_)
    · have hf := it_t hc hf
      exact he0 _ (Option.some.inj hf).symm _ _ _ hP hD hS (lv_sub hl [0] rfl)
    · have hf := it_f hc hf
      refine lv_aload_n hx hb dX8_takeDigits_11 rfl (lv_at hl 0 rfl) ?_
      refine va_get (D := E.1) (ci := 8) (v := .ref a_o_text) (C := RX8) (T := TX8) (N := 10) hx hb hts inX8 hown hK hP 0 rfl rfl 0 (by decide) (hts _ fl_X8_11) (fun _ h9 => h9) rfl dX8_takeDigits_12 ?_
      refine lv_aload_n hx hb dX8_takeDigits_15 rfl (lv_at hl 0 rfl) ?_
      refine va_get (D := E.1) (ci := 8) (v := .int st0.1) (C := RX8) (T := TX8) (N := 10) hx hb hts inX8 hown hK hP 0 rfl rfl 4 (by decide) (hts _ fl_X8_38) (fun _ h9 => h9) rfl dX8_takeDigits_16 ?_
      obtain ⟨hi, hf⟩ := ck hf
      refine r_iald 1 cx hP rfl hi dX8_takeDigits_19 ?_
      obtain ⟨u20, hu20, hf⟩ := bd hf
      refine keepSI (ct_X8_isDigit l E (jat o_text st0.1) u20 hu20) [] cal_X8_isDigit sta_X8_isDigit lk_X8_74 cx hP hD hS hl dX8_takeDigits_20 rfl rfl (Nat.le_of_ble_eq_true rfl) ⟨Nat.le_of_ble_eq_true rfl, Nat.le_of_ble_eq_true rfl⟩ rfl (by decide) (fun H locs hP hS => ?_)
      refine lv_if_eq (tgt := 76) hx hb dX8_takeDigits_23 (by decide) (fun hc => ?_) (fun hc => ?_)
      · have hf := it_t hc hf
        exact he0 _ (Option.some.inj hf).symm _ _ _ hP hD hS (lv_sub hl [0] rfl)
      · have hf := it_f hc hf
        refine lv_aload_n hx hb dX8_takeDigits_26 rfl (lv_at hl 0 rfl) ?_
        refine va_get (D := E.1) (ci := 8) (v := .int st0.1) (C := RX8) (T := TX8) (N := 10) hx hb hts inX8 hown hK hP 0 rfl rfl 4 (by decide) (hts _ fl_X8_38) (fun _ h9 => h9) rfl dX8_takeDigits_27 ?_
        refine lv_aload_n hx hb dX8_takeDigits_30 rfl (lv_at hl 0 rfl) ?_
        refine va_get (D := E.1) (ci := 8) (v := .int o_place) (C := RX8) (T := TX8) (N := 10) hx hb hts inX8 hown hK hP 0 rfl rfl 3 (by decide) (hts _ fl_X8_50) (fun _ h9 => h9) rfl dX8_takeDigits_31 ?_
        refine lv_isub hx hb dX8_takeDigits_34 ?_
        refine lv_iconst (v := 4) hx hb dX8_takeDigits_35 (by decide) ?_
        refine lv_icmp_ge (tgt := 63) hx hb dX8_takeDigits_36 (by decide) (fun hc => ?_) (fun hc => ?_)
        · have hf := it_t hc hf
          exact hj63 _ _ _ _ _ hf hP hD hS (lv_sub hl [0] rfl)
        · have hf := it_f hc hf
          refine lv_aload_n hx hb dX8_takeDigits_39 rfl (lv_at hl 0 rfl) ?_
          refine lv_aload_n hx hb dX8_takeDigits_40 rfl (lv_at hl 0 rfl) ?_
          refine va_get (D := E.1) (ci := 8) (v := .int st0.2) (C := RX8) (T := TX8) (N := 10) hx hb hts inX8 hown hK hP 0 rfl rfl 6 (by decide) (hts _ fl_X8_57) (fun _ h9 => h9) rfl dX8_takeDigits_41 ?_
          refine lv_bipush (v := 10) hx hb dX8_takeDigits_44 (by decide) ?_
          refine lv_imul hx hb dX8_takeDigits_46 ?_
          refine lv_aload_n hx hb dX8_takeDigits_47 rfl (lv_at hl 0 rfl) ?_
          refine va_get (D := E.1) (ci := 8) (v := .ref a_o_text) (C := RX8) (T := TX8) (N := 10) hx hb hts inX8 hown hK hP 0 rfl rfl 0 (by decide) (hts _ fl_X8_11) (fun _ h9 => h9) rfl dX8_takeDigits_48 ?_
          refine lv_aload_n hx hb dX8_takeDigits_51 rfl (lv_at hl 0 rfl) ?_
          refine va_get (D := E.1) (ci := 8) (v := .int st0.1) (C := RX8) (T := TX8) (N := 10) hx hb hts inX8 hown hK hP 0 rfl rfl 4 (by decide) (hts _ fl_X8_38) (fun _ h9 => h9) rfl dX8_takeDigits_52 ?_
          obtain ⟨hi, hf⟩ := ck hf
          refine r_iald 1 cx hP rfl hi dX8_takeDigits_55 ?_
          refine lv_iadd hx hb dX8_takeDigits_56 ?_
          refine lv_bipush (v := 48) hx hb dX8_takeDigits_57 (by decide) ?_
          refine lv_isub hx hb dX8_takeDigits_59 ?_
          refine va_put (D := E.1) (ci := 8) (v := .int (((st0.2 * 10) + (jat o_text st0.1)) - 48)) (ty := .int) (C := RX8) (T := TX8) (N := 10) hx hb hts inX8 tyX8 tyX8_ok nmX8 hown hK hP hD hS 0 rfl rfl 6 (by decide) (hts _ fl_X8_57) (fun _ h9 => h9) rfl (by decide +kernel) rfl rfl (Nat.le_of_ble_eq_true rfl) dX8_takeDigits_60 (fun H locs hP hD hS => ?_)
          have hP : va_P E.1 vwCl (wd_X8_takeDigits E a_o a_o_text o_held o_length o_place st0.1 o_sort (((st0.2 * 10) + (jat o_text st0.1)) - 48) o_code o_fault o_faultPlace o_text) H := hP
          have hD : va_D A (wd_X8_takeDigits E a_o a_o_text o_held o_length o_place st0.1 o_sort (((st0.2 * 10) + (jat o_text st0.1)) - 48) o_code o_fault o_faultPlace o_text) := hD
          exact hj63 _ _ _ _ _ hf hP hD hS (lv_sub hl [0] rfl)
  · refine fun H locs ls hP hD hS hl => ?_
    exact hj76 _ _ _ _ _ _ hf hP hD hS (lv_sub hl [0] rfl)
def X8_advance_j183 (F : Nat) (o_length : Int32) (o_place : Int32) (o_next : Int32) (o_sort : Int32) (o_value : Int32) (o_code : Int64) (o_text : Nat → Int32) (v1 : Int32) : Option (Int32 × Int32 × Int32 × Int32 × Int64) :=
  some (o_place, (o_next + 1), 3, v1, o_code)
def X8_advance_j137 (F : Nat) (o_length : Int32) (o_place : Int32) (o_next : Int32) (o_sort : Int32) (o_value : Int32) (o_code : Int64) (o_text : Nat → Int32) : Option (Int32 × Int32 × Int32 × Int32 × Int64) :=
  some (o_place, o_next, o_sort, o_value, 0)
def X8_advance_j52 (F : Nat) (o_length : Int32) (o_place : Int32) (o_next : Int32) (o_sort : Int32) (o_value : Int32) (o_code : Int64) (o_text : Nat → Int32) : Option (Int32 × Int32 × Int32 × Int32 × Int64) :=
  if o_next < o_length then
  if ix o_next 900 then
  (X8_isLetter (jat o_text o_next)).bind fun u98 =>
  if u98 = 0 then
  (X8_isDigit (jat o_text o_next)).bind fun u146 =>
  if u146 = 0 then
  if (jat o_text o_next) = 59 then
  X8_advance_j183 F o_length o_next o_next o_sort 0 0 o_text (jat o_text o_next)
  else
  if (jat o_text o_next) = 60 then
  X8_advance_j183 F o_length o_next o_next o_sort 0 0 o_text (jat o_text o_next)
  else
  if (jat o_text o_next) = 62 then
  X8_advance_j183 F o_length o_next o_next o_sort 0 0 o_text (jat o_text o_next)
  else
  if (jat o_text o_next) = 61 then
  X8_advance_j183 F o_length o_next o_next o_sort 0 0 o_text (jat o_text o_next)
  else
  some (o_next, o_next, 4, 0, 0)
  else
  (X8_takeDigits F o_length o_next o_next o_sort 0 o_text).bind fun u153 =>
  some (o_next, u153.1, u153.2.1, u153.2.2, 0)
  else
  (X8_takeLetters F o_length o_next o_sort 0 o_text).bind fun u105 =>
  (X8_wordNumber F o_next u105.1 o_text).bind fun u110 =>
  if (0 : Int32) < u110 then
  X8_advance_j137 F o_length o_next u105.1 u105.2.1 u110 u105.2.2 o_text
  else
  if (u105.1 - o_next) ≤ 8 then
  some (o_next, u105.1, u105.2.1, u110, u105.2.2)
  else
  X8_advance_j137 F o_length o_next u105.1 u105.2.1 u110 u105.2.2 o_text
  else none
  else
  some (o_next, o_next, 0, 0, 0)
def X8_advance_j39 (F : Nat) (o_length : Int32) (o_place : Int32) (o_next : Int32) (o_sort : Int32) (o_value : Int32) (o_code : Int64) (o_text : Nat → Int32) : Option ((Int32) ⊕ ((Int32))) :=
  some (.inl (o_next + 1))
def X8_advance_b0 (F : Nat) (o_length : Int32) (o_place : Int32) (o_sort : Int32) (o_value : Int32) (o_code : Int64) (o_text : Nat → Int32) (st0 : Int32) : Option ((Int32) ⊕ ((Int32))) :=
  if o_length ≤ st0 then
  some (.inr st0)
  else
  if ix st0 900 then
  if (jat o_text st0) = 10 then
  X8_advance_j39 F o_length o_place st0 o_sort o_value o_code o_text
  else
  if ix st0 900 then
  if (jat o_text st0) = 32 then
  X8_advance_j39 F o_length o_place st0 o_sort o_value o_code o_text
  else
  some (.inr st0)
  else none
  else none
def X8_advance (F : Nat) (o_length : Int32) (o_place : Int32) (o_next : Int32) (o_sort : Int32) (o_value : Int32) (o_code : Int64) (o_text : Nat → Int32) : Option (Int32 × Int32 × Int32 × Int32 × Int64) :=
  (iter (X8_advance_b0 F o_length o_place o_sort o_value o_code o_text) F o_next).bind (fun (e0 : Int32) =>
    X8_advance_j52 F o_length o_place e0 o_sort o_value o_code o_text)
abbrev wd_X8_advance (E : vE) (a_o a_o_text : Nat) (o_held : Int32) (o_length : Int32) (o_place : Int32) (o_next : Int32) (o_sort : Int32) (o_value : Int32) (o_code : Int64) (o_fault : Int32) (o_faultPlace : Int32) (o_text : Nat → Int32) : va_W := [(a_o, .inr (8, [.ref a_o_text, .int o_held, .int o_length, .int o_place, .int o_next, .int o_sort, .int o_value, .long o_code, .int o_fault, .int o_faultPlace])), (a_o_text, .inl (E.2.1, 900, .inl o_text))]
set_option maxHeartbeats 4000000 in
set_option maxRecDepth 100000 in
theorem ct_X8_advance (l : Launch) (E : vE) (F : Nat) (a_o a_o_text : Nat) (o_held : Int32) (o_length : Int32) (o_place : Int32) (o_next : Int32) (o_sort : Int32) (o_value : Int32) (o_code : Int64) (o_fault : Int32) (o_faultPlace : Int32) (o_text : Nat → Int32) (u : Int32 × Int32 × Int32 × Int32 × Int64) (hf : X8_advance F o_length o_place o_next o_sort o_value o_code o_text = some u) :
    CtV l yX8_advance cX8_advance 2 none 5 E [.ref a_o] (wd_X8_advance E a_o a_o_text o_held o_length o_place o_next o_sort o_value o_code o_fault o_faultPlace o_text) (wd_X8_advance E a_o a_o_text o_held o_length u.1 u.2.1 u.2.2.1 u.2.2.2.1 u.2.2.2.2 o_fault o_faultPlace o_text) := by
  refine ctV (by decide) (Nat.le_of_ble_eq_true rfl) ?_
  intro p e s m below meth cd A ls aa QQ hq cx hP hD hS hl
  obtain ⟨⟨hx, hb, hml, hown, hts⟩, hr, hlocks, hK, hA, hX⟩ := id cx
  have hl : lv_has ls 2 [(0, .ref a_o)] := hl
  have hj183 : ∀ (v1_j183 : Int32) (o_place_j183 : Int32) (o_next_j183 : Int32) (o_sort_j183 : Int32) (o_value_j183 : Int32) (o_code_j183 : Int64) (H : Heap) (locs : List Loc) (ls : Array Slot), X8_advance_j183 F o_length o_place_j183 o_next_j183 o_sort_j183 o_value_j183 o_code_j183 o_text v1_j183 = some u → va_P E.1 vwCl (wd_X8_advance E a_o a_o_text o_held o_length o_place_j183 o_next_j183 o_sort_j183 o_value_j183 o_code_j183 o_fault o_faultPlace o_text) H → va_D A (wd_X8_advance E a_o a_o_text o_held o_length o_place_j183 o_next_j183 o_sort_j183 o_value_j183 o_code_j183 o_fault o_faultPlace o_text) → va_S A s.heap H locs → lv_has ls 2 [(0, .ref a_o), (1, .int v1_j183)] → W p l e (rmd 5) s m aa below meth cd H locs 0 0 QQ (F0 m 183 ls []) := by
    intro v1_j183 o_place_j183 o_next_j183 o_sort_j183 o_value_j183 o_code_j183 H locs ls hf hP hD hS hl
    unfold X8_advance_j183 at hf
    refine lv_aload_n hx hb dX8_advance_183 rfl (lv_at hl 0 rfl) ?_
    refine lv_iconst (v := 3) hx hb dX8_advance_184 (by decide) ?_
    refine va_put (D := E.1) (ci := 8) (v := .int 3) (ty := .int) (C := RX8) (T := TX8) (N := 10) hx hb hts inX8 tyX8 tyX8_ok nmX8 hown hK hP hD hS 0 rfl rfl 5 (by decide) (hts _ fl_X8_47) (fun _ h9 => h9) rfl (by decide +kernel) rfl rfl (Nat.le_of_ble_eq_true rfl) dX8_advance_185 (fun H locs hP hD hS => ?_)
    have hP : va_P E.1 vwCl (wd_X8_advance E a_o a_o_text o_held o_length o_place_j183 o_next_j183 3 o_value_j183 o_code_j183 o_fault o_faultPlace o_text) H := hP
    have hD : va_D A (wd_X8_advance E a_o a_o_text o_held o_length o_place_j183 o_next_j183 3 o_value_j183 o_code_j183 o_fault o_faultPlace o_text) := hD
    refine lv_aload_n hx hb dX8_advance_188 rfl (lv_at hl 0 rfl) ?_
    refine lv_iload_n hx hb dX8_advance_189 rfl (lv_at hl 1 rfl) ?_
    refine va_put (D := E.1) (ci := 8) (v := .int v1_j183) (ty := .int) (C := RX8) (T := TX8) (N := 10) hx hb hts inX8 tyX8 tyX8_ok nmX8 hown hK hP hD hS 0 rfl rfl 6 (by decide) (hts _ fl_X8_57) (fun _ h9 => h9) rfl (by decide +kernel) rfl rfl (Nat.le_of_ble_eq_true rfl) dX8_advance_190 (fun H locs hP hD hS => ?_)
    have hP : va_P E.1 vwCl (wd_X8_advance E a_o a_o_text o_held o_length o_place_j183 o_next_j183 3 v1_j183 o_code_j183 o_fault o_faultPlace o_text) H := hP
    have hD : va_D A (wd_X8_advance E a_o a_o_text o_held o_length o_place_j183 o_next_j183 3 v1_j183 o_code_j183 o_fault o_faultPlace o_text) := hD
    refine lv_aload_n hx hb dX8_advance_193 rfl (lv_at hl 0 rfl) ?_
    refine lv_dup hx hb dX8_advance_194 rfl ?_
    refine va_get (D := E.1) (ci := 8) (v := .int o_next_j183) (C := RX8) (T := TX8) (N := 10) hx hb hts inX8 hown hK hP 0 rfl rfl 4 (by decide) (hts _ fl_X8_38) (fun _ h9 => h9) rfl dX8_advance_195 ?_
    refine lv_iconst (v := 1) hx hb dX8_advance_198 (by decide) ?_
    refine lv_iadd hx hb dX8_advance_199 ?_
    refine va_put (D := E.1) (ci := 8) (v := .int (o_next_j183 + 1)) (ty := .int) (C := RX8) (T := TX8) (N := 10) hx hb hts inX8 tyX8 tyX8_ok nmX8 hown hK hP hD hS 0 rfl rfl 4 (by decide) (hts _ fl_X8_38) (fun _ h9 => h9) rfl (by decide +kernel) rfl rfl (Nat.le_of_ble_eq_true rfl) dX8_advance_200 (fun H locs hP hD hS => ?_)
    have hP : va_P E.1 vwCl (wd_X8_advance E a_o a_o_text o_held o_length o_place_j183 (o_next_j183 + 1) 3 v1_j183 o_code_j183 o_fault o_faultPlace o_text) H := hP
    have hD : va_D A (wd_X8_advance E a_o a_o_text o_held o_length o_place_j183 (o_next_j183 + 1) 3 v1_j183 o_code_j183 o_fault o_faultPlace o_text) := hD
    refine lv_goto (tgt := 211) hx hb dX8_advance_203 (by decide) ?_
    obtain rfl := Option.some.inj hf
    subst hq
    exact retV cx hP hD hS dX8_advance_211
  have hj137 : ∀ (o_place_j137 : Int32) (o_next_j137 : Int32) (o_sort_j137 : Int32) (o_value_j137 : Int32) (o_code_j137 : Int64) (H : Heap) (locs : List Loc) (ls : Array Slot), X8_advance_j137 F o_length o_place_j137 o_next_j137 o_sort_j137 o_value_j137 o_code_j137 o_text = some u → va_P E.1 vwCl (wd_X8_advance E a_o a_o_text o_held o_length o_place_j137 o_next_j137 o_sort_j137 o_value_j137 o_code_j137 o_fault o_faultPlace o_text) H → va_D A (wd_X8_advance E a_o a_o_text o_held o_length o_place_j137 o_next_j137 o_sort_j137 o_value_j137 o_code_j137 o_fault o_faultPlace o_text) → va_S A s.heap H locs → lv_has ls 2 [(0, .ref a_o)] → W p l e (rmd 5) s m aa below meth cd H locs 0 0 QQ (F0 m 137 ls []) := by
    intro o_place_j137 o_next_j137 o_sort_j137 o_value_j137 o_code_j137 H locs ls hf hP hD hS hl
    unfold X8_advance_j137 at hf
    refine lv_aload_n hx hb dX8_advance_137 rfl (lv_at hl 0 rfl) ?_
    refine lv_lconst (v := 0) hx hb dX8_advance_138 (by decide) ?_
    refine va_put (D := E.1) (ci := 8) (v := .long 0) (ty := .long) (C := RX8) (T := TX8) (N := 10) hx hb hts inX8 tyX8 tyX8_ok nmX8 hown hK hP hD hS 0 rfl rfl 7 (by decide) (hts _ fl_X8_60) (fun _ h9 => h9) rfl (by decide +kernel) rfl rfl (Nat.le_of_ble_eq_true rfl) dX8_advance_139 (fun H locs hP hD hS => ?_)
    have hP : va_P E.1 vwCl (wd_X8_advance E a_o a_o_text o_held o_length o_place_j137 o_next_j137 o_sort_j137 o_value_j137 0 o_fault o_faultPlace o_text) H := hP
    have hD : va_D A (wd_X8_advance E a_o a_o_text o_held o_length o_place_j137 o_next_j137 o_sort_j137 o_value_j137 0 o_fault o_faultPlace o_text) := hD
    refine lv_goto (tgt := 211) hx hb dX8_advance_142 (by decide) ?_
    obtain rfl := Option.some.inj hf
    subst hq
    exact retV cx hP hD hS dX8_advance_211
  have hj52 : ∀ (o_place_j52 : Int32) (o_next_j52 : Int32) (o_sort_j52 : Int32) (o_value_j52 : Int32) (o_code_j52 : Int64) (H : Heap) (locs : List Loc) (ls : Array Slot), X8_advance_j52 F o_length o_place_j52 o_next_j52 o_sort_j52 o_value_j52 o_code_j52 o_text = some u → va_P E.1 vwCl (wd_X8_advance E a_o a_o_text o_held o_length o_place_j52 o_next_j52 o_sort_j52 o_value_j52 o_code_j52 o_fault o_faultPlace o_text) H → va_D A (wd_X8_advance E a_o a_o_text o_held o_length o_place_j52 o_next_j52 o_sort_j52 o_value_j52 o_code_j52 o_fault o_faultPlace o_text) → va_S A s.heap H locs → lv_has ls 2 [(0, .ref a_o)] → W p l e (rmd 5) s m aa below meth cd H locs 0 0 QQ (F0 m 52 ls []) := by
    intro o_place_j52 o_next_j52 o_sort_j52 o_value_j52 o_code_j52 H locs ls hf hP hD hS hl
    unfold X8_advance_j52 at hf
    refine lv_aload_n hx hb dX8_advance_52 rfl (lv_at hl 0 rfl) ?_
    refine lv_aload_n hx hb dX8_advance_53 rfl (lv_at hl 0 rfl) ?_
    refine va_get (D := E.1) (ci := 8) (v := .int o_next_j52) (C := RX8) (T := TX8) (N := 10) hx hb hts inX8 hown hK hP 0 rfl rfl 4 (by decide) (hts _ fl_X8_38) (fun _ h9 => h9) rfl dX8_advance_54 ?_
    refine va_put (D := E.1) (ci := 8) (v := .int o_next_j52) (ty := .int) (C := RX8) (T := TX8) (N := 10) hx hb hts inX8 tyX8 tyX8_ok nmX8 hown hK hP hD hS 0 rfl rfl 3 (by decide) (hts _ fl_X8_50) (fun _ h9 => h9) rfl (by decide +kernel) rfl rfl (Nat.le_of_ble_eq_true rfl) dX8_advance_57 (fun H locs hP hD hS => ?_)
    have hP : va_P E.1 vwCl (wd_X8_advance E a_o a_o_text o_held o_length o_next_j52 o_next_j52 o_sort_j52 o_value_j52 o_code_j52 o_fault o_faultPlace o_text) H := hP
    have hD : va_D A (wd_X8_advance E a_o a_o_text o_held o_length o_next_j52 o_next_j52 o_sort_j52 o_value_j52 o_code_j52 o_fault o_faultPlace o_text) := hD
    refine lv_aload_n hx hb dX8_advance_60 rfl (lv_at hl 0 rfl) ?_
    refine lv_iconst (v := 0) hx hb dX8_advance_61 (by decide) ?_
    refine va_put (D := E.1) (ci := 8) (v := .int 0) (ty := .int) (C := RX8) (T := TX8) (N := 10) hx hb hts inX8 tyX8 tyX8_ok nmX8 hown hK hP hD hS 0 rfl rfl 6 (by decide) (hts _ fl_X8_57) (fun _ h9 => h9) rfl (by decide +kernel) rfl rfl (Nat.le_of_ble_eq_true rfl) dX8_advance_62 (fun H locs hP hD hS => ?_)
    have hP : va_P E.1 vwCl (wd_X8_advance E a_o a_o_text o_held o_length o_next_j52 o_next_j52 o_sort_j52 0 o_code_j52 o_fault o_faultPlace o_text) H := hP
    have hD : va_D A (wd_X8_advance E a_o a_o_text o_held o_length o_next_j52 o_next_j52 o_sort_j52 0 o_code_j52 o_fault o_faultPlace o_text) := hD
    refine lv_aload_n hx hb dX8_advance_65 rfl (lv_at hl 0 rfl) ?_
    refine lv_lconst (v := 0) hx hb dX8_advance_66 (by decide) ?_
    refine va_put (D := E.1) (ci := 8) (v := .long 0) (ty := .long) (C := RX8) (T := TX8) (N := 10) hx hb hts inX8 tyX8 tyX8_ok nmX8 hown hK hP hD hS 0 rfl rfl 7 (by decide) (hts _ fl_X8_60) (fun _ h9 => h9) rfl (by decide +kernel) rfl rfl (Nat.le_of_ble_eq_true rfl) dX8_advance_67 (fun H locs hP hD hS => ?_)
    have hP : va_P E.1 vwCl (wd_X8_advance E a_o a_o_text o_held o_length o_next_j52 o_next_j52 o_sort_j52 0 0 o_fault o_faultPlace o_text) H := hP
    have hD : va_D A (wd_X8_advance E a_o a_o_text o_held o_length o_next_j52 o_next_j52 o_sort_j52 0 0 o_fault o_faultPlace o_text) := hD
    refine lv_aload_n hx hb dX8_advance_70 rfl (lv_at hl 0 rfl) ?_
    refine va_get (D := E.1) (ci := 8) (v := .int o_next_j52) (C := RX8) (T := TX8) (N := 10) hx hb hts inX8 hown hK hP 0 rfl rfl 4 (by decide) (hts _ fl_X8_38) (fun _ h9 => h9) rfl dX8_advance_71 ?_
    refine lv_aload_n hx hb dX8_advance_74 rfl (lv_at hl 0 rfl) ?_
    refine va_get (D := E.1) (ci := 8) (v := .int o_length) (C := RX8) (T := TX8) (N := 10) hx hb hts inX8 hown hK hP 0 rfl rfl 2 (by decide) (hts _ fl_X8_35) (fun _ h9 => h9) rfl dX8_advance_75 ?_
    refine lv_icmp_lt (tgt := 87) hx hb dX8_advance_78 (by decide) (fun hc => ?_) (fun hc => ?_)
    · have hf := it_t hc hf
      refine lv_aload_n hx hb dX8_advance_87 rfl (lv_at hl 0 rfl) ?_
      refine va_get (D := E.1) (ci := 8) (v := .ref a_o_text) (C := RX8) (T := TX8) (N := 10) hx hb hts inX8 hown hK hP 0 rfl rfl 0 (by decide) (hts _ fl_X8_11) (fun _ h9 => h9) rfl dX8_advance_88 ?_
      refine lv_aload_n hx hb dX8_advance_91 rfl (lv_at hl 0 rfl) ?_
      refine va_get (D := E.1) (ci := 8) (v := .int o_next_j52) (C := RX8) (T := TX8) (N := 10) hx hb hts inX8 hown hK hP 0 rfl rfl 4 (by decide) (hts _ fl_X8_38) (fun _ h9 => h9) rfl dX8_advance_92 ?_
      obtain ⟨hi, hf⟩ := ck hf
      refine r_iald 1 cx hP rfl hi dX8_advance_95 ?_
      refine lv_istore_n (lv' := [(1, .int (jat o_text o_next_j52)), (0, .ref a_o)]) hx hb dX8_advance_96 rfl hl (by decide) rfl (fun ls hl => ?_)
      refine lv_iload_n hx hb dX8_advance_97 rfl (lv_at hl 0 rfl) ?_
      obtain ⟨u98, hu98, hf⟩ := bd hf
      refine keepSI (ct_X8_isLetter l E (jat o_text o_next_j52) u98 hu98) [] cal_X8_isLetter sta_X8_isLetter lk_X8_64 cx hP hD hS hl dX8_advance_98 rfl rfl (Nat.le_of_ble_eq_true rfl) ⟨Nat.le_of_ble_eq_true rfl, Nat.le_of_ble_eq_true rfl⟩ rfl (by decide) (fun H locs hP hS => ?_)
      refine lv_if_eq (tgt := 145) hx hb dX8_advance_101 (by decide) (fun hc => ?_) (fun hc => ?_)
      · have hf := it_t hc hf
        refine lv_iload_n hx hb dX8_advance_145 rfl (lv_at hl 0 rfl) ?_
        obtain ⟨u146, hu146, hf⟩ := bd hf
        refine keepSI (ct_X8_isDigit l E (jat o_text o_next_j52) u146 hu146) [] cal_X8_isDigit sta_X8_isDigit lk_X8_74 cx hP hD hS hl dX8_advance_146 rfl rfl (Nat.le_of_ble_eq_true rfl) ⟨Nat.le_of_ble_eq_true rfl, Nat.le_of_ble_eq_true rfl⟩ rfl (by decide) (fun H locs hP hS => ?_)
        refine lv_if_eq (tgt := 159) hx hb dX8_advance_149 (by decide) (fun hc => ?_) (fun hc => ?_)
        · have hf := it_t hc hf
          refine lv_iload_n hx hb dX8_advance_159 rfl (lv_at hl 0 rfl) ?_
          refine lv_bipush (v := 59) hx hb dX8_advance_160 (by decide) ?_
          refine lv_icmp_eq (tgt := 183) hx hb dX8_advance_162 (by decide) (fun hc => ?_) (fun hc => ?_)
          · have hf := it_t hc hf
            exact hj183 _ _ _ _ _ _ _ _ _ hf hP hD hS (lv_sub hl [1, 0] rfl)
          · have hf := it_f hc hf
            refine lv_iload_n hx hb dX8_advance_165 rfl (lv_at hl 0 rfl) ?_
            refine lv_bipush (v := 60) hx hb dX8_advance_166 (by decide) ?_
            refine lv_icmp_eq (tgt := 183) hx hb dX8_advance_168 (by decide) (fun hc => ?_) (fun hc => ?_)
            · have hf := it_t hc hf
              exact hj183 _ _ _ _ _ _ _ _ _ hf hP hD hS (lv_sub hl [1, 0] rfl)
            · have hf := it_f hc hf
              refine lv_iload_n hx hb dX8_advance_171 rfl (lv_at hl 0 rfl) ?_
              refine lv_bipush (v := 62) hx hb dX8_advance_172 (by decide) ?_
              refine lv_icmp_eq (tgt := 183) hx hb dX8_advance_174 (by decide) (fun hc => ?_) (fun hc => ?_)
              · have hf := it_t hc hf
                exact hj183 _ _ _ _ _ _ _ _ _ hf hP hD hS (lv_sub hl [1, 0] rfl)
              · have hf := it_f hc hf
                refine lv_iload_n hx hb dX8_advance_177 rfl (lv_at hl 0 rfl) ?_
                refine lv_bipush (v := 61) hx hb dX8_advance_178 (by decide) ?_
                refine lv_icmp_ne (tgt := 206) hx hb dX8_advance_180 (by decide) (fun hc => ?_) (fun hc => ?_)
                · have hf := it_f hc hf
                  refine lv_aload_n hx hb dX8_advance_206 rfl (lv_at hl 1 rfl) ?_
                  refine lv_iconst (v := 4) hx hb dX8_advance_207 (by decide) ?_
                  refine va_put (D := E.1) (ci := 8) (v := .int 4) (ty := .int) (C := RX8) (T := TX8) (N := 10) hx hb hts inX8 tyX8 tyX8_ok nmX8 hown hK hP hD hS 0 rfl rfl 5 (by decide) (hts _ fl_X8_47) (fun _ h9 => h9) rfl (by decide +kernel) rfl rfl (Nat.le_of_ble_eq_true rfl) dX8_advance_208 (fun H locs hP hD hS => ?_)
                  have hP : va_P E.1 vwCl (wd_X8_advance E a_o a_o_text o_held o_length o_next_j52 o_next_j52 4 0 0 o_fault o_faultPlace o_text) H := hP
                  have hD : va_D A (wd_X8_advance E a_o a_o_text o_held o_length o_next_j52 o_next_j52 4 0 0 o_fault o_faultPlace o_text) := hD
                  obtain rfl := Option.some.inj hf
                  subst hq
                  exact retV cx hP hD hS dX8_advance_211
                · have hf := it_t hc hf
                  exact hj183 _ _ _ _ _ _ _ _ _ hf hP hD hS (lv_sub hl [1, 0] rfl)
        · have hf := it_f hc hf
          refine lv_aload_n hx hb dX8_advance_152 rfl (lv_at hl 1 rfl) ?_
          obtain ⟨u153, hu153, hf⟩ := bd hf
          refine callVV (wn := (wd_X8_advance E a_o a_o_text o_held o_length o_next_j52 u153.1 u153.2.1 u153.2.2 0 o_fault o_faultPlace o_text)) (n1 := 2) (ct_X8_takeDigits l E F a_o a_o_text o_held o_length o_next_j52 o_next_j52 o_sort_j52 0 0 o_fault o_faultPlace o_text u153 hu153) [0, 1] cal_X8_takeDigits cav_X8_takeDigits lk_X8_77 cx hP hD hS hl dX8_advance_153 rfl rfl rfl rfl (Nat.le_of_ble_eq_true rfl) ⟨Nat.le_of_ble_eq_true rfl, Nat.le_of_ble_eq_true rfl⟩ rfl (by decide +kernel) rfl [some 0, some 1] rfl (by decide +kernel) rfl (fun H locs hP hD hS => ?_)
          refine lv_goto (tgt := 211) hx hb dX8_advance_156 (by decide) ?_
          obtain rfl := Option.some.inj hf
          subst hq
          exact retV cx hP hD hS dX8_advance_211
      · have hf := it_f hc hf
        refine lv_aload_n hx hb dX8_advance_104 rfl (lv_at hl 1 rfl) ?_
        obtain ⟨u105, hu105, hf⟩ := bd hf
        refine callVV (wn := (wd_X8_advance E a_o a_o_text o_held o_length o_next_j52 u105.1 u105.2.1 0 u105.2.2 o_fault o_faultPlace o_text)) (n1 := 2) (ct_X8_takeLetters l E F a_o a_o_text o_held o_length o_next_j52 o_next_j52 o_sort_j52 0 0 o_fault o_faultPlace o_text u105 hu105) [0, 1] cal_X8_takeLetters cav_X8_takeLetters lk_X8_67 cx hP hD hS hl dX8_advance_105 rfl rfl rfl rfl (Nat.le_of_ble_eq_true rfl) ⟨Nat.le_of_ble_eq_true rfl, Nat.le_of_ble_eq_true rfl⟩ rfl (by decide +kernel) rfl [some 0, some 1] rfl (by decide +kernel) rfl (fun H locs hP hD hS => ?_)
        refine lv_aload_n hx hb dX8_advance_108 rfl (lv_at hl 1 rfl) ?_
        refine lv_aload_n hx hb dX8_advance_109 rfl (lv_at hl 1 rfl) ?_
        obtain ⟨u110, hu110, hf⟩ := bd hf
        refine keepVI (ct_X8_wordNumber l E F a_o a_o_text o_held o_length o_next_j52 u105.1 u105.2.1 0 u105.2.2 o_fault o_faultPlace o_text u110 hu110) [0, 1] cal_X8_wordNumber cav_X8_wordNumber lk_X8_70 cx hP hD hS hl dX8_advance_110 rfl rfl rfl rfl (Nat.le_of_ble_eq_true rfl) ⟨Nat.le_of_ble_eq_true rfl, Nat.le_of_ble_eq_true rfl⟩ rfl (by decide) (fun H locs hP hS => ?_)
        refine va_put (D := E.1) (ci := 8) (v := .int u110) (ty := .int) (C := RX8) (T := TX8) (N := 10) hx hb hts inX8 tyX8 tyX8_ok nmX8 hown hK hP hD hS 0 rfl rfl 6 (by decide) (hts _ fl_X8_57) (fun _ h9 => h9) rfl (by decide +kernel) rfl rfl (Nat.le_of_ble_eq_true rfl) dX8_advance_113 (fun H locs hP hD hS => ?_)
        have hP : va_P E.1 vwCl (wd_X8_advance E a_o a_o_text o_held o_length o_next_j52 u105.1 u105.2.1 u110 u105.2.2 o_fault o_faultPlace o_text) H := hP
        have hD : va_D A (wd_X8_advance E a_o a_o_text o_held o_length o_next_j52 u105.1 u105.2.1 u110 u105.2.2 o_fault o_faultPlace o_text) := hD
        refine lv_aload_n hx hb dX8_advance_116 rfl (lv_at hl 1 rfl) ?_
        refine va_get (D := E.1) (ci := 8) (v := .int u110) (C := RX8) (T := TX8) (N := 10) hx hb hts inX8 hown hK hP 0 rfl rfl 6 (by decide) (hts _ fl_X8_57) (fun _ h9 => h9) rfl dX8_advance_117 ?_
        refine lv_if_gt (tgt := 137) hx hb dX8_advance_120 (by decide) (fun hc => ?_) (fun hc => ?_)
        · have hf := it_t hc hf
          exact hj137 _ _ _ _ _ _ _ _ hf hP hD hS (lv_sub hl [1] rfl)
        · have hf := it_f hc hf
          refine lv_aload_n hx hb dX8_advance_123 rfl (lv_at hl 1 rfl) ?_
          refine va_get (D := E.1) (ci := 8) (v := .int u105.1) (C := RX8) (T := TX8) (N := 10) hx hb hts inX8 hown hK hP 0 rfl rfl 4 (by decide) (hts _ fl_X8_38) (fun _ h9 => h9) rfl dX8_advance_124 ?_
          refine lv_aload_n hx hb dX8_advance_127 rfl (lv_at hl 1 rfl) ?_
          refine va_get (D := E.1) (ci := 8) (v := .int o_next_j52) (C := RX8) (T := TX8) (N := 10) hx hb hts inX8 hown hK hP 0 rfl rfl 3 (by decide) (hts _ fl_X8_50) (fun _ h9 => h9) rfl dX8_advance_128 ?_
          refine lv_isub hx hb dX8_advance_131 ?_
          refine lv_bipush (v := 8) hx hb dX8_advance_132 (by decide) ?_
          refine lv_icmp_le (tgt := 211) hx hb dX8_advance_134 (by decide) (fun hc => ?_) (fun hc => ?_)
          · have hf := it_t hc hf
            obtain rfl := Option.some.inj hf
            subst hq
            exact retV cx hP hD hS dX8_advance_211
          · have hf := it_f hc hf
            exact hj137 _ _ _ _ _ _ _ _ hf hP hD hS (lv_sub hl [1] rfl)
    · have hf := it_f hc hf
      refine lv_aload_n hx hb dX8_advance_81 rfl (lv_at hl 0 rfl) ?_
      refine lv_iconst (v := 0) hx hb dX8_advance_82 (by decide) ?_
      refine va_put (D := E.1) (ci := 8) (v := .int 0) (ty := .int) (C := RX8) (T := TX8) (N := 10) hx hb hts inX8 tyX8 tyX8_ok nmX8 hown hK hP hD hS 0 rfl rfl 5 (by decide) (hts _ fl_X8_47) (fun _ h9 => h9) rfl (by decide +kernel) rfl rfl (Nat.le_of_ble_eq_true rfl) dX8_advance_83 (fun H locs hP hD hS => ?_)
      have hP : va_P E.1 vwCl (wd_X8_advance E a_o a_o_text o_held o_length o_next_j52 o_next_j52 0 0 0 o_fault o_faultPlace o_text) H := hP
      have hD : va_D A (wd_X8_advance E a_o a_o_text o_held o_length o_next_j52 o_next_j52 0 0 0 o_fault o_faultPlace o_text) := hD
      obtain rfl := Option.some.inj hf
      subst hq
      exact retV cx hP hD hS dX8_advance_86
  unfold X8_advance at hf
  obtain ⟨e0, hit0, hf⟩ := bd hf
  refine iter_W (b := X8_advance_b0 F o_length o_place o_sort o_value o_code o_text) (P := fun st0 => ∀ (H : Heap) (locs : List Loc) (ls : Array Slot), va_P E.1 vwCl (wd_X8_advance E a_o a_o_text o_held o_length o_place st0 o_sort o_value o_code o_fault o_faultPlace o_text) H → va_D A (wd_X8_advance E a_o a_o_text o_held o_length o_place st0 o_sort o_value o_code o_fault o_faultPlace o_text) → va_S A s.heap H locs → lv_has ls 2 [(0, .ref a_o)] → W p l e (rmd 5) s m aa below meth cd H locs 0 0 QQ (F0 m 0 ls [])) (G := (fun (e0 : Int32) => ∀ (H : Heap) (locs : List Loc) (ls : Array Slot), va_P E.1 vwCl (wd_X8_advance E a_o a_o_text o_held o_length o_place e0 o_sort o_value o_code o_fault o_faultPlace o_text) H → va_D A (wd_X8_advance E a_o a_o_text o_held o_length o_place e0 o_sort o_value o_code o_fault o_faultPlace o_text) → va_S A s.heap H locs → lv_has ls 2 [(0, .ref a_o)] → W p l e (rmd 5) s m aa below meth cd H locs 0 0 QQ (F0 m 52 ls []))) ?_ F o_next e0 hit0 ?_ _ _ _ hP hD hS (lv_sub hl [0] rfl)
  · intro st0 r0 hf hk0 he0 H locs ls hP hD hS hl
    have hj39 : ∀ (o_next_j39 : Int32) (H : Heap) (locs : List Loc) (ls : Array Slot), X8_advance_j39 F o_length o_place o_next_j39 o_sort o_value o_code o_text = some r0 → va_P E.1 vwCl (wd_X8_advance E a_o a_o_text o_held o_length o_place o_next_j39 o_sort o_value o_code o_fault o_faultPlace o_text) H → va_D A (wd_X8_advance E a_o a_o_text o_held o_length o_place o_next_j39 o_sort o_value o_code o_fault o_faultPlace o_text) → va_S A s.heap H locs → lv_has ls 2 [(0, .ref a_o)] → W p l e (rmd 5) s m aa below meth cd H locs 0 0 QQ (F0 m 39 ls []) := by
      intro o_next_j39 H locs ls hf hP hD hS hl
      unfold X8_advance_j39 at hf
      refine lv_aload_n hx hb dX8_advance_39 rfl (lv_at hl 0 rfl) ?_
      refine lv_dup hx hb dX8_advance_40 rfl ?_
      refine va_get (D := E.1) (ci := 8) (v := .int o_next_j39) (C := RX8) (T := TX8) (N := 10) hx hb hts inX8 hown hK hP 0 rfl rfl 4 (by decide) (hts _ fl_X8_38) (fun _ h9 => h9) rfl dX8_advance_41 ?_
      refine lv_iconst (v := 1) hx hb dX8_advance_44 (by decide) ?_
      refine lv_iadd hx hb dX8_advance_45 ?_
      refine va_put (D := E.1) (ci := 8) (v := .int (o_next_j39 + 1)) (ty := .int) (C := RX8) (T := TX8) (N := 10) hx hb hts inX8 tyX8 tyX8_ok nmX8 hown hK hP hD hS 0 rfl rfl 4 (by decide) (hts _ fl_X8_38) (fun _ h9 => h9) rfl (by decide +kernel) rfl rfl (Nat.le_of_ble_eq_true rfl) dX8_advance_46 (fun H locs hP hD hS => ?_)
      have hP : va_P E.1 vwCl (wd_X8_advance E a_o a_o_text o_held o_length o_place (o_next_j39 + 1) o_sort o_value o_code o_fault o_faultPlace o_text) H := hP
      have hD : va_D A (wd_X8_advance E a_o a_o_text o_held o_length o_place (o_next_j39 + 1) o_sort o_value o_code o_fault o_faultPlace o_text) := hD
      refine lv_goto (tgt := 0) hx hb dX8_advance_49 (by decide) ?_
      exact hk0 _ (Option.some.inj hf).symm _ _ _ hP hD hS (lv_sub hl [0] rfl)
    unfold X8_advance_b0 at hf
    refine lv_aload_n hx hb dX8_advance_0 rfl (lv_at hl 0 rfl) ?_
    refine va_get (D := E.1) (ci := 8) (v := .int st0) (C := RX8) (T := TX8) (N := 10) hx hb hts inX8 hown hK hP 0 rfl rfl 4 (by decide) (hts _ fl_X8_38) (fun _ h9 => h9) rfl dX8_advance_1 ?_
    refine lv_aload_n hx hb dX8_advance_4 rfl (lv_at hl 0 rfl) ?_
    refine va_get (D := E.1) (ci := 8) (v := .int o_length) (C := RX8) (T := TX8) (N := 10) hx hb hts inX8 hown hK hP 0 rfl rfl 2 (by decide) (hts _ fl_X8_35) (fun _ h9 => h9) rfl dX8_advance_5 ?_
    refine lv_icmp_ge (tgt := 52) hx hb dX8_advance_8 (by decide) (fun hc => ?_) (fun hc => ?_)
    · have hf := it_t hc hf
      exact he0 _ (Option.some.inj hf).symm _ _ _ hP hD hS (lv_sub hl [0] rfl)
    · have hf := it_f hc hf
      refine lv_aload_n hx hb dX8_advance_11 rfl (lv_at hl 0 rfl) ?_
      refine va_get (D := E.1) (ci := 8) (v := .ref a_o_text) (C := RX8) (T := TX8) (N := 10) hx hb hts inX8 hown hK hP 0 rfl rfl 0 (by decide) (hts _ fl_X8_11) (fun _ h9 => h9) rfl dX8_advance_12 ?_
      refine lv_aload_n hx hb dX8_advance_15 rfl (lv_at hl 0 rfl) ?_
      refine va_get (D := E.1) (ci := 8) (v := .int st0) (C := RX8) (T := TX8) (N := 10) hx hb hts inX8 hown hK hP 0 rfl rfl 4 (by decide) (hts _ fl_X8_38) (fun _ h9 => h9) rfl dX8_advance_16 ?_
      obtain ⟨hi, hf⟩ := ck hf
      refine r_iald 1 cx hP rfl hi dX8_advance_19 ?_
      refine lv_bipush (v := 10) hx hb dX8_advance_20 (by decide) ?_
      refine lv_icmp_eq (tgt := 39) hx hb dX8_advance_22 (by decide) (fun hc => ?_) (fun hc => ?_)
      · have hf := it_t hc hf
        exact hj39 _ _ _ _ hf hP hD hS (lv_sub hl [0] rfl)
      · have hf := it_f hc hf
        refine lv_aload_n hx hb dX8_advance_25 rfl (lv_at hl 0 rfl) ?_
        refine va_get (D := E.1) (ci := 8) (v := .ref a_o_text) (C := RX8) (T := TX8) (N := 10) hx hb hts inX8 hown hK hP 0 rfl rfl 0 (by decide) (hts _ fl_X8_11) (fun _ h9 => h9) rfl dX8_advance_26 ?_
        refine lv_aload_n hx hb dX8_advance_29 rfl (lv_at hl 0 rfl) ?_
        refine va_get (D := E.1) (ci := 8) (v := .int st0) (C := RX8) (T := TX8) (N := 10) hx hb hts inX8 hown hK hP 0 rfl rfl 4 (by decide) (hts _ fl_X8_38) (fun _ h9 => h9) rfl dX8_advance_30 ?_
        obtain ⟨hi, hf⟩ := ck hf
        refine r_iald 1 cx hP rfl hi dX8_advance_33 ?_
        refine lv_bipush (v := 32) hx hb dX8_advance_34 (by decide) ?_
        refine lv_icmp_ne (tgt := 52) hx hb dX8_advance_36 (by decide) (fun hc => ?_) (fun hc => ?_)
        · have hf := it_f hc hf
          exact he0 _ (Option.some.inj hf).symm _ _ _ hP hD hS (lv_sub hl [0] rfl)
        · have hf := it_t hc hf
          exact hj39 _ _ _ _ hf hP hD hS (lv_sub hl [0] rfl)
  · refine fun H locs ls hP hD hS hl => ?_
    exact hj52 _ _ _ _ _ _ _ _ hf hP hD hS (lv_sub hl [0] rfl)
def X8_begin (F : Nat) (o_held : Int32) (o_length : Int32) (o_place : Int32) (o_next : Int32) (o_sort : Int32) (o_value : Int32) (o_code : Int64) (o_fault : Int32) (o_faultPlace : Int32) (o_text : Nat → Int32) (v1 : Int32) : Option (Int32 × Int32 × Int32 × Int32 × Int32 × Int32 × Int64 × Int32 × Int32) :=
  (X8_advance F (jmax (0 : Int32) (jmin v1 o_held)) o_place 0 o_sort o_value o_code o_text).bind fun u37 =>
  some (0, (jmax (0 : Int32) (jmin v1 o_held)), u37.1, u37.2.1, u37.2.2.1, u37.2.2.2.1, u37.2.2.2.2, 0, (-1))
abbrev wd_X8_begin (E : vE) (a_o a_o_text : Nat) (o_held : Int32) (o_length : Int32) (o_place : Int32) (o_next : Int32) (o_sort : Int32) (o_value : Int32) (o_code : Int64) (o_fault : Int32) (o_faultPlace : Int32) (o_text : Nat → Int32) : va_W := [(a_o, .inr (8, [.ref a_o_text, .int o_held, .int o_length, .int o_place, .int o_next, .int o_sort, .int o_value, .long o_code, .int o_fault, .int o_faultPlace])), (a_o_text, .inl (E.2.1, 900, .inl o_text))]
set_option maxHeartbeats 4000000 in
set_option maxRecDepth 100000 in
theorem ct_X8_begin (l : Launch) (E : vE) (F : Nat) (a_o a_o_text : Nat) (o_held : Int32) (o_length : Int32) (o_place : Int32) (o_next : Int32) (o_sort : Int32) (o_value : Int32) (o_code : Int64) (o_fault : Int32) (o_faultPlace : Int32) (o_text : Nat → Int32) (v1 : Int32) (u : Int32 × Int32 × Int32 × Int32 × Int32 × Int32 × Int64 × Int32 × Int32) (hf : X8_begin F o_held o_length o_place o_next o_sort o_value o_code o_fault o_faultPlace o_text v1 = some u) :
    CtV l yX8_begin cX8_begin 2 none 6 E [.ref a_o, .int v1] (wd_X8_begin E a_o a_o_text o_held o_length o_place o_next o_sort o_value o_code o_fault o_faultPlace o_text) (wd_X8_begin E a_o a_o_text u.1 u.2.1 u.2.2.1 u.2.2.2.1 u.2.2.2.2.1 u.2.2.2.2.2.1 u.2.2.2.2.2.2.1 u.2.2.2.2.2.2.2.1 u.2.2.2.2.2.2.2.2 o_text) := by
  refine ctV (by decide) (Nat.le_of_ble_eq_true rfl) ?_
  intro p e s m below meth cd A ls aa QQ hq cx hP hD hS hl
  obtain ⟨⟨hx, hb, hml, hown, hts⟩, hr, hlocks, hK, hA, hX⟩ := id cx
  have hl : lv_has ls 2 [(0, .ref a_o), (1, .int v1)] := hl
  unfold X8_begin at hf
  refine lv_aload_n hx hb dX8_begin_0 rfl (lv_at hl 0 rfl) ?_
  refine lv_iconst (v := 0) hx hb dX8_begin_1 (by decide) ?_
  refine lv_iload_n hx hb dX8_begin_2 rfl (lv_at hl 1 rfl) ?_
  refine lv_aload_n hx hb dX8_begin_3 rfl (lv_at hl 0 rfl) ?_
  refine va_get (D := E.1) (ci := 8) (v := .int o_held) (C := RX8) (T := TX8) (N := 10) hx hb hts inX8 hown hK hP 0 rfl rfl 1 (by decide) (hts _ fl_X8_19) (fun _ h9 => h9) rfl dX8_begin_4 ?_
  refine r_mmin cx hl lk_X8_26 mt_min (Nat.le_of_ble_eq_true rfl) (Nat.le_of_ble_eq_true rfl) dX8_begin_7 ?_
  refine r_mmax cx hl lk_X8_32 mt_max (Nat.le_of_ble_eq_true rfl) (Nat.le_of_ble_eq_true rfl) dX8_begin_10 ?_
  refine va_put (D := E.1) (ci := 8) (v := .int (jmax (0 : Int32) (jmin v1 o_held))) (ty := .int) (C := RX8) (T := TX8) (N := 10) hx hb hts inX8 tyX8 tyX8_ok nmX8 hown hK hP hD hS 0 rfl rfl 2 (by decide) (hts _ fl_X8_35) (fun _ h9 => h9) rfl (by decide +kernel) rfl rfl (Nat.le_of_ble_eq_true rfl) dX8_begin_13 (fun H locs hP hD hS => ?_)
  have hP : va_P E.1 vwCl (wd_X8_begin E a_o a_o_text o_held (jmax (0 : Int32) (jmin v1 o_held)) o_place o_next o_sort o_value o_code o_fault o_faultPlace o_text) H := hP
  have hD : va_D A (wd_X8_begin E a_o a_o_text o_held (jmax (0 : Int32) (jmin v1 o_held)) o_place o_next o_sort o_value o_code o_fault o_faultPlace o_text) := hD
  refine lv_aload_n hx hb dX8_begin_16 rfl (lv_at hl 0 rfl) ?_
  refine lv_iconst (v := 0) hx hb dX8_begin_17 (by decide) ?_
  refine va_put (D := E.1) (ci := 8) (v := .int 0) (ty := .int) (C := RX8) (T := TX8) (N := 10) hx hb hts inX8 tyX8 tyX8_ok nmX8 hown hK hP hD hS 0 rfl rfl 1 (by decide) (hts _ fl_X8_19) (fun _ h9 => h9) rfl (by decide +kernel) rfl rfl (Nat.le_of_ble_eq_true rfl) dX8_begin_18 (fun H locs hP hD hS => ?_)
  have hP : va_P E.1 vwCl (wd_X8_begin E a_o a_o_text 0 (jmax (0 : Int32) (jmin v1 o_held)) o_place o_next o_sort o_value o_code o_fault o_faultPlace o_text) H := hP
  have hD : va_D A (wd_X8_begin E a_o a_o_text 0 (jmax (0 : Int32) (jmin v1 o_held)) o_place o_next o_sort o_value o_code o_fault o_faultPlace o_text) := hD
  refine lv_aload_n hx hb dX8_begin_21 rfl (lv_at hl 0 rfl) ?_
  refine lv_iconst (v := 0) hx hb dX8_begin_22 (by decide) ?_
  refine va_put (D := E.1) (ci := 8) (v := .int 0) (ty := .int) (C := RX8) (T := TX8) (N := 10) hx hb hts inX8 tyX8 tyX8_ok nmX8 hown hK hP hD hS 0 rfl rfl 4 (by decide) (hts _ fl_X8_38) (fun _ h9 => h9) rfl (by decide +kernel) rfl rfl (Nat.le_of_ble_eq_true rfl) dX8_begin_23 (fun H locs hP hD hS => ?_)
  have hP : va_P E.1 vwCl (wd_X8_begin E a_o a_o_text 0 (jmax (0 : Int32) (jmin v1 o_held)) o_place 0 o_sort o_value o_code o_fault o_faultPlace o_text) H := hP
  have hD : va_D A (wd_X8_begin E a_o a_o_text 0 (jmax (0 : Int32) (jmin v1 o_held)) o_place 0 o_sort o_value o_code o_fault o_faultPlace o_text) := hD
  refine lv_aload_n hx hb dX8_begin_26 rfl (lv_at hl 0 rfl) ?_
  refine lv_iconst (v := 0) hx hb dX8_begin_27 (by decide) ?_
  refine va_put (D := E.1) (ci := 8) (v := .int 0) (ty := .int) (C := RX8) (T := TX8) (N := 10) hx hb hts inX8 tyX8 tyX8_ok nmX8 hown hK hP hD hS 0 rfl rfl 8 (by decide) (hts _ fl_X8_41) (fun _ h9 => h9) rfl (by decide +kernel) rfl rfl (Nat.le_of_ble_eq_true rfl) dX8_begin_28 (fun H locs hP hD hS => ?_)
  have hP : va_P E.1 vwCl (wd_X8_begin E a_o a_o_text 0 (jmax (0 : Int32) (jmin v1 o_held)) o_place 0 o_sort o_value o_code 0 o_faultPlace o_text) H := hP
  have hD : va_D A (wd_X8_begin E a_o a_o_text 0 (jmax (0 : Int32) (jmin v1 o_held)) o_place 0 o_sort o_value o_code 0 o_faultPlace o_text) := hD
  refine lv_aload_n hx hb dX8_begin_31 rfl (lv_at hl 0 rfl) ?_
  refine lv_iconst (v := (-1)) hx hb dX8_begin_32 (by decide) ?_
  refine va_put (D := E.1) (ci := 8) (v := .int (-1)) (ty := .int) (C := RX8) (T := TX8) (N := 10) hx hb hts inX8 tyX8 tyX8_ok nmX8 hown hK hP hD hS 0 rfl rfl 9 (by decide) (hts _ fl_X8_15) (fun _ h9 => h9) rfl (by decide +kernel) rfl rfl (Nat.le_of_ble_eq_true rfl) dX8_begin_33 (fun H locs hP hD hS => ?_)
  have hP : va_P E.1 vwCl (wd_X8_begin E a_o a_o_text 0 (jmax (0 : Int32) (jmin v1 o_held)) o_place 0 o_sort o_value o_code 0 (-1) o_text) H := hP
  have hD : va_D A (wd_X8_begin E a_o a_o_text 0 (jmax (0 : Int32) (jmin v1 o_held)) o_place 0 o_sort o_value o_code 0 (-1) o_text) := hD
  refine lv_aload_n hx hb dX8_begin_36 rfl (lv_at hl 0 rfl) ?_
  obtain ⟨u37, hu37, hf⟩ := bd hf
  refine callVV (wn := (wd_X8_begin E a_o a_o_text 0 (jmax (0 : Int32) (jmin v1 o_held)) u37.1 u37.2.1 u37.2.2.1 u37.2.2.2.1 u37.2.2.2.2 0 (-1) o_text)) (n1 := 2) (ct_X8_advance l E F a_o a_o_text 0 (jmax (0 : Int32) (jmin v1 o_held)) o_place 0 o_sort o_value o_code 0 (-1) o_text u37 hu37) [0, 1] cal_X8_advance cav_X8_advance lk_X8_44 cx hP hD hS hl dX8_begin_37 rfl rfl rfl rfl (Nat.le_of_ble_eq_true rfl) ⟨Nat.le_of_ble_eq_true rfl, Nat.le_of_ble_eq_true rfl⟩ rfl (by decide +kernel) rfl [some 0, some 1] rfl (by decide +kernel) rfl (fun H locs hP hD hS => ?_)
  obtain rfl := Option.some.inj hf
  subst hq
  exact retV cx hP hD hS dX8_begin_40
def X8_isOpen_j18 (o_sort : Int32) (o_fault : Int32) : Option (Int32) :=
  some 0
def X8_isOpen (o_sort : Int32) (o_fault : Int32) : Option (Int32) :=
  if o_fault = 0 then
  if o_sort = 0 then
  X8_isOpen_j18 o_sort o_fault
  else
  some 1
  else
  X8_isOpen_j18 o_sort o_fault
abbrev wd_X8_isOpen (E : vE) (a_o a_o_text : Nat) (o_held : Int32) (o_length : Int32) (o_place : Int32) (o_next : Int32) (o_sort : Int32) (o_value : Int32) (o_code : Int64) (o_fault : Int32) (o_faultPlace : Int32) : va_W := [(a_o, .inr (8, [.ref a_o_text, .int o_held, .int o_length, .int o_place, .int o_next, .int o_sort, .int o_value, .long o_code, .int o_fault, .int o_faultPlace]))]
set_option maxHeartbeats 4000000 in
set_option maxRecDepth 100000 in
theorem ct_X8_isOpen (l : Launch) (E : vE) (a_o a_o_text : Nat) (o_held : Int32) (o_length : Int32) (o_place : Int32) (o_next : Int32) (o_sort : Int32) (o_value : Int32) (o_code : Int64) (o_fault : Int32) (o_faultPlace : Int32) (u : Int32) (hf : X8_isOpen o_sort o_fault = some u) :
    CtI l yX8_isOpen cX8_isOpen 1 (some .boolean) 0 E [.ref a_o] (wd_X8_isOpen E a_o a_o_text o_held o_length o_place o_next o_sort o_value o_code o_fault o_faultPlace) (wd_X8_isOpen E a_o a_o_text o_held o_length o_place o_next o_sort o_value o_code o_fault o_faultPlace) u := by
  refine ctI (by decide) (Nat.le_of_ble_eq_true rfl) ?_
  intro p e s m below meth cd A ls aa QQ hq cx hP hD hS hl
  obtain ⟨⟨hx, hb, hml, hown, hts⟩, hr, hlocks, hK, hA, hX⟩ := id cx
  have hl : lv_has ls 1 [(0, .ref a_o)] := hl
  have hj18 : ∀ (H : Heap) (locs : List Loc) (ls : Array Slot), X8_isOpen_j18 o_sort o_fault = some u → va_P E.1 vwCl (wd_X8_isOpen E a_o a_o_text o_held o_length o_place o_next o_sort o_value o_code o_fault o_faultPlace) H → va_D A (wd_X8_isOpen E a_o a_o_text o_held o_length o_place o_next o_sort o_value o_code o_fault o_faultPlace) → va_S A s.heap H locs → lv_has ls 1 [] → W p l e (rmd 0) s m aa below meth cd H locs 0 0 QQ (F0 m 18 ls []) := by
    intro H locs ls hf hP hD hS hl
    unfold X8_isOpen_j18 at hf
    refine lv_iconst (v := 0) hx hb dX8_isOpen_18 (by decide) ?_
    obtain rfl := Option.some.inj hf
    subst hq
    exact retZ cx rfl hP hD hS dX8_isOpen_19
  unfold X8_isOpen at hf
  refine lv_aload_n hx hb dX8_isOpen_0 rfl (lv_at hl 0 rfl) ?_
  refine va_get (D := E.1) (ci := 8) (v := .int o_fault) (C := RX8) (T := TX8) (N := 10) hx hb hts inX8 hown hK hP 0 rfl rfl 8 (by decide) (hts _ fl_X8_41) (fun _ h9 => h9) rfl dX8_isOpen_1 ?_
  refine lv_if_ne (tgt := 18) hx hb dX8_isOpen_4 (by decide) (fun hc => ?_) (fun hc => ?_)
  · have hf := it_f hc hf
    exact hj18  _ _ _ hf hP hD hS (lv_sub hl [] rfl)
  · have hf := it_t hc hf
    refine lv_aload_n hx hb dX8_isOpen_7 rfl (lv_at hl 0 rfl) ?_
    refine va_get (D := E.1) (ci := 8) (v := .int o_sort) (C := RX8) (T := TX8) (N := 10) hx hb hts inX8 hown hK hP 0 rfl rfl 5 (by decide) (hts _ fl_X8_47) (fun _ h9 => h9) rfl dX8_isOpen_8 ?_
    refine lv_if_eq (tgt := 18) hx hb dX8_isOpen_11 (by decide) (fun hc => ?_) (fun hc => ?_)
    · have hf := it_t hc hf
      exact hj18  _ _ _ hf hP hD hS (lv_sub hl [] rfl)
    · have hf := it_f hc hf
      refine lv_iconst (v := 1) hx hb dX8_isOpen_14 (by decide) ?_
      refine lv_goto (tgt := 19) hx hb dX8_isOpen_15 (by decide) ?_
      obtain rfl := Option.some.inj hf
      subst hq
      exact retZ cx rfl hP hD hS dX8_isOpen_19
def X8_fail (o_place : Int32) (o_fault : Int32) (o_faultPlace : Int32) (v1 : Int32) : Option (Int32 × Int32) :=
  if o_fault = 0 then
  some (v1, o_place)
  else
  some (o_fault, o_faultPlace)
abbrev wd_X8_fail (E : vE) (a_o a_o_text : Nat) (o_held : Int32) (o_length : Int32) (o_place : Int32) (o_next : Int32) (o_sort : Int32) (o_value : Int32) (o_code : Int64) (o_fault : Int32) (o_faultPlace : Int32) : va_W := [(a_o, .inr (8, [.ref a_o_text, .int o_held, .int o_length, .int o_place, .int o_next, .int o_sort, .int o_value, .long o_code, .int o_fault, .int o_faultPlace]))]
set_option maxHeartbeats 4000000 in
set_option maxRecDepth 100000 in
theorem ct_X8_fail (l : Launch) (E : vE) (a_o a_o_text : Nat) (o_held : Int32) (o_length : Int32) (o_place : Int32) (o_next : Int32) (o_sort : Int32) (o_value : Int32) (o_code : Int64) (o_fault : Int32) (o_faultPlace : Int32) (v1 : Int32) (u : Int32 × Int32) (hf : X8_fail o_place o_fault o_faultPlace v1 = some u) :
    CtV l yX8_fail cX8_fail 2 none 0 E [.ref a_o, .int v1] (wd_X8_fail E a_o a_o_text o_held o_length o_place o_next o_sort o_value o_code o_fault o_faultPlace) (wd_X8_fail E a_o a_o_text o_held o_length o_place o_next o_sort o_value o_code u.1 u.2) := by
  refine ctV (by decide) (Nat.le_of_ble_eq_true rfl) ?_
  intro p e s m below meth cd A ls aa QQ hq cx hP hD hS hl
  obtain ⟨⟨hx, hb, hml, hown, hts⟩, hr, hlocks, hK, hA, hX⟩ := id cx
  have hl : lv_has ls 2 [(0, .ref a_o), (1, .int v1)] := hl
  unfold X8_fail at hf
  refine lv_aload_n hx hb dX8_fail_0 rfl (lv_at hl 0 rfl) ?_
  refine va_get (D := E.1) (ci := 8) (v := .int o_fault) (C := RX8) (T := TX8) (N := 10) hx hb hts inX8 hown hK hP 0 rfl rfl 8 (by decide) (hts _ fl_X8_41) (fun _ h9 => h9) rfl dX8_fail_1 ?_
  refine lv_if_ne (tgt := 20) hx hb dX8_fail_4 (by decide) (fun hc => ?_) (fun hc => ?_)
  · have hf := it_f hc hf
    obtain rfl := Option.some.inj hf
    subst hq
    exact retV cx hP hD hS dX8_fail_20
  · have hf := it_t hc hf
    refine lv_aload_n hx hb dX8_fail_7 rfl (lv_at hl 0 rfl) ?_
    refine lv_iload_n hx hb dX8_fail_8 rfl (lv_at hl 1 rfl) ?_
    refine va_put (D := E.1) (ci := 8) (v := .int v1) (ty := .int) (C := RX8) (T := TX8) (N := 10) hx hb hts inX8 tyX8 tyX8_ok nmX8 hown hK hP hD hS 0 rfl rfl 8 (by decide) (hts _ fl_X8_41) (fun _ h9 => h9) rfl (by decide +kernel) rfl rfl (Nat.le_of_ble_eq_true rfl) dX8_fail_9 (fun H locs hP hD hS => ?_)
    have hP : va_P E.1 vwCl (wd_X8_fail E a_o a_o_text o_held o_length o_place o_next o_sort o_value o_code v1 o_faultPlace) H := hP
    have hD : va_D A (wd_X8_fail E a_o a_o_text o_held o_length o_place o_next o_sort o_value o_code v1 o_faultPlace) := hD
    refine lv_aload_n hx hb dX8_fail_12 rfl (lv_at hl 0 rfl) ?_
    refine lv_aload_n hx hb dX8_fail_13 rfl (lv_at hl 0 rfl) ?_
    refine va_get (D := E.1) (ci := 8) (v := .int o_place) (C := RX8) (T := TX8) (N := 10) hx hb hts inX8 hown hK hP 0 rfl rfl 3 (by decide) (hts _ fl_X8_50) (fun _ h9 => h9) rfl dX8_fail_14 ?_
    refine va_put (D := E.1) (ci := 8) (v := .int o_place) (ty := .int) (C := RX8) (T := TX8) (N := 10) hx hb hts inX8 tyX8 tyX8_ok nmX8 hown hK hP hD hS 0 rfl rfl 9 (by decide) (hts _ fl_X8_15) (fun _ h9 => h9) rfl (by decide +kernel) rfl rfl (Nat.le_of_ble_eq_true rfl) dX8_fail_17 (fun H locs hP hD hS => ?_)
    have hP : va_P E.1 vwCl (wd_X8_fail E a_o a_o_text o_held o_length o_place o_next o_sort o_value o_code v1 o_place) H := hP
    have hD : va_D A (wd_X8_fail E a_o a_o_text o_held o_length o_place o_next o_sort o_value o_code v1 o_place) := hD
    obtain rfl := Option.some.inj hf
    subst hq
    exact retV cx hP hD hS dX8_fail_20
def X8_failHere_j14 (o_place : Int32) (o_sort : Int32) (o_fault : Int32) (o_faultPlace : Int32) (k0 : Int32) : Option (Int32 × Int32) :=
  (X8_fail o_place o_fault o_faultPlace k0).bind fun u14 =>
  some (u14.1, u14.2)
def X8_failHere (o_place : Int32) (o_sort : Int32) (o_fault : Int32) (o_faultPlace : Int32) : Option (Int32 × Int32) :=
  if o_sort = 4 then
  X8_failHere_j14 o_place o_sort o_fault o_faultPlace 1
  else
  X8_failHere_j14 o_place o_sort o_fault o_faultPlace 2
abbrev wd_X8_failHere (E : vE) (a_o a_o_text : Nat) (o_held : Int32) (o_length : Int32) (o_place : Int32) (o_next : Int32) (o_sort : Int32) (o_value : Int32) (o_code : Int64) (o_fault : Int32) (o_faultPlace : Int32) : va_W := [(a_o, .inr (8, [.ref a_o_text, .int o_held, .int o_length, .int o_place, .int o_next, .int o_sort, .int o_value, .long o_code, .int o_fault, .int o_faultPlace]))]
set_option maxHeartbeats 4000000 in
set_option maxRecDepth 100000 in
theorem ct_X8_failHere (l : Launch) (E : vE) (a_o a_o_text : Nat) (o_held : Int32) (o_length : Int32) (o_place : Int32) (o_next : Int32) (o_sort : Int32) (o_value : Int32) (o_code : Int64) (o_fault : Int32) (o_faultPlace : Int32) (u : Int32 × Int32) (hf : X8_failHere o_place o_sort o_fault o_faultPlace = some u) :
    CtV l yX8_failHere cX8_failHere 1 none 1 E [.ref a_o] (wd_X8_failHere E a_o a_o_text o_held o_length o_place o_next o_sort o_value o_code o_fault o_faultPlace) (wd_X8_failHere E a_o a_o_text o_held o_length o_place o_next o_sort o_value o_code u.1 u.2) := by
  refine ctV (by decide) (Nat.le_of_ble_eq_true rfl) ?_
  intro p e s m below meth cd A ls aa QQ hq cx hP hD hS hl
  obtain ⟨⟨hx, hb, hml, hown, hts⟩, hr, hlocks, hK, hA, hX⟩ := id cx
  have hl : lv_has ls 1 [(0, .ref a_o)] := hl
  have hj14 : ∀ (o_fault_j14 : Int32) (o_faultPlace_j14 : Int32) (k0_j14 : Int32) (H : Heap) (locs : List Loc) (ls : Array Slot), X8_failHere_j14 o_place o_sort o_fault_j14 o_faultPlace_j14 k0_j14 = some u → va_P E.1 vwCl (wd_X8_failHere E a_o a_o_text o_held o_length o_place o_next o_sort o_value o_code o_fault_j14 o_faultPlace_j14) H → va_D A (wd_X8_failHere E a_o a_o_text o_held o_length o_place o_next o_sort o_value o_code o_fault_j14 o_faultPlace_j14) → va_S A s.heap H locs → lv_has ls 1 [] → W p l e (rmd 1) s m aa below meth cd H locs 0 0 QQ (F0 m 14 ls [.int k0_j14, .ref a_o]) := by
    intro o_fault_j14 o_faultPlace_j14 k0_j14 H locs ls hf hP hD hS hl
    unfold X8_failHere_j14 at hf
    obtain ⟨u14, hu14, hf⟩ := bd hf
    refine callVV (wn := (wd_X8_failHere E a_o a_o_text o_held o_length o_place o_next o_sort o_value o_code u14.1 u14.2)) (n1 := 1) (ct_X8_fail l E a_o a_o_text o_held o_length o_place o_next o_sort o_value o_code o_fault_j14 o_faultPlace_j14 k0_j14 u14 hu14) [0] cal_X8_fail cav_X8_fail lk_X8_53 cx hP hD hS hl dX8_failHere_14 rfl rfl rfl rfl (Nat.le_of_ble_eq_true rfl) ⟨Nat.le_of_ble_eq_true rfl, Nat.le_of_ble_eq_true rfl⟩ rfl (by decide +kernel) rfl [some 0] rfl (by decide +kernel) rfl (fun H locs hP hD hS => ?_)
    obtain rfl := Option.some.inj hf
    subst hq
    exact retV cx hP hD hS dX8_failHere_17
  unfold X8_failHere at hf
  refine lv_aload_n hx hb dX8_failHere_0 rfl (lv_at hl 0 rfl) ?_
  refine lv_aload_n hx hb dX8_failHere_1 rfl (lv_at hl 0 rfl) ?_
  refine va_get (D := E.1) (ci := 8) (v := .int o_sort) (C := RX8) (T := TX8) (N := 10) hx hb hts inX8 hown hK hP 0 rfl rfl 5 (by decide) (hts _ fl_X8_47) (fun _ h9 => h9) rfl dX8_failHere_2 ?_
  refine lv_iconst (v := 4) hx hb dX8_failHere_5 (by decide) ?_
  refine lv_icmp_ne (tgt := 13) hx hb dX8_failHere_6 (by decide) (fun hc => ?_) (fun hc => ?_)
  · have hf := it_f hc hf
    refine lv_iconst (v := 2) hx hb dX8_failHere_13 (by decide) ?_
    exact hj14 _ _ _ _ _ _ hf hP hD hS (lv_sub hl [] rfl)
  · have hf := it_t hc hf
    refine lv_iconst (v := 1) hx hb dX8_failHere_9 (by decide) ?_
    refine lv_goto (tgt := 14) hx hb dX8_failHere_10 (by decide) ?_
    exact hj14 _ _ _ _ _ _ hf hP hD hS (lv_sub hl [] rfl)
def X8_takeNumber_j39 (F : Nat) (o_length : Int32) (o_place : Int32) (o_next : Int32) (o_sort : Int32) (o_value : Int32) (o_code : Int64) (o_fault : Int32) (o_faultPlace : Int32) (o_text : Nat → Int32) (v1 : Int32) : Option (Int32 × Int32 × Int32 × Int32 × Int32 × Int64 × Int32 × Int32) :=
  (X8_fail o_place o_fault o_faultPlace (4 : Int32)).bind fun u41 =>
  some (v1, o_place, o_next, o_sort, o_value, o_code, u41.1, u41.2)
def X8_takeNumber (F : Nat) (o_length : Int32) (o_place : Int32) (o_next : Int32) (o_sort : Int32) (o_value : Int32) (o_code : Int64) (o_fault : Int32) (o_faultPlace : Int32) (o_text : Nat → Int32) (v1 : Int32) (v2 : Int32) : Option (Int32 × Int32 × Int32 × Int32 × Int32 × Int64 × Int32 × Int32) :=
  if o_fault = 0 then
  if o_sort = 2 then
  if o_value < v1 then
  X8_takeNumber_j39 F o_length o_place o_next o_sort o_value o_code o_fault o_faultPlace o_text v1
  else
  if o_value ≤ v2 then
  (X8_advance F o_length o_place o_next o_sort o_value o_code o_text).bind fun u52 =>
  some (o_value, u52.1, u52.2.1, u52.2.2.1, u52.2.2.2.1, u52.2.2.2.2, o_fault, o_faultPlace)
  else
  X8_takeNumber_j39 F o_length o_place o_next o_sort o_value o_code o_fault o_faultPlace o_text v1
  else
  (X8_failHere o_place o_sort o_fault o_faultPlace).bind fun u18 =>
  some (v1, o_place, o_next, o_sort, o_value, o_code, u18.1, u18.2)
  else
  some (v1, o_place, o_next, o_sort, o_value, o_code, o_fault, o_faultPlace)
abbrev wd_X8_takeNumber (E : vE) (a_o a_o_text : Nat) (o_held : Int32) (o_length : Int32) (o_place : Int32) (o_next : Int32) (o_sort : Int32) (o_value : Int32) (o_code : Int64) (o_fault : Int32) (o_faultPlace : Int32) (o_text : Nat → Int32) : va_W := [(a_o, .inr (8, [.ref a_o_text, .int o_held, .int o_length, .int o_place, .int o_next, .int o_sort, .int o_value, .long o_code, .int o_fault, .int o_faultPlace])), (a_o_text, .inl (E.2.1, 900, .inl o_text))]
set_option maxHeartbeats 4000000 in
set_option maxRecDepth 100000 in
theorem ct_X8_takeNumber (l : Launch) (E : vE) (F : Nat) (a_o a_o_text : Nat) (o_held : Int32) (o_length : Int32) (o_place : Int32) (o_next : Int32) (o_sort : Int32) (o_value : Int32) (o_code : Int64) (o_fault : Int32) (o_faultPlace : Int32) (o_text : Nat → Int32) (v1 : Int32) (v2 : Int32) (u : Int32 × Int32 × Int32 × Int32 × Int32 × Int64 × Int32 × Int32) (hf : X8_takeNumber F o_length o_place o_next o_sort o_value o_code o_fault o_faultPlace o_text v1 v2 = some u) :
    CtI l yX8_takeNumber cX8_takeNumber 4 (some .int) 6 E [.ref a_o, .int v1, .int v2] (wd_X8_takeNumber E a_o a_o_text o_held o_length o_place o_next o_sort o_value o_code o_fault o_faultPlace o_text) (wd_X8_takeNumber E a_o a_o_text o_held o_length u.2.1 u.2.2.1 u.2.2.2.1 u.2.2.2.2.1 u.2.2.2.2.2.1 u.2.2.2.2.2.2.1 u.2.2.2.2.2.2.2 o_text) u.1 := by
  refine ctI (by decide) (Nat.le_of_ble_eq_true rfl) ?_
  intro p e s m below meth cd A ls aa QQ hq cx hP hD hS hl
  obtain ⟨⟨hx, hb, hml, hown, hts⟩, hr, hlocks, hK, hA, hX⟩ := id cx
  have hl : lv_has ls 4 [(0, .ref a_o), (1, .int v1), (2, .int v2)] := hl
  have hj39 : ∀ (o_place_j39 : Int32) (o_next_j39 : Int32) (o_sort_j39 : Int32) (o_value_j39 : Int32) (o_code_j39 : Int64) (o_fault_j39 : Int32) (o_faultPlace_j39 : Int32) (H : Heap) (locs : List Loc) (ls : Array Slot), X8_takeNumber_j39 F o_length o_place_j39 o_next_j39 o_sort_j39 o_value_j39 o_code_j39 o_fault_j39 o_faultPlace_j39 o_text v1 = some u → va_P E.1 vwCl (wd_X8_takeNumber E a_o a_o_text o_held o_length o_place_j39 o_next_j39 o_sort_j39 o_value_j39 o_code_j39 o_fault_j39 o_faultPlace_j39 o_text) H → va_D A (wd_X8_takeNumber E a_o a_o_text o_held o_length o_place_j39 o_next_j39 o_sort_j39 o_value_j39 o_code_j39 o_fault_j39 o_faultPlace_j39 o_text) → va_S A s.heap H locs → lv_has ls 4 [(0, .ref a_o), (1, .int v1)] → W p l e (rmd 6) s m aa below meth cd H locs 0 0 QQ (F0 m 39 ls []) := by
    intro o_place_j39 o_next_j39 o_sort_j39 o_value_j39 o_code_j39 o_fault_j39 o_faultPlace_j39 H locs ls hf hP hD hS hl
    unfold X8_takeNumber_j39 at hf
    refine lv_aload_n hx hb dX8_takeNumber_39 rfl (lv_at hl 0 rfl) ?_
    refine lv_iconst (v := 4) hx hb dX8_takeNumber_40 (by decide) ?_
    obtain ⟨u41, hu41, hf⟩ := bd hf
    refine callVV (wn := (wd_X8_takeNumber E a_o a_o_text o_held o_length o_place_j39 o_next_j39 o_sort_j39 o_value_j39 o_code_j39 u41.1 u41.2 o_text)) (n1 := 2) (ct_X8_fail l E a_o a_o_text o_held o_length o_place_j39 o_next_j39 o_sort_j39 o_value_j39 o_code_j39 o_fault_j39 o_faultPlace_j39 (4 : Int32) u41 hu41) [0] cal_X8_fail cav_X8_fail lk_X8_53 cx hP hD hS hl dX8_takeNumber_41 rfl rfl rfl rfl (Nat.le_of_ble_eq_true rfl) ⟨Nat.le_of_ble_eq_true rfl, Nat.le_of_ble_eq_true rfl⟩ rfl (by decide +kernel) rfl [some 0, none] rfl (by decide +kernel) rfl (fun H locs hP hD hS => ?_)
    refine lv_iload_n hx hb dX8_takeNumber_44 rfl (lv_at hl 1 rfl) ?_
    obtain rfl := Option.some.inj hf
    subst hq
    exact retI cx hP hD hS dX8_takeNumber_45
  unfold X8_takeNumber at hf
  refine lv_aload_n hx hb dX8_takeNumber_0 rfl (lv_at hl 0 rfl) ?_
  refine va_get (D := E.1) (ci := 8) (v := .int o_fault) (C := RX8) (T := TX8) (N := 10) hx hb hts inX8 hown hK hP 0 rfl rfl 8 (by decide) (hts _ fl_X8_41) (fun _ h9 => h9) rfl dX8_takeNumber_1 ?_
  refine lv_if_eq (tgt := 9) hx hb dX8_takeNumber_4 (by decide) (fun hc => ?_) (fun hc => ?_)
  · have hf := it_t hc hf
    refine lv_aload_n hx hb dX8_takeNumber_9 rfl (lv_at hl 0 rfl) ?_
    refine va_get (D := E.1) (ci := 8) (v := .int o_sort) (C := RX8) (T := TX8) (N := 10) hx hb hts inX8 hown hK hP 0 rfl rfl 5 (by decide) (hts _ fl_X8_47) (fun _ h9 => h9) rfl dX8_takeNumber_10 ?_
    refine lv_iconst (v := 2) hx hb dX8_takeNumber_13 (by decide) ?_
    refine lv_icmp_eq (tgt := 23) hx hb dX8_takeNumber_14 (by decide) (fun hc => ?_) (fun hc => ?_)
    · have hf := it_t hc hf
      refine lv_aload_n hx hb dX8_takeNumber_23 rfl (lv_at hl 0 rfl) ?_
      refine va_get (D := E.1) (ci := 8) (v := .int o_value) (C := RX8) (T := TX8) (N := 10) hx hb hts inX8 hown hK hP 0 rfl rfl 6 (by decide) (hts _ fl_X8_57) (fun _ h9 => h9) rfl dX8_takeNumber_24 ?_
      refine lv_iload_n hx hb dX8_takeNumber_27 rfl (lv_at hl 1 rfl) ?_
      refine lv_icmp_lt (tgt := 39) hx hb dX8_takeNumber_28 (by decide) (fun hc => ?_) (fun hc => ?_)
      · have hf := it_t hc hf
        exact hj39 _ _ _ _ _ _ _ _ _ _ hf hP hD hS (lv_sub hl [0, 1] rfl)
      · have hf := it_f hc hf
        refine lv_aload_n hx hb dX8_takeNumber_31 rfl (lv_at hl 0 rfl) ?_
        refine va_get (D := E.1) (ci := 8) (v := .int o_value) (C := RX8) (T := TX8) (N := 10) hx hb hts inX8 hown hK hP 0 rfl rfl 6 (by decide) (hts _ fl_X8_57) (fun _ h9 => h9) rfl dX8_takeNumber_32 ?_
        refine lv_iload_n hx hb dX8_takeNumber_35 rfl (lv_at hl 2 rfl) ?_
        refine lv_icmp_le (tgt := 46) hx hb dX8_takeNumber_36 (by decide) (fun hc => ?_) (fun hc => ?_)
        · have hf := it_t hc hf
          refine lv_aload_n hx hb dX8_takeNumber_46 rfl (lv_at hl 0 rfl) ?_
          refine va_get (D := E.1) (ci := 8) (v := .int o_value) (C := RX8) (T := TX8) (N := 10) hx hb hts inX8 hown hK hP 0 rfl rfl 6 (by decide) (hts _ fl_X8_57) (fun _ h9 => h9) rfl dX8_takeNumber_47 ?_
          refine lv_istore_n (lv' := [(3, .int o_value), (0, .ref a_o), (1, .int v1), (2, .int v2)]) hx hb dX8_takeNumber_50 rfl hl (by decide) rfl (fun ls hl => ?_)
          refine lv_aload_n hx hb dX8_takeNumber_51 rfl (lv_at hl 1 rfl) ?_
          obtain ⟨u52, hu52, hf⟩ := bd hf
          refine callVV (wn := (wd_X8_takeNumber E a_o a_o_text o_held o_length u52.1 u52.2.1 u52.2.2.1 u52.2.2.2.1 u52.2.2.2.2 o_fault o_faultPlace o_text)) (n1 := 2) (ct_X8_advance l E F a_o a_o_text o_held o_length o_place o_next o_sort o_value o_code o_fault o_faultPlace o_text u52 hu52) [0, 1] cal_X8_advance cav_X8_advance lk_X8_44 cx hP hD hS hl dX8_takeNumber_52 rfl rfl rfl rfl (Nat.le_of_ble_eq_true rfl) ⟨Nat.le_of_ble_eq_true rfl, Nat.le_of_ble_eq_true rfl⟩ rfl (by decide +kernel) rfl [some 0, some 1] rfl (by decide +kernel) rfl (fun H locs hP hD hS => ?_)
          refine lv_iload_n hx hb dX8_takeNumber_55 rfl (lv_at hl 0 rfl) ?_
          obtain rfl := Option.some.inj hf
          subst hq
          exact retI cx hP hD hS dX8_takeNumber_56
        · have hf := it_f hc hf
          exact hj39 _ _ _ _ _ _ _ _ _ _ hf hP hD hS (lv_sub hl [0, 1] rfl)
    · have hf := it_f hc hf
      refine lv_aload_n hx hb dX8_takeNumber_17 rfl (lv_at hl 0 rfl) ?_
      obtain ⟨u18, hu18, hf⟩ := bd hf
      refine callVV (wn := (wd_X8_takeNumber E a_o a_o_text o_held o_length o_place o_next o_sort o_value o_code u18.1 u18.2 o_text)) (n1 := 2) (ct_X8_failHere l E a_o a_o_text o_held o_length o_place o_next o_sort o_value o_code o_fault o_faultPlace u18 hu18) [0] cal_X8_failHere cav_X8_failHere lk_X8_94 cx hP hD hS hl dX8_takeNumber_18 rfl rfl rfl rfl (Nat.le_of_ble_eq_true rfl) ⟨Nat.le_of_ble_eq_true rfl, Nat.le_of_ble_eq_true rfl⟩ rfl (by decide +kernel) rfl [some 0, none] rfl (by decide +kernel) rfl (fun H locs hP hD hS => ?_)
      refine lv_iload_n hx hb dX8_takeNumber_21 rfl (lv_at hl 1 rfl) ?_
      obtain rfl := Option.some.inj hf
      subst hq
      exact retI cx hP hD hS dX8_takeNumber_22
  · have hf := it_f hc hf
    refine lv_iload_n hx hb dX8_takeNumber_7 rfl (lv_at hl 1 rfl) ?_
    obtain rfl := Option.some.inj hf
    subst hq
    exact retI cx hP hD hS dX8_takeNumber_8
def X8_takeEnd_j25 (F : Nat) (o_length : Int32) (o_place : Int32) (o_next : Int32) (o_sort : Int32) (o_value : Int32) (o_code : Int64) (o_fault : Int32) (o_faultPlace : Int32) (o_text : Nat → Int32) : Option (Int32 × Int32 × Int32 × Int32 × Int64 × Int32 × Int32) :=
  (X8_failHere o_place o_sort o_fault o_faultPlace).bind fun u26 =>
  some (o_place, o_next, o_sort, o_value, o_code, u26.1, u26.2)
def X8_takeEnd (F : Nat) (o_length : Int32) (o_place : Int32) (o_next : Int32) (o_sort : Int32) (o_value : Int32) (o_code : Int64) (o_fault : Int32) (o_faultPlace : Int32) (o_text : Nat → Int32) : Option (Int32 × Int32 × Int32 × Int32 × Int64 × Int32 × Int32) :=
  if o_fault = 0 then
  if o_sort = 3 then
  if o_value = 59 then
  (X8_advance F o_length o_place o_next o_sort o_value o_code o_text).bind fun u31 =>
  some (u31.1, u31.2.1, u31.2.2.1, u31.2.2.2.1, u31.2.2.2.2, o_fault, o_faultPlace)
  else
  X8_takeEnd_j25 F o_length o_place o_next o_sort o_value o_code o_fault o_faultPlace o_text
  else
  X8_takeEnd_j25 F o_length o_place o_next o_sort o_value o_code o_fault o_faultPlace o_text
  else
  some (o_place, o_next, o_sort, o_value, o_code, o_fault, o_faultPlace)
abbrev wd_X8_takeEnd (E : vE) (a_o a_o_text : Nat) (o_held : Int32) (o_length : Int32) (o_place : Int32) (o_next : Int32) (o_sort : Int32) (o_value : Int32) (o_code : Int64) (o_fault : Int32) (o_faultPlace : Int32) (o_text : Nat → Int32) : va_W := [(a_o, .inr (8, [.ref a_o_text, .int o_held, .int o_length, .int o_place, .int o_next, .int o_sort, .int o_value, .long o_code, .int o_fault, .int o_faultPlace])), (a_o_text, .inl (E.2.1, 900, .inl o_text))]
set_option maxHeartbeats 4000000 in
set_option maxRecDepth 100000 in
theorem ct_X8_takeEnd (l : Launch) (E : vE) (F : Nat) (a_o a_o_text : Nat) (o_held : Int32) (o_length : Int32) (o_place : Int32) (o_next : Int32) (o_sort : Int32) (o_value : Int32) (o_code : Int64) (o_fault : Int32) (o_faultPlace : Int32) (o_text : Nat → Int32) (u : Int32 × Int32 × Int32 × Int32 × Int64 × Int32 × Int32) (hf : X8_takeEnd F o_length o_place o_next o_sort o_value o_code o_fault o_faultPlace o_text = some u) :
    CtV l yX8_takeEnd cX8_takeEnd 1 none 6 E [.ref a_o] (wd_X8_takeEnd E a_o a_o_text o_held o_length o_place o_next o_sort o_value o_code o_fault o_faultPlace o_text) (wd_X8_takeEnd E a_o a_o_text o_held o_length u.1 u.2.1 u.2.2.1 u.2.2.2.1 u.2.2.2.2.1 u.2.2.2.2.2.1 u.2.2.2.2.2.2 o_text) := by
  refine ctV (by decide) (Nat.le_of_ble_eq_true rfl) ?_
  intro p e s m below meth cd A ls aa QQ hq cx hP hD hS hl
  obtain ⟨⟨hx, hb, hml, hown, hts⟩, hr, hlocks, hK, hA, hX⟩ := id cx
  have hl : lv_has ls 1 [(0, .ref a_o)] := hl
  have hj25 : ∀ (o_place_j25 : Int32) (o_next_j25 : Int32) (o_sort_j25 : Int32) (o_value_j25 : Int32) (o_code_j25 : Int64) (o_fault_j25 : Int32) (o_faultPlace_j25 : Int32) (H : Heap) (locs : List Loc) (ls : Array Slot), X8_takeEnd_j25 F o_length o_place_j25 o_next_j25 o_sort_j25 o_value_j25 o_code_j25 o_fault_j25 o_faultPlace_j25 o_text = some u → va_P E.1 vwCl (wd_X8_takeEnd E a_o a_o_text o_held o_length o_place_j25 o_next_j25 o_sort_j25 o_value_j25 o_code_j25 o_fault_j25 o_faultPlace_j25 o_text) H → va_D A (wd_X8_takeEnd E a_o a_o_text o_held o_length o_place_j25 o_next_j25 o_sort_j25 o_value_j25 o_code_j25 o_fault_j25 o_faultPlace_j25 o_text) → va_S A s.heap H locs → lv_has ls 1 [(0, .ref a_o)] → W p l e (rmd 6) s m aa below meth cd H locs 0 0 QQ (F0 m 25 ls []) := by
    intro o_place_j25 o_next_j25 o_sort_j25 o_value_j25 o_code_j25 o_fault_j25 o_faultPlace_j25 H locs ls hf hP hD hS hl
    unfold X8_takeEnd_j25 at hf
    refine lv_aload_n hx hb dX8_takeEnd_25 rfl (lv_at hl 0 rfl) ?_
    obtain ⟨u26, hu26, hf⟩ := bd hf
    refine callVV (wn := (wd_X8_takeEnd E a_o a_o_text o_held o_length o_place_j25 o_next_j25 o_sort_j25 o_value_j25 o_code_j25 u26.1 u26.2 o_text)) (n1 := 2) (ct_X8_failHere l E a_o a_o_text o_held o_length o_place_j25 o_next_j25 o_sort_j25 o_value_j25 o_code_j25 o_fault_j25 o_faultPlace_j25 u26 hu26) [0] cal_X8_failHere cav_X8_failHere lk_X8_94 cx hP hD hS hl dX8_takeEnd_26 rfl rfl rfl rfl (Nat.le_of_ble_eq_true rfl) ⟨Nat.le_of_ble_eq_true rfl, Nat.le_of_ble_eq_true rfl⟩ rfl (by decide +kernel) rfl [some 0, none] rfl (by decide +kernel) rfl (fun H locs hP hD hS => ?_)
    obtain rfl := Option.some.inj hf
    subst hq
    exact retV cx hP hD hS dX8_takeEnd_29
  unfold X8_takeEnd at hf
  refine lv_aload_n hx hb dX8_takeEnd_0 rfl (lv_at hl 0 rfl) ?_
  refine va_get (D := E.1) (ci := 8) (v := .int o_fault) (C := RX8) (T := TX8) (N := 10) hx hb hts inX8 hown hK hP 0 rfl rfl 8 (by decide) (hts _ fl_X8_41) (fun _ h9 => h9) rfl dX8_takeEnd_1 ?_
  refine lv_if_eq (tgt := 8) hx hb dX8_takeEnd_4 (by decide) (fun hc => ?_) (fun hc => ?_)
  · have hf := it_t hc hf
    refine lv_aload_n hx hb dX8_takeEnd_8 rfl (lv_at hl 0 rfl) ?_
    refine va_get (D := E.1) (ci := 8) (v := .int o_sort) (C := RX8) (T := TX8) (N := 10) hx hb hts inX8 hown hK hP 0 rfl rfl 5 (by decide) (hts _ fl_X8_47) (fun _ h9 => h9) rfl dX8_takeEnd_9 ?_
    refine lv_iconst (v := 3) hx hb dX8_takeEnd_12 (by decide) ?_
    refine lv_icmp_ne (tgt := 25) hx hb dX8_takeEnd_13 (by decide) (fun hc => ?_) (fun hc => ?_)
    · have hf := it_f hc hf
      exact hj25 _ _ _ _ _ _ _ _ _ _ hf hP hD hS (lv_sub hl [0] rfl)
    · have hf := it_t hc hf
      refine lv_aload_n hx hb dX8_takeEnd_16 rfl (lv_at hl 0 rfl) ?_
      refine va_get (D := E.1) (ci := 8) (v := .int o_value) (C := RX8) (T := TX8) (N := 10) hx hb hts inX8 hown hK hP 0 rfl rfl 6 (by decide) (hts _ fl_X8_57) (fun _ h9 => h9) rfl dX8_takeEnd_17 ?_
      refine lv_bipush (v := 59) hx hb dX8_takeEnd_20 (by decide) ?_
      refine lv_icmp_eq (tgt := 30) hx hb dX8_takeEnd_22 (by decide) (fun hc => ?_) (fun hc => ?_)
      · have hf := it_t hc hf
        refine lv_aload_n hx hb dX8_takeEnd_30 rfl (lv_at hl 0 rfl) ?_
        obtain ⟨u31, hu31, hf⟩ := bd hf
        refine callVV (wn := (wd_X8_takeEnd E a_o a_o_text o_held o_length u31.1 u31.2.1 u31.2.2.1 u31.2.2.2.1 u31.2.2.2.2 o_fault o_faultPlace o_text)) (n1 := 2) (ct_X8_advance l E F a_o a_o_text o_held o_length o_place o_next o_sort o_value o_code o_fault o_faultPlace o_text u31 hu31) [0, 1] cal_X8_advance cav_X8_advance lk_X8_44 cx hP hD hS hl dX8_takeEnd_31 rfl rfl rfl rfl (Nat.le_of_ble_eq_true rfl) ⟨Nat.le_of_ble_eq_true rfl, Nat.le_of_ble_eq_true rfl⟩ rfl (by decide +kernel) rfl [some 0, some 1] rfl (by decide +kernel) rfl (fun H locs hP hD hS => ?_)
        obtain rfl := Option.some.inj hf
        subst hq
        exact retV cx hP hD hS dX8_takeEnd_34
      · have hf := it_f hc hf
        exact hj25 _ _ _ _ _ _ _ _ _ _ hf hP hD hS (lv_sub hl [0] rfl)
  · have hf := it_f hc hf
    obtain rfl := Option.some.inj hf
    subst hq
    exact retV cx hP hD hS dX8_takeEnd_7
