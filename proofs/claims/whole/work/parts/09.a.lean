theorem kl_L_32 : Cond.constantLong RL 32 (4294967295) ∈ gtbl := (gs9 210 rfl rfl)
section LawC
variable {p : Program} {l : Launch} {e : Env} {s : State} {m : MethodId} {below : List Frame} {meth : Method} {c : Code} {QQ : State → Prop} {b L i F : Nat} {xs : Nat → Int32} {E : vE} {a bb : Nat → Nat} {A : Nat → Prop} {Rel : vS → vS → Prop} {S T : vS} {H : Heap} {locs : List Loc} {ls : Array Slot} {y1 y2 y3 y4 y5 : Int32} {rt : Option FieldType}

theorem lg_cmp_self (r : Int64) : lg_cmp r r = 0 := by
  unfold lg_cmp
  simp
theorem swTn {R : Room} {args : Array Value} {cc : ByteArray} {own : String} {nL pc cells slots : Nat} {rest : List Value} {Q : State → Prop} {dflt lo hi : Int} {offs : Array Int} {len tgt : Nat} {x : Int32} (k : Nat) {off : Int} (cx : Cx p s m args meth c cc own nL rt E A) (hdg : decode cc pc = .ok (.tableswitch dflt lo hi offs, len)) (hx : x.toInt = lo + k) (hk : lo + k ≤ hi) (ho : offs[k]? = some off) (ht : (pc : Int) + off = (tgt : Int))
    (kk : W p l e R s m args below meth c H locs cells slots Q (F0 m tgt ls rest)) : W p l e R s m args below meth c H locs cells slots Q (F0 m pc ls (.int x :: rest)) := by
  obtain ⟨⟨hx1, hb, -, -, -⟩, -, -, -, -, -⟩ := cx
  refine lv_tableIn hx1 hb hdg (by omega) (by omega) (off := off) ?_ ht kk
  rw [hx]
  have : (lo + (k : Int) - lo).toNat = k := by omega
  rw [this]; exact ho
theorem swDn {R : Room} {args : Array Value} {cc : ByteArray} {own : String} {nL pc cells slots : Nat} {rest : List Value} {Q : State → Prop} {dflt lo hi : Int} {offs : Array Int} {len tgt : Nat} {x : Int32} (cx : Cx p s m args meth c cc own nL rt E A) (hdg : decode cc pc = .ok (.tableswitch dflt lo hi offs, len)) (h : x.toInt < lo ∨ hi < x.toInt) (ht : (pc : Int) + dflt = (tgt : Int))
    (kk : W p l e R s m args below meth c H locs cells slots Q (F0 m tgt ls rest)) : W p l e R s m args below meth c H locs cells slots Q (F0 m pc ls (.int x :: rest)) := by
  obtain ⟨⟨hx1, hb, -, -, -⟩, -, -, -, -, -⟩ := cx
  exact lv_tableOut hx1 hb hdg h ht kk
set_option maxHeartbeats 8000000 in
set_option maxRecDepth 100000 in
theorem lc_0 (ok0 : ok_status F Rel) (cx : Cx p s m #[Value.ref b] meth c cL_law RL 4 rt E A) (hXs : va_X b L xs s s.heap) (hbl : b < s.heap.size) (hbA : ¬ A b) (hin1 : vp_in (nI i + 1) L) (hin2 : vp_in (nI i + 2) L) (hin3 : vp_in (nI i + 3) L) (hin4 : vp_in (nI i + 4) L) (hin5 : vp_in (nI i + 5) L) (ey1 : xs (nI i + 1).toNatClampNeg = y1) (ey2 : xs (nI i + 2).toNatClampNeg = y2) (ey3 : xs (nI i + 3).toNatClampNeg = y3) (ey4 : xs (nI i + 4).toNatClampNeg = y4) (ey5 : xs (nI i + 5).toNatClampNeg = y5) (again : ∀ (S T : vS), Rel S T → ∀ (H : Heap) (locs : List Loc) (ls : Array Slot), va_P E.1 vwCl (wf_X11 E a S ++ wf_X12 E bb T) H → va_D A (wf_X11 E a S ++ wf_X12 E bb T) → va_S A s.heap H locs → lv_has ls 4 [(0, .ref b), (1, .ref (a 0)), (2, .ref (bb 0)), (3, .int (nI i))] → W p l e room_1 s m #[Value.ref b] below meth c H locs 149 20625 QQ (F0 m 1926 ls [])) (hRel : Rel S T) (hP : va_P E.1 vwCl (wf_X11 E a S ++ wf_X12 E bb T) H) (hD : va_D A (wf_X11 E a S ++ wf_X12 E bb T)) (hS : va_S A s.heap H locs) (hl : lv_has ls 4 [(0, .ref b), (1, .ref (a 0)), (2, .ref (bb 0)), (3, .int (nI i))]) : W p l e room_1 s m #[Value.ref b] below meth c H locs 149 20625 QQ (F0 m 276 ls []) := by
  obtain ⟨⟨hx, hb, hml, hown, hts⟩, hr, hlocks, hK, hA, hX⟩ := id cx
  obtain ⟨r, S2, T2, h1, h2, hR2⟩ := ok0 S T  hRel
  refine lv_aload_n hx hb dL_law_276 rfl (lv_at hl 1 rfl) ?_
  refine lcallIL (As := []) (rest := []) (cxx_status l E F a S  r S2 h1) cal_X11_status cav_X11_status lk_L_13 cx hP hD hS hl dL_law_277 rfl rfl rfl rfl (Nat.le_of_ble_eq_true rfl) ⟨Nat.le_of_ble_eq_true rfl, Nat.le_of_ble_eq_true rfl⟩ (Nat.le_of_ble_eq_true rfl) (Nat.le_of_ble_eq_true rfl) (fun H locs hP hD hS => ?_)
  refine lv_aload_n hx hb dL_law_280 rfl (lv_at hl 2 rfl) ?_
  refine lcallIR (As := []) (rest := [.int r]) (cxm_status l E F bb T  r T2 h2) cal_X12_status cav_X12_status lk_L_17 cx hP hD hS hl dL_law_281 rfl rfl rfl rfl (Nat.le_of_ble_eq_true rfl) ⟨Nat.le_of_ble_eq_true rfl, Nat.le_of_ble_eq_true rfl⟩ (Nat.le_of_ble_eq_true rfl) (Nat.le_of_ble_eq_true rfl) (fun H locs hP hD hS => ?_)
  refine lv_icmp_eq (tgt := 1926) hx hb dL_law_284 (by decide) (fun hc => ?_) (fun hc => absurd rfl hc)
  exact again _ _ hR2 _ _ _ hP hD hS hl
set_option maxHeartbeats 8000000 in
set_option maxRecDepth 100000 in
theorem lc_1 (ok1 : ok_top F Rel) (cx : Cx p s m #[Value.ref b] meth c cL_law RL 4 rt E A) (hXs : va_X b L xs s s.heap) (hbl : b < s.heap.size) (hbA : ¬ A b) (hin1 : vp_in (nI i + 1) L) (hin2 : vp_in (nI i + 2) L) (hin3 : vp_in (nI i + 3) L) (hin4 : vp_in (nI i + 4) L) (hin5 : vp_in (nI i + 5) L) (ey1 : xs (nI i + 1).toNatClampNeg = y1) (ey2 : xs (nI i + 2).toNatClampNeg = y2) (ey3 : xs (nI i + 3).toNatClampNeg = y3) (ey4 : xs (nI i + 4).toNatClampNeg = y4) (ey5 : xs (nI i + 5).toNatClampNeg = y5) (again : ∀ (S T : vS), Rel S T → ∀ (H : Heap) (locs : List Loc) (ls : Array Slot), va_P E.1 vwCl (wf_X11 E a S ++ wf_X12 E bb T) H → va_D A (wf_X11 E a S ++ wf_X12 E bb T) → va_S A s.heap H locs → lv_has ls 4 [(0, .ref b), (1, .ref (a 0)), (2, .ref (bb 0)), (3, .int (nI i))] → W p l e room_1 s m #[Value.ref b] below meth c H locs 149 20625 QQ (F0 m 1926 ls [])) (hRel : Rel S T) (hP : va_P E.1 vwCl (wf_X11 E a S ++ wf_X12 E bb T) H) (hD : va_D A (wf_X11 E a S ++ wf_X12 E bb T)) (hS : va_S A s.heap H locs) (hl : lv_has ls 4 [(0, .ref b), (1, .ref (a 0)), (2, .ref (bb 0)), (3, .int (nI i))]) : W p l e room_1 s m #[Value.ref b] below meth c H locs 149 20625 QQ (F0 m 289 ls []) := by
  obtain ⟨⟨hx, hb, hml, hown, hts⟩, hr, hlocks, hK, hA, hX⟩ := id cx
  obtain ⟨r, S2, T2, h1, h2, hR2⟩ := ok1 S T  hRel
  refine lv_aload_n hx hb dL_law_289 rfl (lv_at hl 1 rfl) ?_
  refine lcallLL (As := []) (rest := []) (cxx_top l E F a S  r S2 h1) cal_X11_top cav_X11_top lk_L_18 cx hP hD hS hl dL_law_290 rfl rfl rfl rfl (Nat.le_of_ble_eq_true rfl) ⟨Nat.le_of_ble_eq_true rfl, Nat.le_of_ble_eq_true rfl⟩ (Nat.le_of_ble_eq_true rfl) (Nat.le_of_ble_eq_true rfl) (fun H locs hP hD hS => ?_)
  refine lv_aload_n hx hb dL_law_293 rfl (lv_at hl 2 rfl) ?_
  refine lcallLR (As := []) (rest := [.long r]) (cxm_top l E F bb T  r T2 h2) cal_X12_top cav_X12_top lk_L_22 cx hP hD hS hl dL_law_294 rfl rfl rfl rfl (Nat.le_of_ble_eq_true rfl) ⟨Nat.le_of_ble_eq_true rfl, Nat.le_of_ble_eq_true rfl⟩ (Nat.le_of_ble_eq_true rfl) (Nat.le_of_ble_eq_true rfl) (fun H locs hP hD hS => ?_)
  refine W.lcmp hx hb dL_law_297 ?_
  refine lv_if_eq (tgt := 1926) hx hb dL_law_298 (by decide) (fun hc => ?_) (fun hc => absurd (lg_cmp_self r) hc)
  exact again _ _ hR2 _ _ _ hP hD hS hl
set_option maxHeartbeats 8000000 in
set_option maxRecDepth 100000 in
theorem lc_2 (ok2 : ok_bottom F Rel) (cx : Cx p s m #[Value.ref b] meth c cL_law RL 4 rt E A) (hXs : va_X b L xs s s.heap) (hbl : b < s.heap.size) (hbA : ¬ A b) (hin1 : vp_in (nI i + 1) L) (hin2 : vp_in (nI i + 2) L) (hin3 : vp_in (nI i + 3) L) (hin4 : vp_in (nI i + 4) L) (hin5 : vp_in (nI i + 5) L) (ey1 : xs (nI i + 1).toNatClampNeg = y1) (ey2 : xs (nI i + 2).toNatClampNeg = y2) (ey3 : xs (nI i + 3).toNatClampNeg = y3) (ey4 : xs (nI i + 4).toNatClampNeg = y4) (ey5 : xs (nI i + 5).toNatClampNeg = y5) (again : ∀ (S T : vS), Rel S T → ∀ (H : Heap) (locs : List Loc) (ls : Array Slot), va_P E.1 vwCl (wf_X11 E a S ++ wf_X12 E bb T) H → va_D A (wf_X11 E a S ++ wf_X12 E bb T) → va_S A s.heap H locs → lv_has ls 4 [(0, .ref b), (1, .ref (a 0)), (2, .ref (bb 0)), (3, .int (nI i))] → W p l e room_1 s m #[Value.ref b] below meth c H locs 149 20625 QQ (F0 m 1926 ls [])) (hRel : Rel S T) (hP : va_P E.1 vwCl (wf_X11 E a S ++ wf_X12 E bb T) H) (hD : va_D A (wf_X11 E a S ++ wf_X12 E bb T)) (hS : va_S A s.heap H locs) (hl : lv_has ls 4 [(0, .ref b), (1, .ref (a 0)), (2, .ref (bb 0)), (3, .int (nI i))]) : W p l e room_1 s m #[Value.ref b] below meth c H locs 149 20625 QQ (F0 m 303 ls []) := by
  obtain ⟨⟨hx, hb, hml, hown, hts⟩, hr, hlocks, hK, hA, hX⟩ := id cx
  obtain ⟨r, S2, T2, h1, h2, hR2⟩ := ok2 S T  hRel
  refine lv_aload_n hx hb dL_law_303 rfl (lv_at hl 1 rfl) ?_
  refine lcallLL (As := []) (rest := []) (cxx_bottom l E F a S  r S2 h1) cal_X11_bottom cav_X11_bottom lk_L_23 cx hP hD hS hl dL_law_304 rfl rfl rfl rfl (Nat.le_of_ble_eq_true rfl) ⟨Nat.le_of_ble_eq_true rfl, Nat.le_of_ble_eq_true rfl⟩ (Nat.le_of_ble_eq_true rfl) (Nat.le_of_ble_eq_true rfl) (fun H locs hP hD hS => ?_)
  refine lv_aload_n hx hb dL_law_307 rfl (lv_at hl 2 rfl) ?_
  refine lcallLR (As := []) (rest := [.long r]) (cxm_bottom l E F bb T  r T2 h2) cal_X12_bottom cav_X12_bottom lk_L_26 cx hP hD hS hl dL_law_308 rfl rfl rfl rfl (Nat.le_of_ble_eq_true rfl) ⟨Nat.le_of_ble_eq_true rfl, Nat.le_of_ble_eq_true rfl⟩ (Nat.le_of_ble_eq_true rfl) (Nat.le_of_ble_eq_true rfl) (fun H locs hP hD hS => ?_)
  refine W.lcmp hx hb dL_law_311 ?_
  refine lv_if_eq (tgt := 1926) hx hb dL_law_312 (by decide) (fun hc => ?_) (fun hc => absurd (lg_cmp_self r) hc)
  exact again _ _ hR2 _ _ _ hP hD hS hl
set_option maxHeartbeats 8000000 in
set_option maxRecDepth 100000 in
theorem lc_3 (ok3 : ok_tray F Rel) (cx : Cx p s m #[Value.ref b] meth c cL_law RL 4 rt E A) (hXs : va_X b L xs s s.heap) (hbl : b < s.heap.size) (hbA : ¬ A b) (hin1 : vp_in (nI i + 1) L) (hin2 : vp_in (nI i + 2) L) (hin3 : vp_in (nI i + 3) L) (hin4 : vp_in (nI i + 4) L) (hin5 : vp_in (nI i + 5) L) (ey1 : xs (nI i + 1).toNatClampNeg = y1) (ey2 : xs (nI i + 2).toNatClampNeg = y2) (ey3 : xs (nI i + 3).toNatClampNeg = y3) (ey4 : xs (nI i + 4).toNatClampNeg = y4) (ey5 : xs (nI i + 5).toNatClampNeg = y5) (again : ∀ (S T : vS), Rel S T → ∀ (H : Heap) (locs : List Loc) (ls : Array Slot), va_P E.1 vwCl (wf_X11 E a S ++ wf_X12 E bb T) H → va_D A (wf_X11 E a S ++ wf_X12 E bb T) → va_S A s.heap H locs → lv_has ls 4 [(0, .ref b), (1, .ref (a 0)), (2, .ref (bb 0)), (3, .int (nI i))] → W p l e room_1 s m #[Value.ref b] below meth c H locs 149 20625 QQ (F0 m 1926 ls [])) (hRel : Rel S T) (hP : va_P E.1 vwCl (wf_X11 E a S ++ wf_X12 E bb T) H) (hD : va_D A (wf_X11 E a S ++ wf_X12 E bb T)) (hS : va_S A s.heap H locs) (hl : lv_has ls 4 [(0, .ref b), (1, .ref (a 0)), (2, .ref (bb 0)), (3, .int (nI i))]) : W p l e room_1 s m #[Value.ref b] below meth c H locs 149 20625 QQ (F0 m 317 ls []) := by
  obtain ⟨⟨hx, hb, hml, hown, hts⟩, hr, hlocks, hK, hA, hX⟩ := id cx
  obtain ⟨r, S2, T2, h1, h2, hR2⟩ := ok3 S T y1 y2 y3 hRel
  refine lv_aload_n hx hb dL_law_317 rfl (lv_at hl 1 rfl) ?_
  refine lv_aload_n hx hb dL_law_318 rfl (lv_at hl 0 rfl) ?_
  refine lv_iload_n hx hb dL_law_319 rfl (lv_at hl 3 rfl) ?_
  refine lv_iconst (v := 1) hx hb dL_law_320 (by decide) ?_
  refine lv_iadd hx hb dL_law_321 ?_
  refine va_sld hx hb hXs hbl hbA hS hin1 dL_law_322 ?_
  rw [ey1]
  refine lv_aload_n hx hb dL_law_323 rfl (lv_at hl 0 rfl) ?_
  refine lv_iload_n hx hb dL_law_324 rfl (lv_at hl 3 rfl) ?_
  refine lv_iconst (v := 2) hx hb dL_law_325 (by decide) ?_
  refine lv_iadd hx hb dL_law_326 ?_
  refine va_sld hx hb hXs hbl hbA hS hin2 dL_law_327 ?_
  rw [ey2]
  refine lv_aload_n hx hb dL_law_328 rfl (lv_at hl 0 rfl) ?_
  refine lv_iload_n hx hb dL_law_329 rfl (lv_at hl 3 rfl) ?_
  refine lv_iconst (v := 3) hx hb dL_law_330 (by decide) ?_
  refine lv_iadd hx hb dL_law_331 ?_
  refine va_sld hx hb hXs hbl hbA hS hin3 dL_law_332 ?_
  rw [ey3]
  refine lcallIL (As := [.int y1, .int y2, .int y3]) (rest := []) (cxx_tray l E F a S y1 y2 y3 r S2 h1) cal_X11_tray cav_X11_tray lk_L_27 cx hP hD hS hl dL_law_333 rfl rfl rfl rfl (Nat.le_of_ble_eq_true rfl) ⟨Nat.le_of_ble_eq_true rfl, Nat.le_of_ble_eq_true rfl⟩ (Nat.le_of_ble_eq_true rfl) (Nat.le_of_ble_eq_true rfl) (fun H locs hP hD hS => ?_)
  refine lv_aload_n hx hb dL_law_336 rfl (lv_at hl 2 rfl) ?_
  refine lv_aload_n hx hb dL_law_337 rfl (lv_at hl 0 rfl) ?_
  refine lv_iload_n hx hb dL_law_338 rfl (lv_at hl 3 rfl) ?_
  refine lv_iconst (v := 1) hx hb dL_law_339 (by decide) ?_
  refine lv_iadd hx hb dL_law_340 ?_
  refine va_sld hx hb hXs hbl hbA hS hin1 dL_law_341 ?_
  rw [ey1]
  refine lv_aload_n hx hb dL_law_342 rfl (lv_at hl 0 rfl) ?_
  refine lv_iload_n hx hb dL_law_343 rfl (lv_at hl 3 rfl) ?_
  refine lv_iconst (v := 2) hx hb dL_law_344 (by decide) ?_
  refine lv_iadd hx hb dL_law_345 ?_
  refine va_sld hx hb hXs hbl hbA hS hin2 dL_law_346 ?_
  rw [ey2]
  refine lv_aload_n hx hb dL_law_347 rfl (lv_at hl 0 rfl) ?_
  refine lv_iload_n hx hb dL_law_348 rfl (lv_at hl 3 rfl) ?_
  refine lv_iconst (v := 3) hx hb dL_law_349 (by decide) ?_
  refine lv_iadd hx hb dL_law_350 ?_
  refine va_sld hx hb hXs hbl hbA hS hin3 dL_law_351 ?_
  rw [ey3]
  refine lcallIR (As := [.int y1, .int y2, .int y3]) (rest := [.int r]) (cxm_tray l E F bb T y1 y2 y3 r T2 h2) cal_X12_tray cav_X12_tray lk_L_31 cx hP hD hS hl dL_law_352 rfl rfl rfl rfl (Nat.le_of_ble_eq_true rfl) ⟨Nat.le_of_ble_eq_true rfl, Nat.le_of_ble_eq_true rfl⟩ (Nat.le_of_ble_eq_true rfl) (Nat.le_of_ble_eq_true rfl) (fun H locs hP hD hS => ?_)
  refine lv_icmp_eq (tgt := 1926) hx hb dL_law_355 (by decide) (fun hc => ?_) (fun hc => absurd rfl hc)
  exact again _ _ hR2 _ _ _ hP hD hS hl
set_option maxHeartbeats 8000000 in
set_option maxRecDepth 100000 in
theorem lc_4 (ok4 : ok_write F Rel) (cx : Cx p s m #[Value.ref b] meth c cL_law RL 4 rt E A) (hXs : va_X b L xs s s.heap) (hbl : b < s.heap.size) (hbA : ¬ A b) (hin1 : vp_in (nI i + 1) L) (hin2 : vp_in (nI i + 2) L) (hin3 : vp_in (nI i + 3) L) (hin4 : vp_in (nI i + 4) L) (hin5 : vp_in (nI i + 5) L) (ey1 : xs (nI i + 1).toNatClampNeg = y1) (ey2 : xs (nI i + 2).toNatClampNeg = y2) (ey3 : xs (nI i + 3).toNatClampNeg = y3) (ey4 : xs (nI i + 4).toNatClampNeg = y4) (ey5 : xs (nI i + 5).toNatClampNeg = y5) (again : ∀ (S T : vS), Rel S T → ∀ (H : Heap) (locs : List Loc) (ls : Array Slot), va_P E.1 vwCl (wf_X11 E a S ++ wf_X12 E bb T) H → va_D A (wf_X11 E a S ++ wf_X12 E bb T) → va_S A s.heap H locs → lv_has ls 4 [(0, .ref b), (1, .ref (a 0)), (2, .ref (bb 0)), (3, .int (nI i))] → W p l e room_1 s m #[Value.ref b] below meth c H locs 149 20625 QQ (F0 m 1926 ls [])) (hRel : Rel S T) (hP : va_P E.1 vwCl (wf_X11 E a S ++ wf_X12 E bb T) H) (hD : va_D A (wf_X11 E a S ++ wf_X12 E bb T)) (hS : va_S A s.heap H locs) (hl : lv_has ls 4 [(0, .ref b), (1, .ref (a 0)), (2, .ref (bb 0)), (3, .int (nI i))]) : W p l e room_1 s m #[Value.ref b] below meth c H locs 149 20625 QQ (F0 m 360 ls []) := by
  obtain ⟨⟨hx, hb, hml, hown, hts⟩, hr, hlocks, hK, hA, hX⟩ := id cx
  obtain ⟨r, S2, T2, h1, h2, hR2⟩ := ok4 S T y1 y2 ((jshl64 (y3.toInt64) 32) ||| ((y4.toInt64) &&& 4294967295)) hRel
  refine lv_aload_n hx hb dL_law_360 rfl (lv_at hl 1 rfl) ?_
  refine lv_aload_n hx hb dL_law_361 rfl (lv_at hl 0 rfl) ?_
  refine lv_iload_n hx hb dL_law_362 rfl (lv_at hl 3 rfl) ?_
  refine lv_iconst (v := 1) hx hb dL_law_363 (by decide) ?_
  refine lv_iadd hx hb dL_law_364 ?_
  refine va_sld hx hb hXs hbl hbA hS hin1 dL_law_365 ?_
  rw [ey1]
  refine lv_aload_n hx hb dL_law_366 rfl (lv_at hl 0 rfl) ?_
  refine lv_iload_n hx hb dL_law_367 rfl (lv_at hl 3 rfl) ?_
  refine lv_iconst (v := 2) hx hb dL_law_368 (by decide) ?_
  refine lv_iadd hx hb dL_law_369 ?_
  refine va_sld hx hb hXs hbl hbA hS hin2 dL_law_370 ?_
  rw [ey2]
  refine lv_aload_n hx hb dL_law_371 rfl (lv_at hl 0 rfl) ?_
  refine lv_iload_n hx hb dL_law_372 rfl (lv_at hl 3 rfl) ?_
  refine lv_iconst (v := 3) hx hb dL_law_373 (by decide) ?_
  refine lv_iadd hx hb dL_law_374 ?_
  refine va_sld hx hb hXs hbl hbA hS hin3 dL_law_375 ?_
  rw [ey3]
  refine lv_i2l (v := y3.toInt64) hx hb dL_law_376 rfl ?_
  refine lv_bipush (v := 32) hx hb dL_law_377 (by decide) ?_
  refine lv_lshl (v := jshl64 y3.toInt64 32) hx hb dL_law_379 rfl ?_
  refine lv_aload_n hx hb dL_law_380 rfl (lv_at hl 0 rfl) ?_
  refine lv_iload_n hx hb dL_law_381 rfl (lv_at hl 3 rfl) ?_
  refine lv_iconst (v := 4) hx hb dL_law_382 (by decide) ?_
  refine lv_iadd hx hb dL_law_383 ?_
  refine va_sld hx hb hXs hbl hbA hS hin4 dL_law_384 ?_
  rw [ey4]
  refine lv_i2l (v := y4.toInt64) hx hb dL_law_385 rfl ?_
  refine lv_ldc2 (v := 4294967295) hx hb hown (hts _ kl_L_32) dL_law_386 ?_
  refine lv_land hx hb dL_law_389 ?_
  refine lv_lor hx hb dL_law_390 ?_
  refine lcallIL (As := [.int y1, .int y2, .long ((jshl64 y3.toInt64 32) ||| (y4.toInt64 &&& 4294967295))]) (rest := []) (cxx_write l E F a S y1 y2 ((jshl64 y3.toInt64 32) ||| (y4.toInt64 &&& 4294967295)) r S2 h1) cal_X11_write cav_X11_write lk_L_34 cx hP hD hS hl dL_law_391 rfl rfl rfl rfl (Nat.le_of_ble_eq_true rfl) ⟨Nat.le_of_ble_eq_true rfl, Nat.le_of_ble_eq_true rfl⟩ (Nat.le_of_ble_eq_true rfl) (Nat.le_of_ble_eq_true rfl) (fun H locs hP hD hS => ?_)
  refine lv_aload_n hx hb dL_law_394 rfl (lv_at hl 2 rfl) ?_
  refine lv_aload_n hx hb dL_law_395 rfl (lv_at hl 0 rfl) ?_
  refine lv_iload_n hx hb dL_law_396 rfl (lv_at hl 3 rfl) ?_
  refine lv_iconst (v := 1) hx hb dL_law_397 (by decide) ?_
  refine lv_iadd hx hb dL_law_398 ?_
  refine va_sld hx hb hXs hbl hbA hS hin1 dL_law_399 ?_
  rw [ey1]
  refine lv_aload_n hx hb dL_law_400 rfl (lv_at hl 0 rfl) ?_
  refine lv_iload_n hx hb dL_law_401 rfl (lv_at hl 3 rfl) ?_
  refine lv_iconst (v := 2) hx hb dL_law_402 (by decide) ?_
  refine lv_iadd hx hb dL_law_403 ?_
  refine va_sld hx hb hXs hbl hbA hS hin2 dL_law_404 ?_
  rw [ey2]
  refine lv_aload_n hx hb dL_law_405 rfl (lv_at hl 0 rfl) ?_
  refine lv_iload_n hx hb dL_law_406 rfl (lv_at hl 3 rfl) ?_
  refine lv_iconst (v := 3) hx hb dL_law_407 (by decide) ?_
  refine lv_iadd hx hb dL_law_408 ?_
  refine va_sld hx hb hXs hbl hbA hS hin3 dL_law_409 ?_
  rw [ey3]
  refine lv_i2l (v := y3.toInt64) hx hb dL_law_410 rfl ?_
  refine lv_bipush (v := 32) hx hb dL_law_411 (by decide) ?_
  refine lv_lshl (v := jshl64 y3.toInt64 32) hx hb dL_law_413 rfl ?_
  refine lv_aload_n hx hb dL_law_414 rfl (lv_at hl 0 rfl) ?_
  refine lv_iload_n hx hb dL_law_415 rfl (lv_at hl 3 rfl) ?_
  refine lv_iconst (v := 4) hx hb dL_law_416 (by decide) ?_
  refine lv_iadd hx hb dL_law_417 ?_
  refine va_sld hx hb hXs hbl hbA hS hin4 dL_law_418 ?_
  rw [ey4]
  refine lv_i2l (v := y4.toInt64) hx hb dL_law_419 rfl ?_
  refine lv_ldc2 (v := 4294967295) hx hb hown (hts _ kl_L_32) dL_law_420 ?_
  refine lv_land hx hb dL_law_423 ?_
  refine lv_lor hx hb dL_law_424 ?_
  refine lcallIR (As := [.int y1, .int y2, .long ((jshl64 y3.toInt64 32) ||| (y4.toInt64 &&& 4294967295))]) (rest := [.int r]) (cxm_write l E F bb T y1 y2 ((jshl64 y3.toInt64 32) ||| (y4.toInt64 &&& 4294967295)) r T2 h2) cal_X12_write cav_X12_write lk_L_38 cx hP hD hS hl dL_law_425 rfl rfl rfl rfl (Nat.le_of_ble_eq_true rfl) ⟨Nat.le_of_ble_eq_true rfl, Nat.le_of_ble_eq_true rfl⟩ (Nat.le_of_ble_eq_true rfl) (Nat.le_of_ble_eq_true rfl) (fun H locs hP hD hS => ?_)
  refine lv_icmp_eq (tgt := 1926) hx hb dL_law_428 (by decide) (fun hc => ?_) (fun hc => absurd rfl hc)
  exact again _ _ hR2 _ _ _ hP hD hS hl
set_option maxHeartbeats 8000000 in
set_option maxRecDepth 100000 in
theorem lc_5 (ok5 : ok_read F Rel) (cx : Cx p s m #[Value.ref b] meth c cL_law RL 4 rt E A) (hXs : va_X b L xs s s.heap) (hbl : b < s.heap.size) (hbA : ¬ A b) (hin1 : vp_in (nI i + 1) L) (hin2 : vp_in (nI i + 2) L) (hin3 : vp_in (nI i + 3) L) (hin4 : vp_in (nI i + 4) L) (hin5 : vp_in (nI i + 5) L) (ey1 : xs (nI i + 1).toNatClampNeg = y1) (ey2 : xs (nI i + 2).toNatClampNeg = y2) (ey3 : xs (nI i + 3).toNatClampNeg = y3) (ey4 : xs (nI i + 4).toNatClampNeg = y4) (ey5 : xs (nI i + 5).toNatClampNeg = y5) (again : ∀ (S T : vS), Rel S T → ∀ (H : Heap) (locs : List Loc) (ls : Array Slot), va_P E.1 vwCl (wf_X11 E a S ++ wf_X12 E bb T) H → va_D A (wf_X11 E a S ++ wf_X12 E bb T) → va_S A s.heap H locs → lv_has ls 4 [(0, .ref b), (1, .ref (a 0)), (2, .ref (bb 0)), (3, .int (nI i))] → W p l e room_1 s m #[Value.ref b] below meth c H locs 149 20625 QQ (F0 m 1926 ls [])) (hRel : Rel S T) (hP : va_P E.1 vwCl (wf_X11 E a S ++ wf_X12 E bb T) H) (hD : va_D A (wf_X11 E a S ++ wf_X12 E bb T)) (hS : va_S A s.heap H locs) (hl : lv_has ls 4 [(0, .ref b), (1, .ref (a 0)), (2, .ref (bb 0)), (3, .int (nI i))]) : W p l e room_1 s m #[Value.ref b] below meth c H locs 149 20625 QQ (F0 m 433 ls []) := by
  obtain ⟨⟨hx, hb, hml, hown, hts⟩, hr, hlocks, hK, hA, hX⟩ := id cx
  obtain ⟨r, S2, T2, h1, h2, hR2⟩ := ok5 S T y1 y2 hRel
  refine lv_aload_n hx hb dL_law_433 rfl (lv_at hl 1 rfl) ?_
  refine lv_aload_n hx hb dL_law_434 rfl (lv_at hl 0 rfl) ?_
  refine lv_iload_n hx hb dL_law_435 rfl (lv_at hl 3 rfl) ?_
  refine lv_iconst (v := 1) hx hb dL_law_436 (by decide) ?_
  refine lv_iadd hx hb dL_law_437 ?_
  refine va_sld hx hb hXs hbl hbA hS hin1 dL_law_438 ?_
  rw [ey1]
  refine lv_aload_n hx hb dL_law_439 rfl (lv_at hl 0 rfl) ?_
  refine lv_iload_n hx hb dL_law_440 rfl (lv_at hl 3 rfl) ?_
  refine lv_iconst (v := 2) hx hb dL_law_441 (by decide) ?_
  refine lv_iadd hx hb dL_law_442 ?_
  refine va_sld hx hb hXs hbl hbA hS hin2 dL_law_443 ?_
  rw [ey2]
  refine lcallLL (As := [.int y1, .int y2]) (rest := []) (cxx_read l E F a S y1 y2 r S2 h1) cal_X11_read cav_X11_read lk_L_39 cx hP hD hS hl dL_law_444 rfl rfl rfl rfl (Nat.le_of_ble_eq_true rfl) ⟨Nat.le_of_ble_eq_true rfl, Nat.le_of_ble_eq_true rfl⟩ (Nat.le_of_ble_eq_true rfl) (Nat.le_of_ble_eq_true rfl) (fun H locs hP hD hS => ?_)
  refine lv_aload_n hx hb dL_law_447 rfl (lv_at hl 2 rfl) ?_
  refine lv_aload_n hx hb dL_law_448 rfl (lv_at hl 0 rfl) ?_
  refine lv_iload_n hx hb dL_law_449 rfl (lv_at hl 3 rfl) ?_
  refine lv_iconst (v := 1) hx hb dL_law_450 (by decide) ?_
  refine lv_iadd hx hb dL_law_451 ?_
  refine va_sld hx hb hXs hbl hbA hS hin1 dL_law_452 ?_
  rw [ey1]
  refine lv_aload_n hx hb dL_law_453 rfl (lv_at hl 0 rfl) ?_
  refine lv_iload_n hx hb dL_law_454 rfl (lv_at hl 3 rfl) ?_
  refine lv_iconst (v := 2) hx hb dL_law_455 (by decide) ?_
  refine lv_iadd hx hb dL_law_456 ?_
  refine va_sld hx hb hXs hbl hbA hS hin2 dL_law_457 ?_
  rw [ey2]
  refine lcallLR (As := [.int y1, .int y2]) (rest := [.long r]) (cxm_read l E F bb T y1 y2 r T2 h2) cal_X12_read cav_X12_read lk_L_43 cx hP hD hS hl dL_law_458 rfl rfl rfl rfl (Nat.le_of_ble_eq_true rfl) ⟨Nat.le_of_ble_eq_true rfl, Nat.le_of_ble_eq_true rfl⟩ (Nat.le_of_ble_eq_true rfl) (Nat.le_of_ble_eq_true rfl) (fun H locs hP hD hS => ?_)
  refine W.lcmp hx hb dL_law_461 ?_
  refine lv_if_eq (tgt := 1926) hx hb dL_law_462 (by decide) (fun hc => ?_) (fun hc => absurd (lg_cmp_self r) hc)
  exact again _ _ hR2 _ _ _ hP hD hS hl
set_option maxHeartbeats 8000000 in
set_option maxRecDepth 100000 in
theorem lc_6 (ok6 : ok_pour F Rel) (cx : Cx p s m #[Value.ref b] meth c cL_law RL 4 rt E A) (hXs : va_X b L xs s s.heap) (hbl : b < s.heap.size) (hbA : ¬ A b) (hin1 : vp_in (nI i + 1) L) (hin2 : vp_in (nI i + 2) L) (hin3 : vp_in (nI i + 3) L) (hin4 : vp_in (nI i + 4) L) (hin5 : vp_in (nI i + 5) L) (ey1 : xs (nI i + 1).toNatClampNeg = y1) (ey2 : xs (nI i + 2).toNatClampNeg = y2) (ey3 : xs (nI i + 3).toNatClampNeg = y3) (ey4 : xs (nI i + 4).toNatClampNeg = y4) (ey5 : xs (nI i + 5).toNatClampNeg = y5) (again : ∀ (S T : vS), Rel S T → ∀ (H : Heap) (locs : List Loc) (ls : Array Slot), va_P E.1 vwCl (wf_X11 E a S ++ wf_X12 E bb T) H → va_D A (wf_X11 E a S ++ wf_X12 E bb T) → va_S A s.heap H locs → lv_has ls 4 [(0, .ref b), (1, .ref (a 0)), (2, .ref (bb 0)), (3, .int (nI i))] → W p l e room_1 s m #[Value.ref b] below meth c H locs 149 20625 QQ (F0 m 1926 ls [])) (hRel : Rel S T) (hP : va_P E.1 vwCl (wf_X11 E a S ++ wf_X12 E bb T) H) (hD : va_D A (wf_X11 E a S ++ wf_X12 E bb T)) (hS : va_S A s.heap H locs) (hl : lv_has ls 4 [(0, .ref b), (1, .ref (a 0)), (2, .ref (bb 0)), (3, .int (nI i))]) : W p l e room_1 s m #[Value.ref b] below meth c H locs 149 20625 QQ (F0 m 467 ls []) := by
  obtain ⟨⟨hx, hb, hml, hown, hts⟩, hr, hlocks, hK, hA, hX⟩ := id cx
  obtain ⟨r, S2, T2, h1, h2, hR2⟩ := ok6 S T y1 y2 y3 y4 y5 hRel
  refine lv_aload_n hx hb dL_law_467 rfl (lv_at hl 1 rfl) ?_
  refine lv_aload_n hx hb dL_law_468 rfl (lv_at hl 0 rfl) ?_
  refine lv_iload_n hx hb dL_law_469 rfl (lv_at hl 3 rfl) ?_
  refine lv_iconst (v := 1) hx hb dL_law_470 (by decide) ?_
  refine lv_iadd hx hb dL_law_471 ?_
  refine va_sld hx hb hXs hbl hbA hS hin1 dL_law_472 ?_
  rw [ey1]
  refine lv_aload_n hx hb dL_law_473 rfl (lv_at hl 0 rfl) ?_
  refine lv_iload_n hx hb dL_law_474 rfl (lv_at hl 3 rfl) ?_
  refine lv_iconst (v := 2) hx hb dL_law_475 (by decide) ?_
  refine lv_iadd hx hb dL_law_476 ?_
  refine va_sld hx hb hXs hbl hbA hS hin2 dL_law_477 ?_
  rw [ey2]
  refine lv_aload_n hx hb dL_law_478 rfl (lv_at hl 0 rfl) ?_
  refine lv_iload_n hx hb dL_law_479 rfl (lv_at hl 3 rfl) ?_
  refine lv_iconst (v := 3) hx hb dL_law_480 (by decide) ?_
  refine lv_iadd hx hb dL_law_481 ?_
  refine va_sld hx hb hXs hbl hbA hS hin3 dL_law_482 ?_
  rw [ey3]
  refine lv_aload_n hx hb dL_law_483 rfl (lv_at hl 0 rfl) ?_
  refine lv_iload_n hx hb dL_law_484 rfl (lv_at hl 3 rfl) ?_
  refine lv_iconst (v := 4) hx hb dL_law_485 (by decide) ?_
  refine lv_iadd hx hb dL_law_486 ?_
  refine va_sld hx hb hXs hbl hbA hS hin4 dL_law_487 ?_
  rw [ey4]
  refine lv_aload_n hx hb dL_law_488 rfl (lv_at hl 0 rfl) ?_
  refine lv_iload_n hx hb dL_law_489 rfl (lv_at hl 3 rfl) ?_
  refine lv_iconst (v := 5) hx hb dL_law_490 (by decide) ?_
  refine lv_iadd hx hb dL_law_491 ?_
  refine va_sld hx hb hXs hbl hbA hS hin5 dL_law_492 ?_
  rw [ey5]
  refine lcallIL (As := [.int y1, .int y2, .int y3, .int y4, .int y5]) (rest := []) (cxx_pour l E F a S y1 y2 y3 y4 y5 r S2 h1) cal_X11_pour cav_X11_pour lk_L_44 cx hP hD hS hl dL_law_493 rfl rfl rfl rfl (Nat.le_of_ble_eq_true rfl) ⟨Nat.le_of_ble_eq_true rfl, Nat.le_of_ble_eq_true rfl⟩ (Nat.le_of_ble_eq_true rfl) (Nat.le_of_ble_eq_true rfl) (fun H locs hP hD hS => ?_)
  refine lv_aload_n hx hb dL_law_496 rfl (lv_at hl 2 rfl) ?_
  refine lv_aload_n hx hb dL_law_497 rfl (lv_at hl 0 rfl) ?_
  refine lv_iload_n hx hb dL_law_498 rfl (lv_at hl 3 rfl) ?_
  refine lv_iconst (v := 1) hx hb dL_law_499 (by decide) ?_
  refine lv_iadd hx hb dL_law_500 ?_
  refine va_sld hx hb hXs hbl hbA hS hin1 dL_law_501 ?_
  rw [ey1]
  refine lv_aload_n hx hb dL_law_502 rfl (lv_at hl 0 rfl) ?_
  refine lv_iload_n hx hb dL_law_503 rfl (lv_at hl 3 rfl) ?_
  refine lv_iconst (v := 2) hx hb dL_law_504 (by decide) ?_
  refine lv_iadd hx hb dL_law_505 ?_
  refine va_sld hx hb hXs hbl hbA hS hin2 dL_law_506 ?_
  rw [ey2]
  refine lv_aload_n hx hb dL_law_507 rfl (lv_at hl 0 rfl) ?_
  refine lv_iload_n hx hb dL_law_508 rfl (lv_at hl 3 rfl) ?_
  refine lv_iconst (v := 3) hx hb dL_law_509 (by decide) ?_
  refine lv_iadd hx hb dL_law_510 ?_
  refine va_sld hx hb hXs hbl hbA hS hin3 dL_law_511 ?_
  rw [ey3]
  refine lv_aload_n hx hb dL_law_512 rfl (lv_at hl 0 rfl) ?_
  refine lv_iload_n hx hb dL_law_513 rfl (lv_at hl 3 rfl) ?_
  refine lv_iconst (v := 4) hx hb dL_law_514 (by decide) ?_
  refine lv_iadd hx hb dL_law_515 ?_
  refine va_sld hx hb hXs hbl hbA hS hin4 dL_law_516 ?_
  rw [ey4]
  refine lv_aload_n hx hb dL_law_517 rfl (lv_at hl 0 rfl) ?_
  refine lv_iload_n hx hb dL_law_518 rfl (lv_at hl 3 rfl) ?_
  refine lv_iconst (v := 5) hx hb dL_law_519 (by decide) ?_
  refine lv_iadd hx hb dL_law_520 ?_
  refine va_sld hx hb hXs hbl hbA hS hin5 dL_law_521 ?_
  rw [ey5]
  refine lcallIR (As := [.int y1, .int y2, .int y3, .int y4, .int y5]) (rest := [.int r]) (cxm_pour l E F bb T y1 y2 y3 y4 y5 r T2 h2) cal_X12_pour cav_X12_pour lk_L_48 cx hP hD hS hl dL_law_522 rfl rfl rfl rfl (Nat.le_of_ble_eq_true rfl) ⟨Nat.le_of_ble_eq_true rfl, Nat.le_of_ble_eq_true rfl⟩ (Nat.le_of_ble_eq_true rfl) (Nat.le_of_ble_eq_true rfl) (fun H locs hP hD hS => ?_)
  refine lv_icmp_eq (tgt := 1926) hx hb dL_law_525 (by decide) (fun hc => ?_) (fun hc => absurd rfl hc)
  exact again _ _ hR2 _ _ _ hP hD hS hl
set_option maxHeartbeats 8000000 in
set_option maxRecDepth 100000 in
theorem lc_7 (ok7 : ok_feed F Rel) (cx : Cx p s m #[Value.ref b] meth c cL_law RL 4 rt E A) (hXs : va_X b L xs s s.heap) (hbl : b < s.heap.size) (hbA : ¬ A b) (hin1 : vp_in (nI i + 1) L) (hin2 : vp_in (nI i + 2) L) (hin3 : vp_in (nI i + 3) L) (hin4 : vp_in (nI i + 4) L) (hin5 : vp_in (nI i + 5) L) (ey1 : xs (nI i + 1).toNatClampNeg = y1) (ey2 : xs (nI i + 2).toNatClampNeg = y2) (ey3 : xs (nI i + 3).toNatClampNeg = y3) (ey4 : xs (nI i + 4).toNatClampNeg = y4) (ey5 : xs (nI i + 5).toNatClampNeg = y5) (again : ∀ (S T : vS), Rel S T → ∀ (H : Heap) (locs : List Loc) (ls : Array Slot), va_P E.1 vwCl (wf_X11 E a S ++ wf_X12 E bb T) H → va_D A (wf_X11 E a S ++ wf_X12 E bb T) → va_S A s.heap H locs → lv_has ls 4 [(0, .ref b), (1, .ref (a 0)), (2, .ref (bb 0)), (3, .int (nI i))] → W p l e room_1 s m #[Value.ref b] below meth c H locs 149 20625 QQ (F0 m 1926 ls [])) (hRel : Rel S T) (hP : va_P E.1 vwCl (wf_X11 E a S ++ wf_X12 E bb T) H) (hD : va_D A (wf_X11 E a S ++ wf_X12 E bb T)) (hS : va_S A s.heap H locs) (hl : lv_has ls 4 [(0, .ref b), (1, .ref (a 0)), (2, .ref (bb 0)), (3, .int (nI i))]) : W p l e room_1 s m #[Value.ref b] below meth c H locs 149 20625 QQ (F0 m 530 ls []) := by
  obtain ⟨⟨hx, hb, hml, hown, hts⟩, hr, hlocks, hK, hA, hX⟩ := id cx
  obtain ⟨r, S2, T2, h1, h2, hR2⟩ := ok7 S T y1 y2 y3 y4 y5 hRel
  refine lv_aload_n hx hb dL_law_530 rfl (lv_at hl 1 rfl) ?_
  refine lv_aload_n hx hb dL_law_531 rfl (lv_at hl 0 rfl) ?_
  refine lv_iload_n hx hb dL_law_532 rfl (lv_at hl 3 rfl) ?_
  refine lv_iconst (v := 1) hx hb dL_law_533 (by decide) ?_
  refine lv_iadd hx hb dL_law_534 ?_
  refine va_sld hx hb hXs hbl hbA hS hin1 dL_law_535 ?_
  rw [ey1]
  refine lv_aload_n hx hb dL_law_536 rfl (lv_at hl 0 rfl) ?_
  refine lv_iload_n hx hb dL_law_537 rfl (lv_at hl 3 rfl) ?_
  refine lv_iconst (v := 2) hx hb dL_law_538 (by decide) ?_
  refine lv_iadd hx hb dL_law_539 ?_
  refine va_sld hx hb hXs hbl hbA hS hin2 dL_law_540 ?_
  rw [ey2]
  refine lv_aload_n hx hb dL_law_541 rfl (lv_at hl 0 rfl) ?_
  refine lv_iload_n hx hb dL_law_542 rfl (lv_at hl 3 rfl) ?_
  refine lv_iconst (v := 3) hx hb dL_law_543 (by decide) ?_
  refine lv_iadd hx hb dL_law_544 ?_
  refine va_sld hx hb hXs hbl hbA hS hin3 dL_law_545 ?_
  rw [ey3]
  refine lv_aload_n hx hb dL_law_546 rfl (lv_at hl 0 rfl) ?_
  refine lv_iload_n hx hb dL_law_547 rfl (lv_at hl 3 rfl) ?_
  refine lv_iconst (v := 4) hx hb dL_law_548 (by decide) ?_
  refine lv_iadd hx hb dL_law_549 ?_
  refine va_sld hx hb hXs hbl hbA hS hin4 dL_law_550 ?_
  rw [ey4]
  refine lv_aload_n hx hb dL_law_551 rfl (lv_at hl 0 rfl) ?_
  refine lv_iload_n hx hb dL_law_552 rfl (lv_at hl 3 rfl) ?_
  refine lv_iconst (v := 5) hx hb dL_law_553 (by decide) ?_
  refine lv_iadd hx hb dL_law_554 ?_
  refine va_sld hx hb hXs hbl hbA hS hin5 dL_law_555 ?_
  rw [ey5]
  refine lcallIL (As := [.int y1, .int y2, .int y3, .int y4, .int y5]) (rest := []) (cxx_feed l E F a S y1 y2 y3 y4 y5 r S2 h1) cal_X11_feed cav_X11_feed lk_L_49 cx hP hD hS hl dL_law_556 rfl rfl rfl rfl (Nat.le_of_ble_eq_true rfl) ⟨Nat.le_of_ble_eq_true rfl, Nat.le_of_ble_eq_true rfl⟩ (Nat.le_of_ble_eq_true rfl) (Nat.le_of_ble_eq_true rfl) (fun H locs hP hD hS => ?_)
  refine lv_aload_n hx hb dL_law_559 rfl (lv_at hl 2 rfl) ?_
  refine lv_aload_n hx hb dL_law_560 rfl (lv_at hl 0 rfl) ?_
  refine lv_iload_n hx hb dL_law_561 rfl (lv_at hl 3 rfl) ?_
  refine lv_iconst (v := 1) hx hb dL_law_562 (by decide) ?_
  refine lv_iadd hx hb dL_law_563 ?_
  refine va_sld hx hb hXs hbl hbA hS hin1 dL_law_564 ?_
  rw [ey1]
  refine lv_aload_n hx hb dL_law_565 rfl (lv_at hl 0 rfl) ?_
  refine lv_iload_n hx hb dL_law_566 rfl (lv_at hl 3 rfl) ?_
  refine lv_iconst (v := 2) hx hb dL_law_567 (by decide) ?_
  refine lv_iadd hx hb dL_law_568 ?_
  refine va_sld hx hb hXs hbl hbA hS hin2 dL_law_569 ?_
  rw [ey2]
  refine lv_aload_n hx hb dL_law_570 rfl (lv_at hl 0 rfl) ?_
  refine lv_iload_n hx hb dL_law_571 rfl (lv_at hl 3 rfl) ?_
  refine lv_iconst (v := 3) hx hb dL_law_572 (by decide) ?_
  refine lv_iadd hx hb dL_law_573 ?_
  refine va_sld hx hb hXs hbl hbA hS hin3 dL_law_574 ?_
  rw [ey3]
  refine lv_aload_n hx hb dL_law_575 rfl (lv_at hl 0 rfl) ?_
  refine lv_iload_n hx hb dL_law_576 rfl (lv_at hl 3 rfl) ?_
  refine lv_iconst (v := 4) hx hb dL_law_577 (by decide) ?_
  refine lv_iadd hx hb dL_law_578 ?_
  refine va_sld hx hb hXs hbl hbA hS hin4 dL_law_579 ?_
  rw [ey4]
  refine lv_aload_n hx hb dL_law_580 rfl (lv_at hl 0 rfl) ?_
  refine lv_iload_n hx hb dL_law_581 rfl (lv_at hl 3 rfl) ?_
  refine lv_iconst (v := 5) hx hb dL_law_582 (by decide) ?_
  refine lv_iadd hx hb dL_law_583 ?_
  refine va_sld hx hb hXs hbl hbA hS hin5 dL_law_584 ?_
  rw [ey5]
  refine lcallIR (As := [.int y1, .int y2, .int y3, .int y4, .int y5]) (rest := [.int r]) (cxm_feed l E F bb T y1 y2 y3 y4 y5 r T2 h2) cal_X12_feed cav_X12_feed lk_L_53 cx hP hD hS hl dL_law_585 rfl rfl rfl rfl (Nat.le_of_ble_eq_true rfl) ⟨Nat.le_of_ble_eq_true rfl, Nat.le_of_ble_eq_true rfl⟩ (Nat.le_of_ble_eq_true rfl) (Nat.le_of_ble_eq_true rfl) (fun H locs hP hD hS => ?_)
  refine lv_icmp_eq (tgt := 1926) hx hb dL_law_588 (by decide) (fun hc => ?_) (fun hc => absurd rfl hc)
  exact again _ _ hR2 _ _ _ hP hD hS hl
set_option maxHeartbeats 8000000 in
set_option maxRecDepth 100000 in
theorem lc_8 (ok8 : ok_city F Rel) (cx : Cx p s m #[Value.ref b] meth c cL_law RL 4 rt E A) (hXs : va_X b L xs s s.heap) (hbl : b < s.heap.size) (hbA : ¬ A b) (hin1 : vp_in (nI i + 1) L) (hin2 : vp_in (nI i + 2) L) (hin3 : vp_in (nI i + 3) L) (hin4 : vp_in (nI i + 4) L) (hin5 : vp_in (nI i + 5) L) (ey1 : xs (nI i + 1).toNatClampNeg = y1) (ey2 : xs (nI i + 2).toNatClampNeg = y2) (ey3 : xs (nI i + 3).toNatClampNeg = y3) (ey4 : xs (nI i + 4).toNatClampNeg = y4) (ey5 : xs (nI i + 5).toNatClampNeg = y5) (again : ∀ (S T : vS), Rel S T → ∀ (H : Heap) (locs : List Loc) (ls : Array Slot), va_P E.1 vwCl (wf_X11 E a S ++ wf_X12 E bb T) H → va_D A (wf_X11 E a S ++ wf_X12 E bb T) → va_S A s.heap H locs → lv_has ls 4 [(0, .ref b), (1, .ref (a 0)), (2, .ref (bb 0)), (3, .int (nI i))] → W p l e room_1 s m #[Value.ref b] below meth c H locs 149 20625 QQ (F0 m 1926 ls [])) (hRel : Rel S T) (hP : va_P E.1 vwCl (wf_X11 E a S ++ wf_X12 E bb T) H) (hD : va_D A (wf_X11 E a S ++ wf_X12 E bb T)) (hS : va_S A s.heap H locs) (hl : lv_has ls 4 [(0, .ref b), (1, .ref (a 0)), (2, .ref (bb 0)), (3, .int (nI i))]) : W p l e room_1 s m #[Value.ref b] below meth c H locs 149 20625 QQ (F0 m 593 ls []) := by
  obtain ⟨⟨hx, hb, hml, hown, hts⟩, hr, hlocks, hK, hA, hX⟩ := id cx
  obtain ⟨r, S2, T2, h1, h2, hR2⟩ := ok8 S T y1 hRel
  refine lv_aload_n hx hb dL_law_593 rfl (lv_at hl 1 rfl) ?_
  refine lv_aload_n hx hb dL_law_594 rfl (lv_at hl 0 rfl) ?_
  refine lv_iload_n hx hb dL_law_595 rfl (lv_at hl 3 rfl) ?_
  refine lv_iconst (v := 1) hx hb dL_law_596 (by decide) ?_
  refine lv_iadd hx hb dL_law_597 ?_
  refine va_sld hx hb hXs hbl hbA hS hin1 dL_law_598 ?_
  rw [ey1]
  refine lcallIL (As := [.int y1]) (rest := []) (cxx_city l E F a S y1 r S2 h1) cal_X11_city cav_X11_city lk_L_54 cx hP hD hS hl dL_law_599 rfl rfl rfl rfl (Nat.le_of_ble_eq_true rfl) ⟨Nat.le_of_ble_eq_true rfl, Nat.le_of_ble_eq_true rfl⟩ (Nat.le_of_ble_eq_true rfl) (Nat.le_of_ble_eq_true rfl) (fun H locs hP hD hS => ?_)
  refine lv_aload_n hx hb dL_law_602 rfl (lv_at hl 2 rfl) ?_
  refine lv_aload_n hx hb dL_law_603 rfl (lv_at hl 0 rfl) ?_
  refine lv_iload_n hx hb dL_law_604 rfl (lv_at hl 3 rfl) ?_
  refine lv_iconst (v := 1) hx hb dL_law_605 (by decide) ?_
  refine lv_iadd hx hb dL_law_606 ?_
  refine va_sld hx hb hXs hbl hbA hS hin1 dL_law_607 ?_
  rw [ey1]
  refine lcallIR (As := [.int y1]) (rest := [.int r]) (cxm_city l E F bb T y1 r T2 h2) cal_X12_city cav_X12_city lk_L_58 cx hP hD hS hl dL_law_608 rfl rfl rfl rfl (Nat.le_of_ble_eq_true rfl) ⟨Nat.le_of_ble_eq_true rfl, Nat.le_of_ble_eq_true rfl⟩ (Nat.le_of_ble_eq_true rfl) (Nat.le_of_ble_eq_true rfl) (fun H locs hP hD hS => ?_)
  refine lv_icmp_eq (tgt := 1926) hx hb dL_law_611 (by decide) (fun hc => ?_) (fun hc => absurd rfl hc)
  exact again _ _ hR2 _ _ _ hP hD hS hl
set_option maxHeartbeats 8000000 in
set_option maxRecDepth 100000 in
theorem lc_9 (ok9 : ok_weeks F Rel) (cx : Cx p s m #[Value.ref b] meth c cL_law RL 4 rt E A) (hXs : va_X b L xs s s.heap) (hbl : b < s.heap.size) (hbA : ¬ A b) (hin1 : vp_in (nI i + 1) L) (hin2 : vp_in (nI i + 2) L) (hin3 : vp_in (nI i + 3) L) (hin4 : vp_in (nI i + 4) L) (hin5 : vp_in (nI i + 5) L) (ey1 : xs (nI i + 1).toNatClampNeg = y1) (ey2 : xs (nI i + 2).toNatClampNeg = y2) (ey3 : xs (nI i + 3).toNatClampNeg = y3) (ey4 : xs (nI i + 4).toNatClampNeg = y4) (ey5 : xs (nI i + 5).toNatClampNeg = y5) (again : ∀ (S T : vS), Rel S T → ∀ (H : Heap) (locs : List Loc) (ls : Array Slot), va_P E.1 vwCl (wf_X11 E a S ++ wf_X12 E bb T) H → va_D A (wf_X11 E a S ++ wf_X12 E bb T) → va_S A s.heap H locs → lv_has ls 4 [(0, .ref b), (1, .ref (a 0)), (2, .ref (bb 0)), (3, .int (nI i))] → W p l e room_1 s m #[Value.ref b] below meth c H locs 149 20625 QQ (F0 m 1926 ls [])) (hRel : Rel S T) (hP : va_P E.1 vwCl (wf_X11 E a S ++ wf_X12 E bb T) H) (hD : va_D A (wf_X11 E a S ++ wf_X12 E bb T)) (hS : va_S A s.heap H locs) (hl : lv_has ls 4 [(0, .ref b), (1, .ref (a 0)), (2, .ref (bb 0)), (3, .int (nI i))]) : W p l e room_1 s m #[Value.ref b] below meth c H locs 149 20625 QQ (F0 m 616 ls []) := by
  obtain ⟨⟨hx, hb, hml, hown, hts⟩, hr, hlocks, hK, hA, hX⟩ := id cx
  obtain ⟨r, S2, T2, h1, h2, hR2⟩ := ok9 S T y1 hRel
  refine lv_aload_n hx hb dL_law_616 rfl (lv_at hl 1 rfl) ?_
  refine lv_aload_n hx hb dL_law_617 rfl (lv_at hl 0 rfl) ?_
  refine lv_iload_n hx hb dL_law_618 rfl (lv_at hl 3 rfl) ?_
  refine lv_iconst (v := 1) hx hb dL_law_619 (by decide) ?_
  refine lv_iadd hx hb dL_law_620 ?_
  refine va_sld hx hb hXs hbl hbA hS hin1 dL_law_621 ?_
  rw [ey1]
  refine lcallIL (As := [.int y1]) (rest := []) (cxx_weeks l E F a S y1 r S2 h1) cal_X11_weeks cav_X11_weeks lk_L_59 cx hP hD hS hl dL_law_622 rfl rfl rfl rfl (Nat.le_of_ble_eq_true rfl) ⟨Nat.le_of_ble_eq_true rfl, Nat.le_of_ble_eq_true rfl⟩ (Nat.le_of_ble_eq_true rfl) (Nat.le_of_ble_eq_true rfl) (fun H locs hP hD hS => ?_)
  refine lv_aload_n hx hb dL_law_625 rfl (lv_at hl 2 rfl) ?_
  refine lv_aload_n hx hb dL_law_626 rfl (lv_at hl 0 rfl) ?_
  refine lv_iload_n hx hb dL_law_627 rfl (lv_at hl 3 rfl) ?_
  refine lv_iconst (v := 1) hx hb dL_law_628 (by decide) ?_
  refine lv_iadd hx hb dL_law_629 ?_
  refine va_sld hx hb hXs hbl hbA hS hin1 dL_law_630 ?_
  rw [ey1]
  refine lcallIR (As := [.int y1]) (rest := [.int r]) (cxm_weeks l E F bb T y1 r T2 h2) cal_X12_weeks cav_X12_weeks lk_L_62 cx hP hD hS hl dL_law_631 rfl rfl rfl rfl (Nat.le_of_ble_eq_true rfl) ⟨Nat.le_of_ble_eq_true rfl, Nat.le_of_ble_eq_true rfl⟩ (Nat.le_of_ble_eq_true rfl) (Nat.le_of_ble_eq_true rfl) (fun H locs hP hD hS => ?_)
  refine lv_icmp_eq (tgt := 1926) hx hb dL_law_634 (by decide) (fun hc => ?_) (fun hc => absurd rfl hc)
  exact again _ _ hR2 _ _ _ hP hD hS hl
set_option maxHeartbeats 8000000 in
set_option maxRecDepth 100000 in
theorem lc_10 (ok10 : ok_fault F Rel) (cx : Cx p s m #[Value.ref b] meth c cL_law RL 4 rt E A) (hXs : va_X b L xs s s.heap) (hbl : b < s.heap.size) (hbA : ¬ A b) (hin1 : vp_in (nI i + 1) L) (hin2 : vp_in (nI i + 2) L) (hin3 : vp_in (nI i + 3) L) (hin4 : vp_in (nI i + 4) L) (hin5 : vp_in (nI i + 5) L) (ey1 : xs (nI i + 1).toNatClampNeg = y1) (ey2 : xs (nI i + 2).toNatClampNeg = y2) (ey3 : xs (nI i + 3).toNatClampNeg = y3) (ey4 : xs (nI i + 4).toNatClampNeg = y4) (ey5 : xs (nI i + 5).toNatClampNeg = y5) (again : ∀ (S T : vS), Rel S T → ∀ (H : Heap) (locs : List Loc) (ls : Array Slot), va_P E.1 vwCl (wf_X11 E a S ++ wf_X12 E bb T) H → va_D A (wf_X11 E a S ++ wf_X12 E bb T) → va_S A s.heap H locs → lv_has ls 4 [(0, .ref b), (1, .ref (a 0)), (2, .ref (bb 0)), (3, .int (nI i))] → W p l e room_1 s m #[Value.ref b] below meth c H locs 149 20625 QQ (F0 m 1926 ls [])) (hRel : Rel S T) (hP : va_P E.1 vwCl (wf_X11 E a S ++ wf_X12 E bb T) H) (hD : va_D A (wf_X11 E a S ++ wf_X12 E bb T)) (hS : va_S A s.heap H locs) (hl : lv_has ls 4 [(0, .ref b), (1, .ref (a 0)), (2, .ref (bb 0)), (3, .int (nI i))]) : W p l e room_1 s m #[Value.ref b] below meth c H locs 149 20625 QQ (F0 m 639 ls []) := by
  obtain ⟨⟨hx, hb, hml, hown, hts⟩, hr, hlocks, hK, hA, hX⟩ := id cx
  obtain ⟨r, S2, T2, h1, h2, hR2⟩ := ok10 S T y1 hRel
  refine lv_aload_n hx hb dL_law_639 rfl (lv_at hl 1 rfl) ?_
  refine lv_aload_n hx hb dL_law_640 rfl (lv_at hl 0 rfl) ?_
  refine lv_iload_n hx hb dL_law_641 rfl (lv_at hl 3 rfl) ?_
  refine lv_iconst (v := 1) hx hb dL_law_642 (by decide) ?_
  refine lv_iadd hx hb dL_law_643 ?_
  refine va_sld hx hb hXs hbl hbA hS hin1 dL_law_644 ?_
  rw [ey1]
  refine lcallIL (As := [.int y1]) (rest := []) (cxx_fault l E F a S y1 r S2 h1) cal_X11_fault cav_X11_fault lk_L_63 cx hP hD hS hl dL_law_645 rfl rfl rfl rfl (Nat.le_of_ble_eq_true rfl) ⟨Nat.le_of_ble_eq_true rfl, Nat.le_of_ble_eq_true rfl⟩ (Nat.le_of_ble_eq_true rfl) (Nat.le_of_ble_eq_true rfl) (fun H locs hP hD hS => ?_)
  refine lv_aload_n hx hb dL_law_648 rfl (lv_at hl 2 rfl) ?_
  refine lv_aload_n hx hb dL_law_649 rfl (lv_at hl 0 rfl) ?_
  refine lv_iload_n hx hb dL_law_650 rfl (lv_at hl 3 rfl) ?_
  refine lv_iconst (v := 1) hx hb dL_law_651 (by decide) ?_
  refine lv_iadd hx hb dL_law_652 ?_
  refine va_sld hx hb hXs hbl hbA hS hin1 dL_law_653 ?_
  rw [ey1]
  refine lcallIR (As := [.int y1]) (rest := [.int r]) (cxm_fault l E F bb T y1 r T2 h2) cal_X12_fault cav_X12_fault lk_L_66 cx hP hD hS hl dL_law_654 rfl rfl rfl rfl (Nat.le_of_ble_eq_true rfl) ⟨Nat.le_of_ble_eq_true rfl, Nat.le_of_ble_eq_true rfl⟩ (Nat.le_of_ble_eq_true rfl) (Nat.le_of_ble_eq_true rfl) (fun H locs hP hD hS => ?_)
  refine lv_icmp_eq (tgt := 1926) hx hb dL_law_657 (by decide) (fun hc => ?_) (fun hc => absurd rfl hc)
  exact again _ _ hR2 _ _ _ hP hD hS hl
set_option maxHeartbeats 8000000 in
set_option maxRecDepth 100000 in
theorem lc_11 (ok11 : ok_told F Rel) (cx : Cx p s m #[Value.ref b] meth c cL_law RL 4 rt E A) (hXs : va_X b L xs s s.heap) (hbl : b < s.heap.size) (hbA : ¬ A b) (hin1 : vp_in (nI i + 1) L) (hin2 : vp_in (nI i + 2) L) (hin3 : vp_in (nI i + 3) L) (hin4 : vp_in (nI i + 4) L) (hin5 : vp_in (nI i + 5) L) (ey1 : xs (nI i + 1).toNatClampNeg = y1) (ey2 : xs (nI i + 2).toNatClampNeg = y2) (ey3 : xs (nI i + 3).toNatClampNeg = y3) (ey4 : xs (nI i + 4).toNatClampNeg = y4) (ey5 : xs (nI i + 5).toNatClampNeg = y5) (again : ∀ (S T : vS), Rel S T → ∀ (H : Heap) (locs : List Loc) (ls : Array Slot), va_P E.1 vwCl (wf_X11 E a S ++ wf_X12 E bb T) H → va_D A (wf_X11 E a S ++ wf_X12 E bb T) → va_S A s.heap H locs → lv_has ls 4 [(0, .ref b), (1, .ref (a 0)), (2, .ref (bb 0)), (3, .int (nI i))] → W p l e room_1 s m #[Value.ref b] below meth c H locs 149 20625 QQ (F0 m 1926 ls [])) (hRel : Rel S T) (hP : va_P E.1 vwCl (wf_X11 E a S ++ wf_X12 E bb T) H) (hD : va_D A (wf_X11 E a S ++ wf_X12 E bb T)) (hS : va_S A s.heap H locs) (hl : lv_has ls 4 [(0, .ref b), (1, .ref (a 0)), (2, .ref (bb 0)), (3, .int (nI i))]) : W p l e room_1 s m #[Value.ref b] below meth c H locs 149 20625 QQ (F0 m 662 ls []) := by
  obtain ⟨⟨hx, hb, hml, hown, hts⟩, hr, hlocks, hK, hA, hX⟩ := id cx
  obtain ⟨r, S2, T2, h1, h2, hR2⟩ := ok11 S T y1 hRel
  refine lv_aload_n hx hb dL_law_662 rfl (lv_at hl 1 rfl) ?_
  refine lv_aload_n hx hb dL_law_663 rfl (lv_at hl 0 rfl) ?_
  refine lv_iload_n hx hb dL_law_664 rfl (lv_at hl 3 rfl) ?_
  refine lv_iconst (v := 1) hx hb dL_law_665 (by decide) ?_
  refine lv_iadd hx hb dL_law_666 ?_
  refine va_sld hx hb hXs hbl hbA hS hin1 dL_law_667 ?_
  rw [ey1]
  refine lcallIL (As := [.int y1]) (rest := []) (cxx_told l E F a S y1 r S2 h1) cal_X11_told cav_X11_told lk_L_67 cx hP hD hS hl dL_law_668 rfl rfl rfl rfl (Nat.le_of_ble_eq_true rfl) ⟨Nat.le_of_ble_eq_true rfl, Nat.le_of_ble_eq_true rfl⟩ (Nat.le_of_ble_eq_true rfl) (Nat.le_of_ble_eq_true rfl) (fun H locs hP hD hS => ?_)
  refine lv_aload_n hx hb dL_law_671 rfl (lv_at hl 2 rfl) ?_
  refine lv_aload_n hx hb dL_law_672 rfl (lv_at hl 0 rfl) ?_
  refine lv_iload_n hx hb dL_law_673 rfl (lv_at hl 3 rfl) ?_
  refine lv_iconst (v := 1) hx hb dL_law_674 (by decide) ?_
  refine lv_iadd hx hb dL_law_675 ?_
  refine va_sld hx hb hXs hbl hbA hS hin1 dL_law_676 ?_
  rw [ey1]
  refine lcallIR (As := [.int y1]) (rest := [.int r]) (cxm_told l E F bb T y1 r T2 h2) cal_X12_told cav_X12_told lk_L_70 cx hP hD hS hl dL_law_677 rfl rfl rfl rfl (Nat.le_of_ble_eq_true rfl) ⟨Nat.le_of_ble_eq_true rfl, Nat.le_of_ble_eq_true rfl⟩ (Nat.le_of_ble_eq_true rfl) (Nat.le_of_ble_eq_true rfl) (fun H locs hP hD hS => ?_)
  refine lv_icmp_eq (tgt := 1926) hx hb dL_law_680 (by decide) (fun hc => ?_) (fun hc => absurd rfl hc)
  exact again _ _ hR2 _ _ _ hP hD hS hl
set_option maxHeartbeats 8000000 in
set_option maxRecDepth 100000 in
theorem lc_12 (ok12 : ok_extra F Rel) (cx : Cx p s m #[Value.ref b] meth c cL_law RL 4 rt E A) (hXs : va_X b L xs s s.heap) (hbl : b < s.heap.size) (hbA : ¬ A b) (hin1 : vp_in (nI i + 1) L) (hin2 : vp_in (nI i + 2) L) (hin3 : vp_in (nI i + 3) L) (hin4 : vp_in (nI i + 4) L) (hin5 : vp_in (nI i + 5) L) (ey1 : xs (nI i + 1).toNatClampNeg = y1) (ey2 : xs (nI i + 2).toNatClampNeg = y2) (ey3 : xs (nI i + 3).toNatClampNeg = y3) (ey4 : xs (nI i + 4).toNatClampNeg = y4) (ey5 : xs (nI i + 5).toNatClampNeg = y5) (again : ∀ (S T : vS), Rel S T → ∀ (H : Heap) (locs : List Loc) (ls : Array Slot), va_P E.1 vwCl (wf_X11 E a S ++ wf_X12 E bb T) H → va_D A (wf_X11 E a S ++ wf_X12 E bb T) → va_S A s.heap H locs → lv_has ls 4 [(0, .ref b), (1, .ref (a 0)), (2, .ref (bb 0)), (3, .int (nI i))] → W p l e room_1 s m #[Value.ref b] below meth c H locs 149 20625 QQ (F0 m 1926 ls [])) (hRel : Rel S T) (hP : va_P E.1 vwCl (wf_X11 E a S ++ wf_X12 E bb T) H) (hD : va_D A (wf_X11 E a S ++ wf_X12 E bb T)) (hS : va_S A s.heap H locs) (hl : lv_has ls 4 [(0, .ref b), (1, .ref (a 0)), (2, .ref (bb 0)), (3, .int (nI i))]) : W p l e room_1 s m #[Value.ref b] below meth c H locs 149 20625 QQ (F0 m 685 ls []) := by
  obtain ⟨⟨hx, hb, hml, hown, hts⟩, hr, hlocks, hK, hA, hX⟩ := id cx
  obtain ⟨r, S2, T2, h1, h2, hR2⟩ := ok12 S T y1 y2 hRel
  refine lv_aload_n hx hb dL_law_685 rfl (lv_at hl 1 rfl) ?_
  refine lv_aload_n hx hb dL_law_686 rfl (lv_at hl 0 rfl) ?_
  refine lv_iload_n hx hb dL_law_687 rfl (lv_at hl 3 rfl) ?_
  refine lv_iconst (v := 1) hx hb dL_law_688 (by decide) ?_
  refine lv_iadd hx hb dL_law_689 ?_
  refine va_sld hx hb hXs hbl hbA hS hin1 dL_law_690 ?_
  rw [ey1]
  refine lv_aload_n hx hb dL_law_691 rfl (lv_at hl 0 rfl) ?_
  refine lv_iload_n hx hb dL_law_692 rfl (lv_at hl 3 rfl) ?_
  refine lv_iconst (v := 2) hx hb dL_law_693 (by decide) ?_
  refine lv_iadd hx hb dL_law_694 ?_
  refine va_sld hx hb hXs hbl hbA hS hin2 dL_law_695 ?_
  rw [ey2]
  refine lcallIL (As := [.int y1, .int y2]) (rest := []) (cxx_extra l E F a S y1 y2 r S2 h1) cal_X11_extra cav_X11_extra lk_L_71 cx hP hD hS hl dL_law_696 rfl rfl rfl rfl (Nat.le_of_ble_eq_true rfl) ⟨Nat.le_of_ble_eq_true rfl, Nat.le_of_ble_eq_true rfl⟩ (Nat.le_of_ble_eq_true rfl) (Nat.le_of_ble_eq_true rfl) (fun H locs hP hD hS => ?_)
  refine lv_aload_n hx hb dL_law_699 rfl (lv_at hl 2 rfl) ?_
  refine lv_aload_n hx hb dL_law_700 rfl (lv_at hl 0 rfl) ?_
  refine lv_iload_n hx hb dL_law_701 rfl (lv_at hl 3 rfl) ?_
  refine lv_iconst (v := 1) hx hb dL_law_702 (by decide) ?_
  refine lv_iadd hx hb dL_law_703 ?_
  refine va_sld hx hb hXs hbl hbA hS hin1 dL_law_704 ?_
  rw [ey1]
  refine lv_aload_n hx hb dL_law_705 rfl (lv_at hl 0 rfl) ?_
  refine lv_iload_n hx hb dL_law_706 rfl (lv_at hl 3 rfl) ?_
  refine lv_iconst (v := 2) hx hb dL_law_707 (by decide) ?_
  refine lv_iadd hx hb dL_law_708 ?_
  refine va_sld hx hb hXs hbl hbA hS hin2 dL_law_709 ?_
  rw [ey2]
  refine lcallIR (As := [.int y1, .int y2]) (rest := [.int r]) (cxm_extra l E F bb T y1 y2 r T2 h2) cal_X12_extra cav_X12_extra lk_L_75 cx hP hD hS hl dL_law_710 rfl rfl rfl rfl (Nat.le_of_ble_eq_true rfl) ⟨Nat.le_of_ble_eq_true rfl, Nat.le_of_ble_eq_true rfl⟩ (Nat.le_of_ble_eq_true rfl) (Nat.le_of_ble_eq_true rfl) (fun H locs hP hD hS => ?_)
  refine lv_icmp_eq (tgt := 1926) hx hb dL_law_713 (by decide) (fun hc => ?_) (fun hc => absurd rfl hc)
  exact again _ _ hR2 _ _ _ hP hD hS hl
set_option maxHeartbeats 8000000 in
set_option maxRecDepth 100000 in
theorem lc_13 (ok13 : ok_happening F Rel) (cx : Cx p s m #[Value.ref b] meth c cL_law RL 4 rt E A) (hXs : va_X b L xs s s.heap) (hbl : b < s.heap.size) (hbA : ¬ A b) (hin1 : vp_in (nI i + 1) L) (hin2 : vp_in (nI i + 2) L) (hin3 : vp_in (nI i + 3) L) (hin4 : vp_in (nI i + 4) L) (hin5 : vp_in (nI i + 5) L) (ey1 : xs (nI i + 1).toNatClampNeg = y1) (ey2 : xs (nI i + 2).toNatClampNeg = y2) (ey3 : xs (nI i + 3).toNatClampNeg = y3) (ey4 : xs (nI i + 4).toNatClampNeg = y4) (ey5 : xs (nI i + 5).toNatClampNeg = y5) (again : ∀ (S T : vS), Rel S T → ∀ (H : Heap) (locs : List Loc) (ls : Array Slot), va_P E.1 vwCl (wf_X11 E a S ++ wf_X12 E bb T) H → va_D A (wf_X11 E a S ++ wf_X12 E bb T) → va_S A s.heap H locs → lv_has ls 4 [(0, .ref b), (1, .ref (a 0)), (2, .ref (bb 0)), (3, .int (nI i))] → W p l e room_1 s m #[Value.ref b] below meth c H locs 149 20625 QQ (F0 m 1926 ls [])) (hRel : Rel S T) (hP : va_P E.1 vwCl (wf_X11 E a S ++ wf_X12 E bb T) H) (hD : va_D A (wf_X11 E a S ++ wf_X12 E bb T)) (hS : va_S A s.heap H locs) (hl : lv_has ls 4 [(0, .ref b), (1, .ref (a 0)), (2, .ref (bb 0)), (3, .int (nI i))]) : W p l e room_1 s m #[Value.ref b] below meth c H locs 149 20625 QQ (F0 m 718 ls []) := by
  obtain ⟨⟨hx, hb, hml, hown, hts⟩, hr, hlocks, hK, hA, hX⟩ := id cx
  obtain ⟨r, S2, T2, h1, h2, hR2⟩ := ok13 S T y1 y2 hRel
  refine lv_aload_n hx hb dL_law_718 rfl (lv_at hl 1 rfl) ?_
  refine lv_aload_n hx hb dL_law_719 rfl (lv_at hl 0 rfl) ?_
  refine lv_iload_n hx hb dL_law_720 rfl (lv_at hl 3 rfl) ?_
  refine lv_iconst (v := 1) hx hb dL_law_721 (by decide) ?_
  refine lv_iadd hx hb dL_law_722 ?_
  refine va_sld hx hb hXs hbl hbA hS hin1 dL_law_723 ?_
  rw [ey1]
  refine lv_aload_n hx hb dL_law_724 rfl (lv_at hl 0 rfl) ?_
  refine lv_iload_n hx hb dL_law_725 rfl (lv_at hl 3 rfl) ?_
  refine lv_iconst (v := 2) hx hb dL_law_726 (by decide) ?_
  refine lv_iadd hx hb dL_law_727 ?_
  refine va_sld hx hb hXs hbl hbA hS hin2 dL_law_728 ?_
  rw [ey2]
  refine lcallIL (As := [.int y1, .int y2]) (rest := []) (cxx_happening l E F a S y1 y2 r S2 h1) cal_X11_happening cav_X11_happening lk_L_76 cx hP hD hS hl dL_law_729 rfl rfl rfl rfl (Nat.le_of_ble_eq_true rfl) ⟨Nat.le_of_ble_eq_true rfl, Nat.le_of_ble_eq_true rfl⟩ (Nat.le_of_ble_eq_true rfl) (Nat.le_of_ble_eq_true rfl) (fun H locs hP hD hS => ?_)
  refine lv_aload_n hx hb dL_law_732 rfl (lv_at hl 2 rfl) ?_
  refine lv_aload_n hx hb dL_law_733 rfl (lv_at hl 0 rfl) ?_
  refine lv_iload_n hx hb dL_law_734 rfl (lv_at hl 3 rfl) ?_
  refine lv_iconst (v := 1) hx hb dL_law_735 (by decide) ?_
  refine lv_iadd hx hb dL_law_736 ?_
  refine va_sld hx hb hXs hbl hbA hS hin1 dL_law_737 ?_
  rw [ey1]
  refine lv_aload_n hx hb dL_law_738 rfl (lv_at hl 0 rfl) ?_
  refine lv_iload_n hx hb dL_law_739 rfl (lv_at hl 3 rfl) ?_
  refine lv_iconst (v := 2) hx hb dL_law_740 (by decide) ?_
  refine lv_iadd hx hb dL_law_741 ?_
  refine va_sld hx hb hXs hbl hbA hS hin2 dL_law_742 ?_
  rw [ey2]
  refine lcallIR (As := [.int y1, .int y2]) (rest := [.int r]) (cxm_happening l E F bb T y1 y2 r T2 h2) cal_X12_happening cav_X12_happening lk_L_79 cx hP hD hS hl dL_law_743 rfl rfl rfl rfl (Nat.le_of_ble_eq_true rfl) ⟨Nat.le_of_ble_eq_true rfl, Nat.le_of_ble_eq_true rfl⟩ (Nat.le_of_ble_eq_true rfl) (Nat.le_of_ble_eq_true rfl) (fun H locs hP hD hS => ?_)
  refine lv_icmp_eq (tgt := 1926) hx hb dL_law_746 (by decide) (fun hc => ?_) (fun hc => absurd rfl hc)
  exact again _ _ hR2 _ _ _ hP hD hS hl
set_option maxHeartbeats 8000000 in
set_option maxRecDepth 100000 in
theorem lc_14 (ok14 : ok_watcher F Rel) (cx : Cx p s m #[Value.ref b] meth c cL_law RL 4 rt E A) (hXs : va_X b L xs s s.heap) (hbl : b < s.heap.size) (hbA : ¬ A b) (hin1 : vp_in (nI i + 1) L) (hin2 : vp_in (nI i + 2) L) (hin3 : vp_in (nI i + 3) L) (hin4 : vp_in (nI i + 4) L) (hin5 : vp_in (nI i + 5) L) (ey1 : xs (nI i + 1).toNatClampNeg = y1) (ey2 : xs (nI i + 2).toNatClampNeg = y2) (ey3 : xs (nI i + 3).toNatClampNeg = y3) (ey4 : xs (nI i + 4).toNatClampNeg = y4) (ey5 : xs (nI i + 5).toNatClampNeg = y5) (again : ∀ (S T : vS), Rel S T → ∀ (H : Heap) (locs : List Loc) (ls : Array Slot), va_P E.1 vwCl (wf_X11 E a S ++ wf_X12 E bb T) H → va_D A (wf_X11 E a S ++ wf_X12 E bb T) → va_S A s.heap H locs → lv_has ls 4 [(0, .ref b), (1, .ref (a 0)), (2, .ref (bb 0)), (3, .int (nI i))] → W p l e room_1 s m #[Value.ref b] below meth c H locs 149 20625 QQ (F0 m 1926 ls [])) (hRel : Rel S T) (hP : va_P E.1 vwCl (wf_X11 E a S ++ wf_X12 E bb T) H) (hD : va_D A (wf_X11 E a S ++ wf_X12 E bb T)) (hS : va_S A s.heap H locs) (hl : lv_has ls 4 [(0, .ref b), (1, .ref (a 0)), (2, .ref (bb 0)), (3, .int (nI i))]) : W p l e room_1 s m #[Value.ref b] below meth c H locs 149 20625 QQ (F0 m 751 ls []) := by
  obtain ⟨⟨hx, hb, hml, hown, hts⟩, hr, hlocks, hK, hA, hX⟩ := id cx
  obtain ⟨r, S2, T2, h1, h2, hR2⟩ := ok14 S T y1 y2 hRel
  refine lv_aload_n hx hb dL_law_751 rfl (lv_at hl 1 rfl) ?_
  refine lv_aload_n hx hb dL_law_752 rfl (lv_at hl 0 rfl) ?_
  refine lv_iload_n hx hb dL_law_753 rfl (lv_at hl 3 rfl) ?_
  refine lv_iconst (v := 1) hx hb dL_law_754 (by decide) ?_
  refine lv_iadd hx hb dL_law_755 ?_
  refine va_sld hx hb hXs hbl hbA hS hin1 dL_law_756 ?_
  rw [ey1]
  refine lv_aload_n hx hb dL_law_757 rfl (lv_at hl 0 rfl) ?_
  refine lv_iload_n hx hb dL_law_758 rfl (lv_at hl 3 rfl) ?_
  refine lv_iconst (v := 2) hx hb dL_law_759 (by decide) ?_
  refine lv_iadd hx hb dL_law_760 ?_
  refine va_sld hx hb hXs hbl hbA hS hin2 dL_law_761 ?_
  rw [ey2]
  refine lcallIL (As := [.int y1, .int y2]) (rest := []) (cxx_watcher l E F a S y1 y2 r S2 h1) cal_X11_watcher cav_X11_watcher lk_L_80 cx hP hD hS hl dL_law_762 rfl rfl rfl rfl (Nat.le_of_ble_eq_true rfl) ⟨Nat.le_of_ble_eq_true rfl, Nat.le_of_ble_eq_true rfl⟩ (Nat.le_of_ble_eq_true rfl) (Nat.le_of_ble_eq_true rfl) (fun H locs hP hD hS => ?_)
  refine lv_aload_n hx hb dL_law_765 rfl (lv_at hl 2 rfl) ?_
  refine lv_aload_n hx hb dL_law_766 rfl (lv_at hl 0 rfl) ?_
  refine lv_iload_n hx hb dL_law_767 rfl (lv_at hl 3 rfl) ?_
  refine lv_iconst (v := 1) hx hb dL_law_768 (by decide) ?_
  refine lv_iadd hx hb dL_law_769 ?_
  refine va_sld hx hb hXs hbl hbA hS hin1 dL_law_770 ?_
  rw [ey1]
  refine lv_aload_n hx hb dL_law_771 rfl (lv_at hl 0 rfl) ?_
  refine lv_iload_n hx hb dL_law_772 rfl (lv_at hl 3 rfl) ?_
  refine lv_iconst (v := 2) hx hb dL_law_773 (by decide) ?_
  refine lv_iadd hx hb dL_law_774 ?_
  refine va_sld hx hb hXs hbl hbA hS hin2 dL_law_775 ?_
  rw [ey2]
  refine lcallIR (As := [.int y1, .int y2]) (rest := [.int r]) (cxm_watcher l E F bb T y1 y2 r T2 h2) cal_X12_watcher cav_X12_watcher lk_L_83 cx hP hD hS hl dL_law_776 rfl rfl rfl rfl (Nat.le_of_ble_eq_true rfl) ⟨Nat.le_of_ble_eq_true rfl, Nat.le_of_ble_eq_true rfl⟩ (Nat.le_of_ble_eq_true rfl) (Nat.le_of_ble_eq_true rfl) (fun H locs hP hD hS => ?_)
  refine lv_icmp_eq (tgt := 1926) hx hb dL_law_779 (by decide) (fun hc => ?_) (fun hc => absurd rfl hc)
  exact again _ _ hR2 _ _ _ hP hD hS hl
set_option maxHeartbeats 8000000 in
set_option maxRecDepth 100000 in
theorem lc_15 (ok15 : ok_standing F Rel) (cx : Cx p s m #[Value.ref b] meth c cL_law RL 4 rt E A) (hXs : va_X b L xs s s.heap) (hbl : b < s.heap.size) (hbA : ¬ A b) (hin1 : vp_in (nI i + 1) L) (hin2 : vp_in (nI i + 2) L) (hin3 : vp_in (nI i + 3) L) (hin4 : vp_in (nI i + 4) L) (hin5 : vp_in (nI i + 5) L) (ey1 : xs (nI i + 1).toNatClampNeg = y1) (ey2 : xs (nI i + 2).toNatClampNeg = y2) (ey3 : xs (nI i + 3).toNatClampNeg = y3) (ey4 : xs (nI i + 4).toNatClampNeg = y4) (ey5 : xs (nI i + 5).toNatClampNeg = y5) (again : ∀ (S T : vS), Rel S T → ∀ (H : Heap) (locs : List Loc) (ls : Array Slot), va_P E.1 vwCl (wf_X11 E a S ++ wf_X12 E bb T) H → va_D A (wf_X11 E a S ++ wf_X12 E bb T) → va_S A s.heap H locs → lv_has ls 4 [(0, .ref b), (1, .ref (a 0)), (2, .ref (bb 0)), (3, .int (nI i))] → W p l e room_1 s m #[Value.ref b] below meth c H locs 149 20625 QQ (F0 m 1926 ls [])) (hRel : Rel S T) (hP : va_P E.1 vwCl (wf_X11 E a S ++ wf_X12 E bb T) H) (hD : va_D A (wf_X11 E a S ++ wf_X12 E bb T)) (hS : va_S A s.heap H locs) (hl : lv_has ls 4 [(0, .ref b), (1, .ref (a 0)), (2, .ref (bb 0)), (3, .int (nI i))]) : W p l e room_1 s m #[Value.ref b] below meth c H locs 149 20625 QQ (F0 m 784 ls []) := by
  obtain ⟨⟨hx, hb, hml, hown, hts⟩, hr, hlocks, hK, hA, hX⟩ := id cx
  obtain ⟨r, S2, T2, h1, h2, hR2⟩ := ok15 S T y1 hRel
  refine lv_aload_n hx hb dL_law_784 rfl (lv_at hl 1 rfl) ?_
  refine lv_aload_n hx hb dL_law_785 rfl (lv_at hl 0 rfl) ?_
  refine lv_iload_n hx hb dL_law_786 rfl (lv_at hl 3 rfl) ?_
  refine lv_iconst (v := 1) hx hb dL_law_787 (by decide) ?_
  refine lv_iadd hx hb dL_law_788 ?_
  refine va_sld hx hb hXs hbl hbA hS hin1 dL_law_789 ?_
  rw [ey1]
  refine lcallIL (As := [.int y1]) (rest := []) (cxx_standing l E F a S y1 r S2 h1) cal_X11_standing cav_X11_standing lk_L_84 cx hP hD hS hl dL_law_790 rfl rfl rfl rfl (Nat.le_of_ble_eq_true rfl) ⟨Nat.le_of_ble_eq_true rfl, Nat.le_of_ble_eq_true rfl⟩ (Nat.le_of_ble_eq_true rfl) (Nat.le_of_ble_eq_true rfl) (fun H locs hP hD hS => ?_)
  refine lv_aload_n hx hb dL_law_793 rfl (lv_at hl 2 rfl) ?_
  refine lv_aload_n hx hb dL_law_794 rfl (lv_at hl 0 rfl) ?_
  refine lv_iload_n hx hb dL_law_795 rfl (lv_at hl 3 rfl) ?_
  refine lv_iconst (v := 1) hx hb dL_law_796 (by decide) ?_
  refine lv_iadd hx hb dL_law_797 ?_
  refine va_sld hx hb hXs hbl hbA hS hin1 dL_law_798 ?_
  rw [ey1]
  refine lcallIR (As := [.int y1]) (rest := [.int r]) (cxm_standing l E F bb T y1 r T2 h2) cal_X12_standing cav_X12_standing lk_L_87 cx hP hD hS hl dL_law_799 rfl rfl rfl rfl (Nat.le_of_ble_eq_true rfl) ⟨Nat.le_of_ble_eq_true rfl, Nat.le_of_ble_eq_true rfl⟩ (Nat.le_of_ble_eq_true rfl) (Nat.le_of_ble_eq_true rfl) (fun H locs hP hD hS => ?_)
  refine lv_icmp_eq (tgt := 1926) hx hb dL_law_802 (by decide) (fun hc => ?_) (fun hc => absurd rfl hc)
  exact again _ _ hR2 _ _ _ hP hD hS hl
set_option maxHeartbeats 8000000 in
set_option maxRecDepth 100000 in
theorem lc_16 (ok16 : ok_road F Rel) (cx : Cx p s m #[Value.ref b] meth c cL_law RL 4 rt E A) (hXs : va_X b L xs s s.heap) (hbl : b < s.heap.size) (hbA : ¬ A b) (hin1 : vp_in (nI i + 1) L) (hin2 : vp_in (nI i + 2) L) (hin3 : vp_in (nI i + 3) L) (hin4 : vp_in (nI i + 4) L) (hin5 : vp_in (nI i + 5) L) (ey1 : xs (nI i + 1).toNatClampNeg = y1) (ey2 : xs (nI i + 2).toNatClampNeg = y2) (ey3 : xs (nI i + 3).toNatClampNeg = y3) (ey4 : xs (nI i + 4).toNatClampNeg = y4) (ey5 : xs (nI i + 5).toNatClampNeg = y5) (again : ∀ (S T : vS), Rel S T → ∀ (H : Heap) (locs : List Loc) (ls : Array Slot), va_P E.1 vwCl (wf_X11 E a S ++ wf_X12 E bb T) H → va_D A (wf_X11 E a S ++ wf_X12 E bb T) → va_S A s.heap H locs → lv_has ls 4 [(0, .ref b), (1, .ref (a 0)), (2, .ref (bb 0)), (3, .int (nI i))] → W p l e room_1 s m #[Value.ref b] below meth c H locs 149 20625 QQ (F0 m 1926 ls [])) (hRel : Rel S T) (hP : va_P E.1 vwCl (wf_X11 E a S ++ wf_X12 E bb T) H) (hD : va_D A (wf_X11 E a S ++ wf_X12 E bb T)) (hS : va_S A s.heap H locs) (hl : lv_has ls 4 [(0, .ref b), (1, .ref (a 0)), (2, .ref (bb 0)), (3, .int (nI i))]) : W p l e room_1 s m #[Value.ref b] below meth c H locs 149 20625 QQ (F0 m 807 ls []) := by
  obtain ⟨⟨hx, hb, hml, hown, hts⟩, hr, hlocks, hK, hA, hX⟩ := id cx
  obtain ⟨r, S2, T2, h1, h2, hR2⟩ := ok16 S T y1 y2 hRel
  refine lv_aload_n hx hb dL_law_807 rfl (lv_at hl 1 rfl) ?_
  refine lv_aload_n hx hb dL_law_808 rfl (lv_at hl 0 rfl) ?_
  refine lv_iload_n hx hb dL_law_809 rfl (lv_at hl 3 rfl) ?_
  refine lv_iconst (v := 1) hx hb dL_law_810 (by decide) ?_
  refine lv_iadd hx hb dL_law_811 ?_
  refine va_sld hx hb hXs hbl hbA hS hin1 dL_law_812 ?_
  rw [ey1]
  refine lv_aload_n hx hb dL_law_813 rfl (lv_at hl 0 rfl) ?_
  refine lv_iload_n hx hb dL_law_814 rfl (lv_at hl 3 rfl) ?_
  refine lv_iconst (v := 2) hx hb dL_law_815 (by decide) ?_
  refine lv_iadd hx hb dL_law_816 ?_
  refine va_sld hx hb hXs hbl hbA hS hin2 dL_law_817 ?_
  rw [ey2]
  refine lcallIL (As := [.int y1, .int y2]) (rest := []) (cxx_road l E F a S y1 y2 r S2 h1) cal_X11_road cav_X11_road lk_L_88 cx hP hD hS hl dL_law_818 rfl rfl rfl rfl (Nat.le_of_ble_eq_true rfl) ⟨Nat.le_of_ble_eq_true rfl, Nat.le_of_ble_eq_true rfl⟩ (Nat.le_of_ble_eq_true rfl) (Nat.le_of_ble_eq_true rfl) (fun H locs hP hD hS => ?_)
  refine lv_aload_n hx hb dL_law_821 rfl (lv_at hl 2 rfl) ?_
  refine lv_aload_n hx hb dL_law_822 rfl (lv_at hl 0 rfl) ?_
  refine lv_iload_n hx hb dL_law_823 rfl (lv_at hl 3 rfl) ?_
  refine lv_iconst (v := 1) hx hb dL_law_824 (by decide) ?_
  refine lv_iadd hx hb dL_law_825 ?_
  refine va_sld hx hb hXs hbl hbA hS hin1 dL_law_826 ?_
  rw [ey1]
  refine lv_aload_n hx hb dL_law_827 rfl (lv_at hl 0 rfl) ?_
  refine lv_iload_n hx hb dL_law_828 rfl (lv_at hl 3 rfl) ?_
  refine lv_iconst (v := 2) hx hb dL_law_829 (by decide) ?_
  refine lv_iadd hx hb dL_law_830 ?_
  refine va_sld hx hb hXs hbl hbA hS hin2 dL_law_831 ?_
  rw [ey2]
  refine lcallIR (As := [.int y1, .int y2]) (rest := [.int r]) (cxm_road l E F bb T y1 y2 r T2 h2) cal_X12_road cav_X12_road lk_L_91 cx hP hD hS hl dL_law_832 rfl rfl rfl rfl (Nat.le_of_ble_eq_true rfl) ⟨Nat.le_of_ble_eq_true rfl, Nat.le_of_ble_eq_true rfl⟩ (Nat.le_of_ble_eq_true rfl) (Nat.le_of_ble_eq_true rfl) (fun H locs hP hD hS => ?_)
  refine lv_icmp_eq (tgt := 1926) hx hb dL_law_835 (by decide) (fun hc => ?_) (fun hc => absurd rfl hc)
  exact again _ _ hR2 _ _ _ hP hD hS hl
set_option maxHeartbeats 8000000 in
set_option maxRecDepth 100000 in
theorem lc_17 (ok17 : ok_hour F Rel) (cx : Cx p s m #[Value.ref b] meth c cL_law RL 4 rt E A) (hXs : va_X b L xs s s.heap) (hbl : b < s.heap.size) (hbA : ¬ A b) (hin1 : vp_in (nI i + 1) L) (hin2 : vp_in (nI i + 2) L) (hin3 : vp_in (nI i + 3) L) (hin4 : vp_in (nI i + 4) L) (hin5 : vp_in (nI i + 5) L) (ey1 : xs (nI i + 1).toNatClampNeg = y1) (ey2 : xs (nI i + 2).toNatClampNeg = y2) (ey3 : xs (nI i + 3).toNatClampNeg = y3) (ey4 : xs (nI i + 4).toNatClampNeg = y4) (ey5 : xs (nI i + 5).toNatClampNeg = y5) (again : ∀ (S T : vS), Rel S T → ∀ (H : Heap) (locs : List Loc) (ls : Array Slot), va_P E.1 vwCl (wf_X11 E a S ++ wf_X12 E bb T) H → va_D A (wf_X11 E a S ++ wf_X12 E bb T) → va_S A s.heap H locs → lv_has ls 4 [(0, .ref b), (1, .ref (a 0)), (2, .ref (bb 0)), (3, .int (nI i))] → W p l e room_1 s m #[Value.ref b] below meth c H locs 149 20625 QQ (F0 m 1926 ls [])) (hRel : Rel S T) (hP : va_P E.1 vwCl (wf_X11 E a S ++ wf_X12 E bb T) H) (hD : va_D A (wf_X11 E a S ++ wf_X12 E bb T)) (hS : va_S A s.heap H locs) (hl : lv_has ls 4 [(0, .ref b), (1, .ref (a 0)), (2, .ref (bb 0)), (3, .int (nI i))]) : W p l e room_1 s m #[Value.ref b] below meth c H locs 149 20625 QQ (F0 m 840 ls []) := by
  obtain ⟨⟨hx, hb, hml, hown, hts⟩, hr, hlocks, hK, hA, hX⟩ := id cx
  obtain ⟨r, S2, T2, h1, h2, hR2⟩ := ok17 S T y1 hRel
  refine lv_aload_n hx hb dL_law_840 rfl (lv_at hl 1 rfl) ?_
  refine lv_aload_n hx hb dL_law_841 rfl (lv_at hl 0 rfl) ?_
  refine lv_iload_n hx hb dL_law_842 rfl (lv_at hl 3 rfl) ?_
  refine lv_iconst (v := 1) hx hb dL_law_843 (by decide) ?_
  refine lv_iadd hx hb dL_law_844 ?_
  refine va_sld hx hb hXs hbl hbA hS hin1 dL_law_845 ?_
  rw [ey1]
  refine lcallIL (As := [.int y1]) (rest := []) (cxx_hour l E F a S y1 r S2 h1) cal_X11_hour cav_X11_hour lk_L_92 cx hP hD hS hl dL_law_846 rfl rfl rfl rfl (Nat.le_of_ble_eq_true rfl) ⟨Nat.le_of_ble_eq_true rfl, Nat.le_of_ble_eq_true rfl⟩ (Nat.le_of_ble_eq_true rfl) (Nat.le_of_ble_eq_true rfl) (fun H locs hP hD hS => ?_)
  refine lv_aload_n hx hb dL_law_849 rfl (lv_at hl 2 rfl) ?_
  refine lv_aload_n hx hb dL_law_850 rfl (lv_at hl 0 rfl) ?_
  refine lv_iload_n hx hb dL_law_851 rfl (lv_at hl 3 rfl) ?_
  refine lv_iconst (v := 1) hx hb dL_law_852 (by decide) ?_
  refine lv_iadd hx hb dL_law_853 ?_
  refine va_sld hx hb hXs hbl hbA hS hin1 dL_law_854 ?_
  rw [ey1]
  refine lcallIR (As := [.int y1]) (rest := [.int r]) (cxm_hour l E F bb T y1 r T2 h2) cal_X12_hour cav_X12_hour lk_L_95 cx hP hD hS hl dL_law_855 rfl rfl rfl rfl (Nat.le_of_ble_eq_true rfl) ⟨Nat.le_of_ble_eq_true rfl, Nat.le_of_ble_eq_true rfl⟩ (Nat.le_of_ble_eq_true rfl) (Nat.le_of_ble_eq_true rfl) (fun H locs hP hD hS => ?_)
  refine lv_icmp_eq (tgt := 1926) hx hb dL_law_858 (by decide) (fun hc => ?_) (fun hc => absurd rfl hc)
  exact again _ _ hR2 _ _ _ hP hD hS hl
set_option maxHeartbeats 8000000 in
set_option maxRecDepth 100000 in
theorem lc_18 (ok18 : ok_order F Rel) (cx : Cx p s m #[Value.ref b] meth c cL_law RL 4 rt E A) (hXs : va_X b L xs s s.heap) (hbl : b < s.heap.size) (hbA : ¬ A b) (hin1 : vp_in (nI i + 1) L) (hin2 : vp_in (nI i + 2) L) (hin3 : vp_in (nI i + 3) L) (hin4 : vp_in (nI i + 4) L) (hin5 : vp_in (nI i + 5) L) (ey1 : xs (nI i + 1).toNatClampNeg = y1) (ey2 : xs (nI i + 2).toNatClampNeg = y2) (ey3 : xs (nI i + 3).toNatClampNeg = y3) (ey4 : xs (nI i + 4).toNatClampNeg = y4) (ey5 : xs (nI i + 5).toNatClampNeg = y5) (again : ∀ (S T : vS), Rel S T → ∀ (H : Heap) (locs : List Loc) (ls : Array Slot), va_P E.1 vwCl (wf_X11 E a S ++ wf_X12 E bb T) H → va_D A (wf_X11 E a S ++ wf_X12 E bb T) → va_S A s.heap H locs → lv_has ls 4 [(0, .ref b), (1, .ref (a 0)), (2, .ref (bb 0)), (3, .int (nI i))] → W p l e room_1 s m #[Value.ref b] below meth c H locs 149 20625 QQ (F0 m 1926 ls [])) (hRel : Rel S T) (hP : va_P E.1 vwCl (wf_X11 E a S ++ wf_X12 E bb T) H) (hD : va_D A (wf_X11 E a S ++ wf_X12 E bb T)) (hS : va_S A s.heap H locs) (hl : lv_has ls 4 [(0, .ref b), (1, .ref (a 0)), (2, .ref (bb 0)), (3, .int (nI i))]) : W p l e room_1 s m #[Value.ref b] below meth c H locs 149 20625 QQ (F0 m 863 ls []) := by
  obtain ⟨⟨hx, hb, hml, hown, hts⟩, hr, hlocks, hK, hA, hX⟩ := id cx
  by_cases hz : y3 = 0
  · have hnz : ¬ ¬ y3 = 0 := fun q => q hz
    obtain ⟨r, S2, T2, h1, h2, hR2⟩ := ok18 S T y1 y2 0 hRel rfl
    refine lv_aload_n hx hb dL_law_863 rfl (lv_at hl 1 rfl) ?_
    refine lv_aload_n hx hb dL_law_864 rfl (lv_at hl 0 rfl) ?_
    refine lv_iload_n hx hb dL_law_865 rfl (lv_at hl 3 rfl) ?_
    refine lv_iconst (v := 1) hx hb dL_law_866 (by decide) ?_
    refine lv_iadd hx hb dL_law_867 ?_
    refine va_sld hx hb hXs hbl hbA hS hin1 dL_law_868 ?_
    rw [ey1]
    refine lv_aload_n hx hb dL_law_869 rfl (lv_at hl 0 rfl) ?_
    refine lv_iload_n hx hb dL_law_870 rfl (lv_at hl 3 rfl) ?_
    refine lv_iconst (v := 2) hx hb dL_law_871 (by decide) ?_
    refine lv_iadd hx hb dL_law_872 ?_
    refine va_sld hx hb hXs hbl hbA hS hin2 dL_law_873 ?_
    rw [ey2]
    refine lv_aload_n hx hb dL_law_874 rfl (lv_at hl 0 rfl) ?_
    refine lv_iload_n hx hb dL_law_875 rfl (lv_at hl 3 rfl) ?_
    refine lv_iconst (v := 3) hx hb dL_law_876 (by decide) ?_
    refine lv_iadd hx hb dL_law_877 ?_
    refine va_sld hx hb hXs hbl hbA hS hin3 dL_law_878 ?_
    rw [ey3]
    refine lv_if_eq (tgt := 886) hx hb dL_law_879 (by decide) (fun hc => ?_) (fun hc => absurd hz hc)
    refine lv_iconst (v := 0) hx hb dL_law_886 (by decide) ?_
    refine lcallIL (As := [.int y1, .int y2, .int 0]) (rest := []) (cxx_order l E F a S y1 y2 0 r S2 h1) cal_X11_order cav_X11_order lk_L_96 cx hP hD hS hl dL_law_887 rfl rfl rfl rfl (Nat.le_of_ble_eq_true rfl) ⟨Nat.le_of_ble_eq_true rfl, Nat.le_of_ble_eq_true rfl⟩ (Nat.le_of_ble_eq_true rfl) (Nat.le_of_ble_eq_true rfl) (fun H locs hP hD hS => ?_)
    refine lv_aload_n hx hb dL_law_890 rfl (lv_at hl 2 rfl) ?_
    refine lv_aload_n hx hb dL_law_891 rfl (lv_at hl 0 rfl) ?_
    refine lv_iload_n hx hb dL_law_892 rfl (lv_at hl 3 rfl) ?_
    refine lv_iconst (v := 1) hx hb dL_law_893 (by decide) ?_
    refine lv_iadd hx hb dL_law_894 ?_
    refine va_sld hx hb hXs hbl hbA hS hin1 dL_law_895 ?_
    rw [ey1]
    refine lv_aload_n hx hb dL_law_896 rfl (lv_at hl 0 rfl) ?_
    refine lv_iload_n hx hb dL_law_897 rfl (lv_at hl 3 rfl) ?_
    refine lv_iconst (v := 2) hx hb dL_law_898 (by decide) ?_
    refine lv_iadd hx hb dL_law_899 ?_
    refine va_sld hx hb hXs hbl hbA hS hin2 dL_law_900 ?_
    rw [ey2]
    refine lv_aload_n hx hb dL_law_901 rfl (lv_at hl 0 rfl) ?_
    refine lv_iload_n hx hb dL_law_902 rfl (lv_at hl 3 rfl) ?_
    refine lv_iconst (v := 3) hx hb dL_law_903 (by decide) ?_
    refine lv_iadd hx hb dL_law_904 ?_
    refine va_sld hx hb hXs hbl hbA hS hin3 dL_law_905 ?_
    rw [ey3]
    refine lv_if_eq (tgt := 913) hx hb dL_law_906 (by decide) (fun hc => ?_) (fun hc => absurd hz hc)
    refine lv_iconst (v := 0) hx hb dL_law_913 (by decide) ?_
    refine lcallIR (As := [.int y1, .int y2, .int 0]) (rest := [.int r]) (cxm_order l E F bb T y1 y2 0 r T2 h2) cal_X12_order cav_X12_order lk_L_100 cx hP hD hS hl dL_law_914 rfl rfl rfl rfl (Nat.le_of_ble_eq_true rfl) ⟨Nat.le_of_ble_eq_true rfl, Nat.le_of_ble_eq_true rfl⟩ (Nat.le_of_ble_eq_true rfl) (Nat.le_of_ble_eq_true rfl) (fun H locs hP hD hS => ?_)
    refine lv_icmp_eq (tgt := 1926) hx hb dL_law_917 (by decide) (fun hc => ?_) (fun hc => absurd rfl hc)
    exact again _ _ hR2 _ _ _ hP hD hS hl
  · have hnz : ¬ y3 = 0 := hz
    obtain ⟨r, S2, T2, h1, h2, hR2⟩ := ok18 S T y1 y2 1 hRel rfl
    refine lv_aload_n hx hb dL_law_863 rfl (lv_at hl 1 rfl) ?_
    refine lv_aload_n hx hb dL_law_864 rfl (lv_at hl 0 rfl) ?_
    refine lv_iload_n hx hb dL_law_865 rfl (lv_at hl 3 rfl) ?_
    refine lv_iconst (v := 1) hx hb dL_law_866 (by decide) ?_
    refine lv_iadd hx hb dL_law_867 ?_
    refine va_sld hx hb hXs hbl hbA hS hin1 dL_law_868 ?_
    rw [ey1]
    refine lv_aload_n hx hb dL_law_869 rfl (lv_at hl 0 rfl) ?_
    refine lv_iload_n hx hb dL_law_870 rfl (lv_at hl 3 rfl) ?_
    refine lv_iconst (v := 2) hx hb dL_law_871 (by decide) ?_
    refine lv_iadd hx hb dL_law_872 ?_
    refine va_sld hx hb hXs hbl hbA hS hin2 dL_law_873 ?_
    rw [ey2]
    refine lv_aload_n hx hb dL_law_874 rfl (lv_at hl 0 rfl) ?_
    refine lv_iload_n hx hb dL_law_875 rfl (lv_at hl 3 rfl) ?_
    refine lv_iconst (v := 3) hx hb dL_law_876 (by decide) ?_
    refine lv_iadd hx hb dL_law_877 ?_
    refine va_sld hx hb hXs hbl hbA hS hin3 dL_law_878 ?_
    rw [ey3]
    refine lv_if_eq (tgt := 886) hx hb dL_law_879 (by decide) (fun hc => absurd hc hnz) (fun hc => ?_)
    refine lv_iconst (v := 1) hx hb dL_law_882 (by decide) ?_
    refine lv_goto (tgt := 887) hx hb dL_law_883 (by decide) ?_
    refine lcallIL (As := [.int y1, .int y2, .int 1]) (rest := []) (cxx_order l E F a S y1 y2 1 r S2 h1) cal_X11_order cav_X11_order lk_L_96 cx hP hD hS hl dL_law_887 rfl rfl rfl rfl (Nat.le_of_ble_eq_true rfl) ⟨Nat.le_of_ble_eq_true rfl, Nat.le_of_ble_eq_true rfl⟩ (Nat.le_of_ble_eq_true rfl) (Nat.le_of_ble_eq_true rfl) (fun H locs hP hD hS => ?_)
    refine lv_aload_n hx hb dL_law_890 rfl (lv_at hl 2 rfl) ?_
    refine lv_aload_n hx hb dL_law_891 rfl (lv_at hl 0 rfl) ?_
    refine lv_iload_n hx hb dL_law_892 rfl (lv_at hl 3 rfl) ?_
    refine lv_iconst (v := 1) hx hb dL_law_893 (by decide) ?_
    refine lv_iadd hx hb dL_law_894 ?_
    refine va_sld hx hb hXs hbl hbA hS hin1 dL_law_895 ?_
    rw [ey1]
    refine lv_aload_n hx hb dL_law_896 rfl (lv_at hl 0 rfl) ?_
    refine lv_iload_n hx hb dL_law_897 rfl (lv_at hl 3 rfl) ?_
    refine lv_iconst (v := 2) hx hb dL_law_898 (by decide) ?_
    refine lv_iadd hx hb dL_law_899 ?_
    refine va_sld hx hb hXs hbl hbA hS hin2 dL_law_900 ?_
    rw [ey2]
    refine lv_aload_n hx hb dL_law_901 rfl (lv_at hl 0 rfl) ?_
    refine lv_iload_n hx hb dL_law_902 rfl (lv_at hl 3 rfl) ?_
    refine lv_iconst (v := 3) hx hb dL_law_903 (by decide) ?_
    refine lv_iadd hx hb dL_law_904 ?_
    refine va_sld hx hb hXs hbl hbA hS hin3 dL_law_905 ?_
    rw [ey3]
    refine lv_if_eq (tgt := 913) hx hb dL_law_906 (by decide) (fun hc => absurd hc hnz) (fun hc => ?_)
    refine lv_iconst (v := 1) hx hb dL_law_909 (by decide) ?_
    refine lv_goto (tgt := 914) hx hb dL_law_910 (by decide) ?_
    refine lcallIR (As := [.int y1, .int y2, .int 1]) (rest := [.int r]) (cxm_order l E F bb T y1 y2 1 r T2 h2) cal_X12_order cav_X12_order lk_L_100 cx hP hD hS hl dL_law_914 rfl rfl rfl rfl (Nat.le_of_ble_eq_true rfl) ⟨Nat.le_of_ble_eq_true rfl, Nat.le_of_ble_eq_true rfl⟩ (Nat.le_of_ble_eq_true rfl) (Nat.le_of_ble_eq_true rfl) (fun H locs hP hD hS => ?_)
    refine lv_icmp_eq (tgt := 1926) hx hb dL_law_917 (by decide) (fun hc => ?_) (fun hc => absurd rfl hc)
    exact again _ _ hR2 _ _ _ hP hD hS hl
set_option maxHeartbeats 8000000 in
set_option maxRecDepth 100000 in
theorem lc_19 (ok19 : ok_put F Rel) (cx : Cx p s m #[Value.ref b] meth c cL_law RL 4 rt E A) (hXs : va_X b L xs s s.heap) (hbl : b < s.heap.size) (hbA : ¬ A b) (hin1 : vp_in (nI i + 1) L) (hin2 : vp_in (nI i + 2) L) (hin3 : vp_in (nI i + 3) L) (hin4 : vp_in (nI i + 4) L) (hin5 : vp_in (nI i + 5) L) (ey1 : xs (nI i + 1).toNatClampNeg = y1) (ey2 : xs (nI i + 2).toNatClampNeg = y2) (ey3 : xs (nI i + 3).toNatClampNeg = y3) (ey4 : xs (nI i + 4).toNatClampNeg = y4) (ey5 : xs (nI i + 5).toNatClampNeg = y5) (again : ∀ (S T : vS), Rel S T → ∀ (H : Heap) (locs : List Loc) (ls : Array Slot), va_P E.1 vwCl (wf_X11 E a S ++ wf_X12 E bb T) H → va_D A (wf_X11 E a S ++ wf_X12 E bb T) → va_S A s.heap H locs → lv_has ls 4 [(0, .ref b), (1, .ref (a 0)), (2, .ref (bb 0)), (3, .int (nI i))] → W p l e room_1 s m #[Value.ref b] below meth c H locs 149 20625 QQ (F0 m 1926 ls [])) (hRel : Rel S T) (hP : va_P E.1 vwCl (wf_X11 E a S ++ wf_X12 E bb T) H) (hD : va_D A (wf_X11 E a S ++ wf_X12 E bb T)) (hS : va_S A s.heap H locs) (hl : lv_has ls 4 [(0, .ref b), (1, .ref (a 0)), (2, .ref (bb 0)), (3, .int (nI i))]) : W p l e room_1 s m #[Value.ref b] below meth c H locs 149 20625 QQ (F0 m 922 ls []) := by
  obtain ⟨⟨hx, hb, hml, hown, hts⟩, hr, hlocks, hK, hA, hX⟩ := id cx
  obtain ⟨r, S2, T2, h1, h2, hR2⟩ := ok19 S T y1 y2 hRel
  refine lv_aload_n hx hb dL_law_922 rfl (lv_at hl 1 rfl) ?_
  refine lv_aload_n hx hb dL_law_923 rfl (lv_at hl 0 rfl) ?_
  refine lv_iload_n hx hb dL_law_924 rfl (lv_at hl 3 rfl) ?_
  refine lv_iconst (v := 1) hx hb dL_law_925 (by decide) ?_
  refine lv_iadd hx hb dL_law_926 ?_
  refine va_sld hx hb hXs hbl hbA hS hin1 dL_law_927 ?_
  rw [ey1]
  refine lv_aload_n hx hb dL_law_928 rfl (lv_at hl 0 rfl) ?_
  refine lv_iload_n hx hb dL_law_929 rfl (lv_at hl 3 rfl) ?_
  refine lv_iconst (v := 2) hx hb dL_law_930 (by decide) ?_
  refine lv_iadd hx hb dL_law_931 ?_
  refine va_sld hx hb hXs hbl hbA hS hin2 dL_law_932 ?_
  rw [ey2]
  refine lcallIL (As := [.int y1, .int y2]) (rest := []) (cxx_put l E F a S y1 y2 r S2 h1) cal_X11_put cav_X11_put lk_L_101 cx hP hD hS hl dL_law_933 rfl rfl rfl rfl (Nat.le_of_ble_eq_true rfl) ⟨Nat.le_of_ble_eq_true rfl, Nat.le_of_ble_eq_true rfl⟩ (Nat.le_of_ble_eq_true rfl) (Nat.le_of_ble_eq_true rfl) (fun H locs hP hD hS => ?_)
  refine lv_aload_n hx hb dL_law_936 rfl (lv_at hl 2 rfl) ?_
  refine lv_aload_n hx hb dL_law_937 rfl (lv_at hl 0 rfl) ?_
  refine lv_iload_n hx hb dL_law_938 rfl (lv_at hl 3 rfl) ?_
  refine lv_iconst (v := 1) hx hb dL_law_939 (by decide) ?_
  refine lv_iadd hx hb dL_law_940 ?_
  refine va_sld hx hb hXs hbl hbA hS hin1 dL_law_941 ?_
  rw [ey1]
  refine lv_aload_n hx hb dL_law_942 rfl (lv_at hl 0 rfl) ?_
  refine lv_iload_n hx hb dL_law_943 rfl (lv_at hl 3 rfl) ?_
  refine lv_iconst (v := 2) hx hb dL_law_944 (by decide) ?_
  refine lv_iadd hx hb dL_law_945 ?_
  refine va_sld hx hb hXs hbl hbA hS hin2 dL_law_946 ?_
  rw [ey2]
  refine lcallIR (As := [.int y1, .int y2]) (rest := [.int r]) (cxm_put l E F bb T y1 y2 r T2 h2) cal_X12_put cav_X12_put lk_L_104 cx hP hD hS hl dL_law_947 rfl rfl rfl rfl (Nat.le_of_ble_eq_true rfl) ⟨Nat.le_of_ble_eq_true rfl, Nat.le_of_ble_eq_true rfl⟩ (Nat.le_of_ble_eq_true rfl) (Nat.le_of_ble_eq_true rfl) (fun H locs hP hD hS => ?_)
  refine lv_icmp_eq (tgt := 1926) hx hb dL_law_950 (by decide) (fun hc => ?_) (fun hc => absurd rfl hc)
  exact again _ _ hR2 _ _ _ hP hD hS hl
set_option maxHeartbeats 8000000 in
set_option maxRecDepth 100000 in
theorem lc_20 (ok20 : ok_raise F Rel) (cx : Cx p s m #[Value.ref b] meth c cL_law RL 4 rt E A) (hXs : va_X b L xs s s.heap) (hbl : b < s.heap.size) (hbA : ¬ A b) (hin1 : vp_in (nI i + 1) L) (hin2 : vp_in (nI i + 2) L) (hin3 : vp_in (nI i + 3) L) (hin4 : vp_in (nI i + 4) L) (hin5 : vp_in (nI i + 5) L) (ey1 : xs (nI i + 1).toNatClampNeg = y1) (ey2 : xs (nI i + 2).toNatClampNeg = y2) (ey3 : xs (nI i + 3).toNatClampNeg = y3) (ey4 : xs (nI i + 4).toNatClampNeg = y4) (ey5 : xs (nI i + 5).toNatClampNeg = y5) (again : ∀ (S T : vS), Rel S T → ∀ (H : Heap) (locs : List Loc) (ls : Array Slot), va_P E.1 vwCl (wf_X11 E a S ++ wf_X12 E bb T) H → va_D A (wf_X11 E a S ++ wf_X12 E bb T) → va_S A s.heap H locs → lv_has ls 4 [(0, .ref b), (1, .ref (a 0)), (2, .ref (bb 0)), (3, .int (nI i))] → W p l e room_1 s m #[Value.ref b] below meth c H locs 149 20625 QQ (F0 m 1926 ls [])) (hRel : Rel S T) (hP : va_P E.1 vwCl (wf_X11 E a S ++ wf_X12 E bb T) H) (hD : va_D A (wf_X11 E a S ++ wf_X12 E bb T)) (hS : va_S A s.heap H locs) (hl : lv_has ls 4 [(0, .ref b), (1, .ref (a 0)), (2, .ref (bb 0)), (3, .int (nI i))]) : W p l e room_1 s m #[Value.ref b] below meth c H locs 149 20625 QQ (F0 m 955 ls []) := by
  obtain ⟨⟨hx, hb, hml, hown, hts⟩, hr, hlocks, hK, hA, hX⟩ := id cx
  obtain ⟨r, S2, T2, h1, h2, hR2⟩ := ok20 S T y1 y2 hRel
  refine lv_aload_n hx hb dL_law_955 rfl (lv_at hl 1 rfl) ?_
  refine lv_aload_n hx hb dL_law_956 rfl (lv_at hl 0 rfl) ?_
  refine lv_iload_n hx hb dL_law_957 rfl (lv_at hl 3 rfl) ?_
  refine lv_iconst (v := 1) hx hb dL_law_958 (by decide) ?_
  refine lv_iadd hx hb dL_law_959 ?_
  refine va_sld hx hb hXs hbl hbA hS hin1 dL_law_960 ?_
  rw [ey1]
  refine lv_aload_n hx hb dL_law_961 rfl (lv_at hl 0 rfl) ?_
  refine lv_iload_n hx hb dL_law_962 rfl (lv_at hl 3 rfl) ?_
  refine lv_iconst (v := 2) hx hb dL_law_963 (by decide) ?_
  refine lv_iadd hx hb dL_law_964 ?_
  refine va_sld hx hb hXs hbl hbA hS hin2 dL_law_965 ?_
  rw [ey2]
  refine lcallIL (As := [.int y1, .int y2]) (rest := []) (cxx_raise l E F a S y1 y2 r S2 h1) cal_X11_raise cav_X11_raise lk_L_105 cx hP hD hS hl dL_law_966 rfl rfl rfl rfl (Nat.le_of_ble_eq_true rfl) ⟨Nat.le_of_ble_eq_true rfl, Nat.le_of_ble_eq_true rfl⟩ (Nat.le_of_ble_eq_true rfl) (Nat.le_of_ble_eq_true rfl) (fun H locs hP hD hS => ?_)
  refine lv_aload_n hx hb dL_law_969 rfl (lv_at hl 2 rfl) ?_
  refine lv_aload_n hx hb dL_law_970 rfl (lv_at hl 0 rfl) ?_
  refine lv_iload_n hx hb dL_law_971 rfl (lv_at hl 3 rfl) ?_
  refine lv_iconst (v := 1) hx hb dL_law_972 (by decide) ?_
  refine lv_iadd hx hb dL_law_973 ?_
  refine va_sld hx hb hXs hbl hbA hS hin1 dL_law_974 ?_
  rw [ey1]
  refine lv_aload_n hx hb dL_law_975 rfl (lv_at hl 0 rfl) ?_
  refine lv_iload_n hx hb dL_law_976 rfl (lv_at hl 3 rfl) ?_
  refine lv_iconst (v := 2) hx hb dL_law_977 (by decide) ?_
  refine lv_iadd hx hb dL_law_978 ?_
  refine va_sld hx hb hXs hbl hbA hS hin2 dL_law_979 ?_
  rw [ey2]
  refine lcallIR (As := [.int y1, .int y2]) (rest := [.int r]) (cxm_raise l E F bb T y1 y2 r T2 h2) cal_X12_raise cav_X12_raise lk_L_109 cx hP hD hS hl dL_law_980 rfl rfl rfl rfl (Nat.le_of_ble_eq_true rfl) ⟨Nat.le_of_ble_eq_true rfl, Nat.le_of_ble_eq_true rfl⟩ (Nat.le_of_ble_eq_true rfl) (Nat.le_of_ble_eq_true rfl) (fun H locs hP hD hS => ?_)
  refine lv_icmp_eq (tgt := 1926) hx hb dL_law_983 (by decide) (fun hc => ?_) (fun hc => absurd rfl hc)
  exact again _ _ hR2 _ _ _ hP hD hS hl
set_option maxHeartbeats 8000000 in
set_option maxRecDepth 100000 in
theorem lc_21 (ok21 : ok_plan F Rel) (cx : Cx p s m #[Value.ref b] meth c cL_law RL 4 rt E A) (hXs : va_X b L xs s s.heap) (hbl : b < s.heap.size) (hbA : ¬ A b) (hin1 : vp_in (nI i + 1) L) (hin2 : vp_in (nI i + 2) L) (hin3 : vp_in (nI i + 3) L) (hin4 : vp_in (nI i + 4) L) (hin5 : vp_in (nI i + 5) L) (ey1 : xs (nI i + 1).toNatClampNeg = y1) (ey2 : xs (nI i + 2).toNatClampNeg = y2) (ey3 : xs (nI i + 3).toNatClampNeg = y3) (ey4 : xs (nI i + 4).toNatClampNeg = y4) (ey5 : xs (nI i + 5).toNatClampNeg = y5) (again : ∀ (S T : vS), Rel S T → ∀ (H : Heap) (locs : List Loc) (ls : Array Slot), va_P E.1 vwCl (wf_X11 E a S ++ wf_X12 E bb T) H → va_D A (wf_X11 E a S ++ wf_X12 E bb T) → va_S A s.heap H locs → lv_has ls 4 [(0, .ref b), (1, .ref (a 0)), (2, .ref (bb 0)), (3, .int (nI i))] → W p l e room_1 s m #[Value.ref b] below meth c H locs 149 20625 QQ (F0 m 1926 ls [])) (hRel : Rel S T) (hP : va_P E.1 vwCl (wf_X11 E a S ++ wf_X12 E bb T) H) (hD : va_D A (wf_X11 E a S ++ wf_X12 E bb T)) (hS : va_S A s.heap H locs) (hl : lv_has ls 4 [(0, .ref b), (1, .ref (a 0)), (2, .ref (bb 0)), (3, .int (nI i))]) : W p l e room_1 s m #[Value.ref b] below meth c H locs 149 20625 QQ (F0 m 988 ls []) := by
  obtain ⟨⟨hx, hb, hml, hown, hts⟩, hr, hlocks, hK, hA, hX⟩ := id cx
  obtain ⟨r, S2, T2, h1, h2, hR2⟩ := ok21 S T y1 y2 y3 hRel
  refine lv_aload_n hx hb dL_law_988 rfl (lv_at hl 1 rfl) ?_
  refine lv_aload_n hx hb dL_law_989 rfl (lv_at hl 0 rfl) ?_
  refine lv_iload_n hx hb dL_law_990 rfl (lv_at hl 3 rfl) ?_
  refine lv_iconst (v := 1) hx hb dL_law_991 (by decide) ?_
  refine lv_iadd hx hb dL_law_992 ?_
  refine va_sld hx hb hXs hbl hbA hS hin1 dL_law_993 ?_
  rw [ey1]
  refine lv_aload_n hx hb dL_law_994 rfl (lv_at hl 0 rfl) ?_
  refine lv_iload_n hx hb dL_law_995 rfl (lv_at hl 3 rfl) ?_
  refine lv_iconst (v := 2) hx hb dL_law_996 (by decide) ?_
  refine lv_iadd hx hb dL_law_997 ?_
  refine va_sld hx hb hXs hbl hbA hS hin2 dL_law_998 ?_
  rw [ey2]
  refine lv_aload_n hx hb dL_law_999 rfl (lv_at hl 0 rfl) ?_
  refine lv_iload_n hx hb dL_law_1000 rfl (lv_at hl 3 rfl) ?_
  refine lv_iconst (v := 3) hx hb dL_law_1001 (by decide) ?_
  refine lv_iadd hx hb dL_law_1002 ?_
  refine va_sld hx hb hXs hbl hbA hS hin3 dL_law_1003 ?_
  rw [ey3]
  refine lcallIL (As := [.int y1, .int y2, .int y3]) (rest := []) (cxx_plan l E F a S y1 y2 y3 r S2 h1) cal_X11_plan cav_X11_plan lk_L_110 cx hP hD hS hl dL_law_1004 rfl rfl rfl rfl (Nat.le_of_ble_eq_true rfl) ⟨Nat.le_of_ble_eq_true rfl, Nat.le_of_ble_eq_true rfl⟩ (Nat.le_of_ble_eq_true rfl) (Nat.le_of_ble_eq_true rfl) (fun H locs hP hD hS => ?_)
  refine lv_aload_n hx hb dL_law_1007 rfl (lv_at hl 2 rfl) ?_
  refine lv_aload_n hx hb dL_law_1008 rfl (lv_at hl 0 rfl) ?_
  refine lv_iload_n hx hb dL_law_1009 rfl (lv_at hl 3 rfl) ?_
  refine lv_iconst (v := 1) hx hb dL_law_1010 (by decide) ?_
  refine lv_iadd hx hb dL_law_1011 ?_
  refine va_sld hx hb hXs hbl hbA hS hin1 dL_law_1012 ?_
  rw [ey1]
  refine lv_aload_n hx hb dL_law_1013 rfl (lv_at hl 0 rfl) ?_
  refine lv_iload_n hx hb dL_law_1014 rfl (lv_at hl 3 rfl) ?_
  refine lv_iconst (v := 2) hx hb dL_law_1015 (by decide) ?_
  refine lv_iadd hx hb dL_law_1016 ?_
  refine va_sld hx hb hXs hbl hbA hS hin2 dL_law_1017 ?_
  rw [ey2]
  refine lv_aload_n hx hb dL_law_1018 rfl (lv_at hl 0 rfl) ?_
  refine lv_iload_n hx hb dL_law_1019 rfl (lv_at hl 3 rfl) ?_
  refine lv_iconst (v := 3) hx hb dL_law_1020 (by decide) ?_
  refine lv_iadd hx hb dL_law_1021 ?_
  refine va_sld hx hb hXs hbl hbA hS hin3 dL_law_1022 ?_
  rw [ey3]
  refine lcallIR (As := [.int y1, .int y2, .int y3]) (rest := [.int r]) (cxm_plan l E F bb T y1 y2 y3 r T2 h2) cal_X12_plan cav_X12_plan lk_L_114 cx hP hD hS hl dL_law_1023 rfl rfl rfl rfl (Nat.le_of_ble_eq_true rfl) ⟨Nat.le_of_ble_eq_true rfl, Nat.le_of_ble_eq_true rfl⟩ (Nat.le_of_ble_eq_true rfl) (Nat.le_of_ble_eq_true rfl) (fun H locs hP hD hS => ?_)
  refine lv_icmp_eq (tgt := 1926) hx hb dL_law_1026 (by decide) (fun hc => ?_) (fun hc => absurd rfl hc)
  exact again _ _ hR2 _ _ _ hP hD hS hl
set_option maxHeartbeats 8000000 in
set_option maxRecDepth 100000 in
theorem lc_22 (ok22 : ok_bear F Rel) (cx : Cx p s m #[Value.ref b] meth c cL_law RL 4 rt E A) (hXs : va_X b L xs s s.heap) (hbl : b < s.heap.size) (hbA : ¬ A b) (hin1 : vp_in (nI i + 1) L) (hin2 : vp_in (nI i + 2) L) (hin3 : vp_in (nI i + 3) L) (hin4 : vp_in (nI i + 4) L) (hin5 : vp_in (nI i + 5) L) (ey1 : xs (nI i + 1).toNatClampNeg = y1) (ey2 : xs (nI i + 2).toNatClampNeg = y2) (ey3 : xs (nI i + 3).toNatClampNeg = y3) (ey4 : xs (nI i + 4).toNatClampNeg = y4) (ey5 : xs (nI i + 5).toNatClampNeg = y5) (again : ∀ (S T : vS), Rel S T → ∀ (H : Heap) (locs : List Loc) (ls : Array Slot), va_P E.1 vwCl (wf_X11 E a S ++ wf_X12 E bb T) H → va_D A (wf_X11 E a S ++ wf_X12 E bb T) → va_S A s.heap H locs → lv_has ls 4 [(0, .ref b), (1, .ref (a 0)), (2, .ref (bb 0)), (3, .int (nI i))] → W p l e room_1 s m #[Value.ref b] below meth c H locs 149 20625 QQ (F0 m 1926 ls [])) (hRel : Rel S T) (hP : va_P E.1 vwCl (wf_X11 E a S ++ wf_X12 E bb T) H) (hD : va_D A (wf_X11 E a S ++ wf_X12 E bb T)) (hS : va_S A s.heap H locs) (hl : lv_has ls 4 [(0, .ref b), (1, .ref (a 0)), (2, .ref (bb 0)), (3, .int (nI i))]) : W p l e room_1 s m #[Value.ref b] below meth c H locs 149 20625 QQ (F0 m 1031 ls []) := by
  obtain ⟨⟨hx, hb, hml, hown, hts⟩, hr, hlocks, hK, hA, hX⟩ := id cx
  obtain ⟨r, S2, T2, h1, h2, hR2⟩ := ok22 S T y1 hRel
  refine lv_aload_n hx hb dL_law_1031 rfl (lv_at hl 1 rfl) ?_
  refine lv_aload_n hx hb dL_law_1032 rfl (lv_at hl 0 rfl) ?_
  refine lv_iload_n hx hb dL_law_1033 rfl (lv_at hl 3 rfl) ?_
  refine lv_iconst (v := 1) hx hb dL_law_1034 (by decide) ?_
  refine lv_iadd hx hb dL_law_1035 ?_
  refine va_sld hx hb hXs hbl hbA hS hin1 dL_law_1036 ?_
  rw [ey1]
  refine lcallIL (As := [.int y1]) (rest := []) (cxx_bear l E F a S y1 r S2 h1) cal_X11_bear cav_X11_bear lk_L_115 cx hP hD hS hl dL_law_1037 rfl rfl rfl rfl (Nat.le_of_ble_eq_true rfl) ⟨Nat.le_of_ble_eq_true rfl, Nat.le_of_ble_eq_true rfl⟩ (Nat.le_of_ble_eq_true rfl) (Nat.le_of_ble_eq_true rfl) (fun H locs hP hD hS => ?_)
  refine lv_aload_n hx hb dL_law_1040 rfl (lv_at hl 2 rfl) ?_
  refine lv_aload_n hx hb dL_law_1041 rfl (lv_at hl 0 rfl) ?_
  refine lv_iload_n hx hb dL_law_1042 rfl (lv_at hl 3 rfl) ?_
  refine lv_iconst (v := 1) hx hb dL_law_1043 (by decide) ?_
  refine lv_iadd hx hb dL_law_1044 ?_
  refine va_sld hx hb hXs hbl hbA hS hin1 dL_law_1045 ?_
  rw [ey1]
  refine lcallIR (As := [.int y1]) (rest := [.int r]) (cxm_bear l E F bb T y1 r T2 h2) cal_X12_bear cav_X12_bear lk_L_118 cx hP hD hS hl dL_law_1046 rfl rfl rfl rfl (Nat.le_of_ble_eq_true rfl) ⟨Nat.le_of_ble_eq_true rfl, Nat.le_of_ble_eq_true rfl⟩ (Nat.le_of_ble_eq_true rfl) (Nat.le_of_ble_eq_true rfl) (fun H locs hP hD hS => ?_)
  refine lv_icmp_eq (tgt := 1926) hx hb dL_law_1049 (by decide) (fun hc => ?_) (fun hc => absurd rfl hc)
  exact again _ _ hR2 _ _ _ hP hD hS hl
set_option maxHeartbeats 8000000 in
set_option maxRecDepth 100000 in
theorem lc_23 (ok23 : ok_post F Rel) (cx : Cx p s m #[Value.ref b] meth c cL_law RL 4 rt E A) (hXs : va_X b L xs s s.heap) (hbl : b < s.heap.size) (hbA : ¬ A b) (hin1 : vp_in (nI i + 1) L) (hin2 : vp_in (nI i + 2) L) (hin3 : vp_in (nI i + 3) L) (hin4 : vp_in (nI i + 4) L) (hin5 : vp_in (nI i + 5) L) (ey1 : xs (nI i + 1).toNatClampNeg = y1) (ey2 : xs (nI i + 2).toNatClampNeg = y2) (ey3 : xs (nI i + 3).toNatClampNeg = y3) (ey4 : xs (nI i + 4).toNatClampNeg = y4) (ey5 : xs (nI i + 5).toNatClampNeg = y5) (again : ∀ (S T : vS), Rel S T → ∀ (H : Heap) (locs : List Loc) (ls : Array Slot), va_P E.1 vwCl (wf_X11 E a S ++ wf_X12 E bb T) H → va_D A (wf_X11 E a S ++ wf_X12 E bb T) → va_S A s.heap H locs → lv_has ls 4 [(0, .ref b), (1, .ref (a 0)), (2, .ref (bb 0)), (3, .int (nI i))] → W p l e room_1 s m #[Value.ref b] below meth c H locs 149 20625 QQ (F0 m 1926 ls [])) (hRel : Rel S T) (hP : va_P E.1 vwCl (wf_X11 E a S ++ wf_X12 E bb T) H) (hD : va_D A (wf_X11 E a S ++ wf_X12 E bb T)) (hS : va_S A s.heap H locs) (hl : lv_has ls 4 [(0, .ref b), (1, .ref (a 0)), (2, .ref (bb 0)), (3, .int (nI i))]) : W p l e room_1 s m #[Value.ref b] below meth c H locs 149 20625 QQ (F0 m 1054 ls []) := by
  obtain ⟨⟨hx, hb, hml, hown, hts⟩, hr, hlocks, hK, hA, hX⟩ := id cx
  obtain ⟨r, S2, T2, h1, h2, hR2⟩ := ok23 S T y1 y2 hRel
  refine lv_aload_n hx hb dL_law_1054 rfl (lv_at hl 1 rfl) ?_
  refine lv_aload_n hx hb dL_law_1055 rfl (lv_at hl 0 rfl) ?_
  refine lv_iload_n hx hb dL_law_1056 rfl (lv_at hl 3 rfl) ?_
  refine lv_iconst (v := 1) hx hb dL_law_1057 (by decide) ?_
  refine lv_iadd hx hb dL_law_1058 ?_
  refine va_sld hx hb hXs hbl hbA hS hin1 dL_law_1059 ?_
  rw [ey1]
  refine lv_aload_n hx hb dL_law_1060 rfl (lv_at hl 0 rfl) ?_
  refine lv_iload_n hx hb dL_law_1061 rfl (lv_at hl 3 rfl) ?_
  refine lv_iconst (v := 2) hx hb dL_law_1062 (by decide) ?_
  refine lv_iadd hx hb dL_law_1063 ?_
  refine va_sld hx hb hXs hbl hbA hS hin2 dL_law_1064 ?_
  rw [ey2]
  refine lcallIL (As := [.int y1, .int y2]) (rest := []) (cxx_post l E F a S y1 y2 r S2 h1) cal_X11_post cav_X11_post lk_L_119 cx hP hD hS hl dL_law_1065 rfl rfl rfl rfl (Nat.le_of_ble_eq_true rfl) ⟨Nat.le_of_ble_eq_true rfl, Nat.le_of_ble_eq_true rfl⟩ (Nat.le_of_ble_eq_true rfl) (Nat.le_of_ble_eq_true rfl) (fun H locs hP hD hS => ?_)
  refine lv_aload_n hx hb dL_law_1068 rfl (lv_at hl 2 rfl) ?_
  refine lv_aload_n hx hb dL_law_1069 rfl (lv_at hl 0 rfl) ?_
  refine lv_iload_n hx hb dL_law_1070 rfl (lv_at hl 3 rfl) ?_
  refine lv_iconst (v := 1) hx hb dL_law_1071 (by decide) ?_
  refine lv_iadd hx hb dL_law_1072 ?_
  refine va_sld hx hb hXs hbl hbA hS hin1 dL_law_1073 ?_
  rw [ey1]
  refine lv_aload_n hx hb dL_law_1074 rfl (lv_at hl 0 rfl) ?_
  refine lv_iload_n hx hb dL_law_1075 rfl (lv_at hl 3 rfl) ?_
  refine lv_iconst (v := 2) hx hb dL_law_1076 (by decide) ?_
  refine lv_iadd hx hb dL_law_1077 ?_
  refine va_sld hx hb hXs hbl hbA hS hin2 dL_law_1078 ?_
  rw [ey2]
  refine lcallIR (As := [.int y1, .int y2]) (rest := [.int r]) (cxm_post l E F bb T y1 y2 r T2 h2) cal_X12_post cav_X12_post lk_L_122 cx hP hD hS hl dL_law_1079 rfl rfl rfl rfl (Nat.le_of_ble_eq_true rfl) ⟨Nat.le_of_ble_eq_true rfl, Nat.le_of_ble_eq_true rfl⟩ (Nat.le_of_ble_eq_true rfl) (Nat.le_of_ble_eq_true rfl) (fun H locs hP hD hS => ?_)
  refine lv_icmp_eq (tgt := 1926) hx hb dL_law_1082 (by decide) (fun hc => ?_) (fun hc => absurd rfl hc)
  exact again _ _ hR2 _ _ _ hP hD hS hl
set_option maxHeartbeats 8000000 in
set_option maxRecDepth 100000 in
theorem lc_24 (ok24 : ok_scare F Rel) (cx : Cx p s m #[Value.ref b] meth c cL_law RL 4 rt E A) (hXs : va_X b L xs s s.heap) (hbl : b < s.heap.size) (hbA : ¬ A b) (hin1 : vp_in (nI i + 1) L) (hin2 : vp_in (nI i + 2) L) (hin3 : vp_in (nI i + 3) L) (hin4 : vp_in (nI i + 4) L) (hin5 : vp_in (nI i + 5) L) (ey1 : xs (nI i + 1).toNatClampNeg = y1) (ey2 : xs (nI i + 2).toNatClampNeg = y2) (ey3 : xs (nI i + 3).toNatClampNeg = y3) (ey4 : xs (nI i + 4).toNatClampNeg = y4) (ey5 : xs (nI i + 5).toNatClampNeg = y5) (again : ∀ (S T : vS), Rel S T → ∀ (H : Heap) (locs : List Loc) (ls : Array Slot), va_P E.1 vwCl (wf_X11 E a S ++ wf_X12 E bb T) H → va_D A (wf_X11 E a S ++ wf_X12 E bb T) → va_S A s.heap H locs → lv_has ls 4 [(0, .ref b), (1, .ref (a 0)), (2, .ref (bb 0)), (3, .int (nI i))] → W p l e room_1 s m #[Value.ref b] below meth c H locs 149 20625 QQ (F0 m 1926 ls [])) (hRel : Rel S T) (hP : va_P E.1 vwCl (wf_X11 E a S ++ wf_X12 E bb T) H) (hD : va_D A (wf_X11 E a S ++ wf_X12 E bb T)) (hS : va_S A s.heap H locs) (hl : lv_has ls 4 [(0, .ref b), (1, .ref (a 0)), (2, .ref (bb 0)), (3, .int (nI i))]) : W p l e room_1 s m #[Value.ref b] below meth c H locs 149 20625 QQ (F0 m 1087 ls []) := by
  obtain ⟨⟨hx, hb, hml, hown, hts⟩, hr, hlocks, hK, hA, hX⟩ := id cx
  obtain ⟨r, S2, T2, h1, h2, hR2⟩ := ok24 S T y1 y2 hRel
  refine lv_aload_n hx hb dL_law_1087 rfl (lv_at hl 1 rfl) ?_
  refine lv_aload_n hx hb dL_law_1088 rfl (lv_at hl 0 rfl) ?_
  refine lv_iload_n hx hb dL_law_1089 rfl (lv_at hl 3 rfl) ?_
  refine lv_iconst (v := 1) hx hb dL_law_1090 (by decide) ?_
  refine lv_iadd hx hb dL_law_1091 ?_
  refine va_sld hx hb hXs hbl hbA hS hin1 dL_law_1092 ?_
  rw [ey1]
  refine lv_aload_n hx hb dL_law_1093 rfl (lv_at hl 0 rfl) ?_
  refine lv_iload_n hx hb dL_law_1094 rfl (lv_at hl 3 rfl) ?_
  refine lv_iconst (v := 2) hx hb dL_law_1095 (by decide) ?_
  refine lv_iadd hx hb dL_law_1096 ?_
  refine va_sld hx hb hXs hbl hbA hS hin2 dL_law_1097 ?_
  rw [ey2]
  refine lcallIL (As := [.int y1, .int y2]) (rest := []) (cxx_scare l E F a S y1 y2 r S2 h1) cal_X11_scare cav_X11_scare lk_L_123 cx hP hD hS hl dL_law_1098 rfl rfl rfl rfl (Nat.le_of_ble_eq_true rfl) ⟨Nat.le_of_ble_eq_true rfl, Nat.le_of_ble_eq_true rfl⟩ (Nat.le_of_ble_eq_true rfl) (Nat.le_of_ble_eq_true rfl) (fun H locs hP hD hS => ?_)
  refine lv_aload_n hx hb dL_law_1101 rfl (lv_at hl 2 rfl) ?_
  refine lv_aload_n hx hb dL_law_1102 rfl (lv_at hl 0 rfl) ?_
  refine lv_iload_n hx hb dL_law_1103 rfl (lv_at hl 3 rfl) ?_
  refine lv_iconst (v := 1) hx hb dL_law_1104 (by decide) ?_
  refine lv_iadd hx hb dL_law_1105 ?_
  refine va_sld hx hb hXs hbl hbA hS hin1 dL_law_1106 ?_
  rw [ey1]
  refine lv_aload_n hx hb dL_law_1107 rfl (lv_at hl 0 rfl) ?_
  refine lv_iload_n hx hb dL_law_1108 rfl (lv_at hl 3 rfl) ?_
  refine lv_iconst (v := 2) hx hb dL_law_1109 (by decide) ?_
  refine lv_iadd hx hb dL_law_1110 ?_
  refine va_sld hx hb hXs hbl hbA hS hin2 dL_law_1111 ?_
  rw [ey2]
  refine lcallIR (As := [.int y1, .int y2]) (rest := [.int r]) (cxm_scare l E F bb T y1 y2 r T2 h2) cal_X12_scare cav_X12_scare lk_L_126 cx hP hD hS hl dL_law_1112 rfl rfl rfl rfl (Nat.le_of_ble_eq_true rfl) ⟨Nat.le_of_ble_eq_true rfl, Nat.le_of_ble_eq_true rfl⟩ (Nat.le_of_ble_eq_true rfl) (Nat.le_of_ble_eq_true rfl) (fun H locs hP hD hS => ?_)
  refine lv_icmp_eq (tgt := 1926) hx hb dL_law_1115 (by decide) (fun hc => ?_) (fun hc => absurd rfl hc)
  exact again _ _ hR2 _ _ _ hP hD hS hl
set_option maxHeartbeats 8000000 in
set_option maxRecDepth 100000 in
theorem lc_25 (ok25 : ok_rule F Rel) (cx : Cx p s m #[Value.ref b] meth c cL_law RL 4 rt E A) (hXs : va_X b L xs s s.heap) (hbl : b < s.heap.size) (hbA : ¬ A b) (hin1 : vp_in (nI i + 1) L) (hin2 : vp_in (nI i + 2) L) (hin3 : vp_in (nI i + 3) L) (hin4 : vp_in (nI i + 4) L) (hin5 : vp_in (nI i + 5) L) (ey1 : xs (nI i + 1).toNatClampNeg = y1) (ey2 : xs (nI i + 2).toNatClampNeg = y2) (ey3 : xs (nI i + 3).toNatClampNeg = y3) (ey4 : xs (nI i + 4).toNatClampNeg = y4) (ey5 : xs (nI i + 5).toNatClampNeg = y5) (again : ∀ (S T : vS), Rel S T → ∀ (H : Heap) (locs : List Loc) (ls : Array Slot), va_P E.1 vwCl (wf_X11 E a S ++ wf_X12 E bb T) H → va_D A (wf_X11 E a S ++ wf_X12 E bb T) → va_S A s.heap H locs → lv_has ls 4 [(0, .ref b), (1, .ref (a 0)), (2, .ref (bb 0)), (3, .int (nI i))] → W p l e room_1 s m #[Value.ref b] below meth c H locs 149 20625 QQ (F0 m 1926 ls [])) (hRel : Rel S T) (hP : va_P E.1 vwCl (wf_X11 E a S ++ wf_X12 E bb T) H) (hD : va_D A (wf_X11 E a S ++ wf_X12 E bb T)) (hS : va_S A s.heap H locs) (hl : lv_has ls 4 [(0, .ref b), (1, .ref (a 0)), (2, .ref (bb 0)), (3, .int (nI i))]) : W p l e room_1 s m #[Value.ref b] below meth c H locs 149 20625 QQ (F0 m 1120 ls []) := by
  obtain ⟨⟨hx, hb, hml, hown, hts⟩, hr, hlocks, hK, hA, hX⟩ := id cx
  obtain ⟨r, S2, T2, h1, h2, hR2⟩ := ok25 S T y1 y2 hRel
  refine lv_aload_n hx hb dL_law_1120 rfl (lv_at hl 1 rfl) ?_
  refine lv_aload_n hx hb dL_law_1121 rfl (lv_at hl 0 rfl) ?_
  refine lv_iload_n hx hb dL_law_1122 rfl (lv_at hl 3 rfl) ?_
  refine lv_iconst (v := 1) hx hb dL_law_1123 (by decide) ?_
  refine lv_iadd hx hb dL_law_1124 ?_
  refine va_sld hx hb hXs hbl hbA hS hin1 dL_law_1125 ?_
  rw [ey1]
  refine lv_aload_n hx hb dL_law_1126 rfl (lv_at hl 0 rfl) ?_
  refine lv_iload_n hx hb dL_law_1127 rfl (lv_at hl 3 rfl) ?_
  refine lv_iconst (v := 2) hx hb dL_law_1128 (by decide) ?_
  refine lv_iadd hx hb dL_law_1129 ?_
  refine va_sld hx hb hXs hbl hbA hS hin2 dL_law_1130 ?_
  rw [ey2]
  refine lcallIL (As := [.int y1, .int y2]) (rest := []) (cxx_rule l E F a S y1 y2 r S2 h1) cal_X11_rule cav_X11_rule lk_L_127 cx hP hD hS hl dL_law_1131 rfl rfl rfl rfl (Nat.le_of_ble_eq_true rfl) ⟨Nat.le_of_ble_eq_true rfl, Nat.le_of_ble_eq_true rfl⟩ (Nat.le_of_ble_eq_true rfl) (Nat.le_of_ble_eq_true rfl) (fun H locs hP hD hS => ?_)
  refine lv_aload_n hx hb dL_law_1134 rfl (lv_at hl 2 rfl) ?_
  refine lv_aload_n hx hb dL_law_1135 rfl (lv_at hl 0 rfl) ?_
  refine lv_iload_n hx hb dL_law_1136 rfl (lv_at hl 3 rfl) ?_
  refine lv_iconst (v := 1) hx hb dL_law_1137 (by decide) ?_
  refine lv_iadd hx hb dL_law_1138 ?_
  refine va_sld hx hb hXs hbl hbA hS hin1 dL_law_1139 ?_
  rw [ey1]
  refine lv_aload_n hx hb dL_law_1140 rfl (lv_at hl 0 rfl) ?_
  refine lv_iload_n hx hb dL_law_1141 rfl (lv_at hl 3 rfl) ?_
  refine lv_iconst (v := 2) hx hb dL_law_1142 (by decide) ?_
  refine lv_iadd hx hb dL_law_1143 ?_
  refine va_sld hx hb hXs hbl hbA hS hin2 dL_law_1144 ?_
  rw [ey2]
  refine lcallIR (As := [.int y1, .int y2]) (rest := [.int r]) (cxm_rule l E F bb T y1 y2 r T2 h2) cal_X12_rule cav_X12_rule lk_L_130 cx hP hD hS hl dL_law_1145 rfl rfl rfl rfl (Nat.le_of_ble_eq_true rfl) ⟨Nat.le_of_ble_eq_true rfl, Nat.le_of_ble_eq_true rfl⟩ (Nat.le_of_ble_eq_true rfl) (Nat.le_of_ble_eq_true rfl) (fun H locs hP hD hS => ?_)
  refine lv_icmp_eq (tgt := 1926) hx hb dL_law_1148 (by decide) (fun hc => ?_) (fun hc => absurd rfl hc)
  exact again _ _ hR2 _ _ _ hP hD hS hl
set_option maxHeartbeats 8000000 in
set_option maxRecDepth 100000 in
theorem lc_26 (ok26 : ok_far F Rel) (cx : Cx p s m #[Value.ref b] meth c cL_law RL 4 rt E A) (hXs : va_X b L xs s s.heap) (hbl : b < s.heap.size) (hbA : ¬ A b) (hin1 : vp_in (nI i + 1) L) (hin2 : vp_in (nI i + 2) L) (hin3 : vp_in (nI i + 3) L) (hin4 : vp_in (nI i + 4) L) (hin5 : vp_in (nI i + 5) L) (ey1 : xs (nI i + 1).toNatClampNeg = y1) (ey2 : xs (nI i + 2).toNatClampNeg = y2) (ey3 : xs (nI i + 3).toNatClampNeg = y3) (ey4 : xs (nI i + 4).toNatClampNeg = y4) (ey5 : xs (nI i + 5).toNatClampNeg = y5) (again : ∀ (S T : vS), Rel S T → ∀ (H : Heap) (locs : List Loc) (ls : Array Slot), va_P E.1 vwCl (wf_X11 E a S ++ wf_X12 E bb T) H → va_D A (wf_X11 E a S ++ wf_X12 E bb T) → va_S A s.heap H locs → lv_has ls 4 [(0, .ref b), (1, .ref (a 0)), (2, .ref (bb 0)), (3, .int (nI i))] → W p l e room_1 s m #[Value.ref b] below meth c H locs 149 20625 QQ (F0 m 1926 ls [])) (hRel : Rel S T) (hP : va_P E.1 vwCl (wf_X11 E a S ++ wf_X12 E bb T) H) (hD : va_D A (wf_X11 E a S ++ wf_X12 E bb T)) (hS : va_S A s.heap H locs) (hl : lv_has ls 4 [(0, .ref b), (1, .ref (a 0)), (2, .ref (bb 0)), (3, .int (nI i))]) : W p l e room_1 s m #[Value.ref b] below meth c H locs 149 20625 QQ (F0 m 1153 ls []) := by
  obtain ⟨⟨hx, hb, hml, hown, hts⟩, hr, hlocks, hK, hA, hX⟩ := id cx
  obtain ⟨r, S2, T2, h1, h2, hR2⟩ := ok26 S T y1 y2 hRel
  refine lv_aload_n hx hb dL_law_1153 rfl (lv_at hl 1 rfl) ?_
  refine lv_aload_n hx hb dL_law_1154 rfl (lv_at hl 0 rfl) ?_
  refine lv_iload_n hx hb dL_law_1155 rfl (lv_at hl 3 rfl) ?_
  refine lv_iconst (v := 1) hx hb dL_law_1156 (by decide) ?_
  refine lv_iadd hx hb dL_law_1157 ?_
  refine va_sld hx hb hXs hbl hbA hS hin1 dL_law_1158 ?_
  rw [ey1]
  refine lv_aload_n hx hb dL_law_1159 rfl (lv_at hl 0 rfl) ?_
  refine lv_iload_n hx hb dL_law_1160 rfl (lv_at hl 3 rfl) ?_
  refine lv_iconst (v := 2) hx hb dL_law_1161 (by decide) ?_
  refine lv_iadd hx hb dL_law_1162 ?_
  refine va_sld hx hb hXs hbl hbA hS hin2 dL_law_1163 ?_
  rw [ey2]
  refine lcallIL (As := [.int y1, .int y2]) (rest := []) (cxx_far l E F a S y1 y2 r S2 h1) cal_X11_far cav_X11_far lk_L_131 cx hP hD hS hl dL_law_1164 rfl rfl rfl rfl (Nat.le_of_ble_eq_true rfl) ⟨Nat.le_of_ble_eq_true rfl, Nat.le_of_ble_eq_true rfl⟩ (Nat.le_of_ble_eq_true rfl) (Nat.le_of_ble_eq_true rfl) (fun H locs hP hD hS => ?_)
  refine lv_aload_n hx hb dL_law_1167 rfl (lv_at hl 2 rfl) ?_
  refine lv_aload_n hx hb dL_law_1168 rfl (lv_at hl 0 rfl) ?_
  refine lv_iload_n hx hb dL_law_1169 rfl (lv_at hl 3 rfl) ?_
  refine lv_iconst (v := 1) hx hb dL_law_1170 (by decide) ?_
  refine lv_iadd hx hb dL_law_1171 ?_
  refine va_sld hx hb hXs hbl hbA hS hin1 dL_law_1172 ?_
  rw [ey1]
  refine lv_aload_n hx hb dL_law_1173 rfl (lv_at hl 0 rfl) ?_
  refine lv_iload_n hx hb dL_law_1174 rfl (lv_at hl 3 rfl) ?_
  refine lv_iconst (v := 2) hx hb dL_law_1175 (by decide) ?_
  refine lv_iadd hx hb dL_law_1176 ?_
  refine va_sld hx hb hXs hbl hbA hS hin2 dL_law_1177 ?_
  rw [ey2]
  refine lcallIR (As := [.int y1, .int y2]) (rest := [.int r]) (cxm_far l E F bb T y1 y2 r T2 h2) cal_X12_far cav_X12_far lk_L_134 cx hP hD hS hl dL_law_1178 rfl rfl rfl rfl (Nat.le_of_ble_eq_true rfl) ⟨Nat.le_of_ble_eq_true rfl, Nat.le_of_ble_eq_true rfl⟩ (Nat.le_of_ble_eq_true rfl) (Nat.le_of_ble_eq_true rfl) (fun H locs hP hD hS => ?_)
  refine lv_icmp_eq (tgt := 1926) hx hb dL_law_1181 (by decide) (fun hc => ?_) (fun hc => absurd rfl hc)
  exact again _ _ hR2 _ _ _ hP hD hS hl
set_option maxHeartbeats 8000000 in
set_option maxRecDepth 100000 in
theorem lc_27 (ok27 : ok_way F Rel) (cx : Cx p s m #[Value.ref b] meth c cL_law RL 4 rt E A) (hXs : va_X b L xs s s.heap) (hbl : b < s.heap.size) (hbA : ¬ A b) (hin1 : vp_in (nI i + 1) L) (hin2 : vp_in (nI i + 2) L) (hin3 : vp_in (nI i + 3) L) (hin4 : vp_in (nI i + 4) L) (hin5 : vp_in (nI i + 5) L) (ey1 : xs (nI i + 1).toNatClampNeg = y1) (ey2 : xs (nI i + 2).toNatClampNeg = y2) (ey3 : xs (nI i + 3).toNatClampNeg = y3) (ey4 : xs (nI i + 4).toNatClampNeg = y4) (ey5 : xs (nI i + 5).toNatClampNeg = y5) (again : ∀ (S T : vS), Rel S T → ∀ (H : Heap) (locs : List Loc) (ls : Array Slot), va_P E.1 vwCl (wf_X11 E a S ++ wf_X12 E bb T) H → va_D A (wf_X11 E a S ++ wf_X12 E bb T) → va_S A s.heap H locs → lv_has ls 4 [(0, .ref b), (1, .ref (a 0)), (2, .ref (bb 0)), (3, .int (nI i))] → W p l e room_1 s m #[Value.ref b] below meth c H locs 149 20625 QQ (F0 m 1926 ls [])) (hRel : Rel S T) (hP : va_P E.1 vwCl (wf_X11 E a S ++ wf_X12 E bb T) H) (hD : va_D A (wf_X11 E a S ++ wf_X12 E bb T)) (hS : va_S A s.heap H locs) (hl : lv_has ls 4 [(0, .ref b), (1, .ref (a 0)), (2, .ref (bb 0)), (3, .int (nI i))]) : W p l e room_1 s m #[Value.ref b] below meth c H locs 149 20625 QQ (F0 m 1186 ls []) := by
  obtain ⟨⟨hx, hb, hml, hown, hts⟩, hr, hlocks, hK, hA, hX⟩ := id cx
  obtain ⟨r, S2, T2, h1, h2, hR2⟩ := ok27 S T y1 y2 hRel
  refine lv_aload_n hx hb dL_law_1186 rfl (lv_at hl 1 rfl) ?_
  refine lv_aload_n hx hb dL_law_1187 rfl (lv_at hl 0 rfl) ?_
  refine lv_iload_n hx hb dL_law_1188 rfl (lv_at hl 3 rfl) ?_
  refine lv_iconst (v := 1) hx hb dL_law_1189 (by decide) ?_
  refine lv_iadd hx hb dL_law_1190 ?_
  refine va_sld hx hb hXs hbl hbA hS hin1 dL_law_1191 ?_
  rw [ey1]
  refine lv_aload_n hx hb dL_law_1192 rfl (lv_at hl 0 rfl) ?_
  refine lv_iload_n hx hb dL_law_1193 rfl (lv_at hl 3 rfl) ?_
  refine lv_iconst (v := 2) hx hb dL_law_1194 (by decide) ?_
  refine lv_iadd hx hb dL_law_1195 ?_
  refine va_sld hx hb hXs hbl hbA hS hin2 dL_law_1196 ?_
  rw [ey2]
  refine lcallIL (As := [.int y1, .int y2]) (rest := []) (cxx_way l E F a S y1 y2 r S2 h1) cal_X11_way cav_X11_way lk_L_135 cx hP hD hS hl dL_law_1197 rfl rfl rfl rfl (Nat.le_of_ble_eq_true rfl) ⟨Nat.le_of_ble_eq_true rfl, Nat.le_of_ble_eq_true rfl⟩ (Nat.le_of_ble_eq_true rfl) (Nat.le_of_ble_eq_true rfl) (fun H locs hP hD hS => ?_)
  refine lv_aload_n hx hb dL_law_1200 rfl (lv_at hl 2 rfl) ?_
  refine lv_aload_n hx hb dL_law_1201 rfl (lv_at hl 0 rfl) ?_
  refine lv_iload_n hx hb dL_law_1202 rfl (lv_at hl 3 rfl) ?_
  refine lv_iconst (v := 1) hx hb dL_law_1203 (by decide) ?_
  refine lv_iadd hx hb dL_law_1204 ?_
  refine va_sld hx hb hXs hbl hbA hS hin1 dL_law_1205 ?_
  rw [ey1]
  refine lv_aload_n hx hb dL_law_1206 rfl (lv_at hl 0 rfl) ?_
  refine lv_iload_n hx hb dL_law_1207 rfl (lv_at hl 3 rfl) ?_
  refine lv_iconst (v := 2) hx hb dL_law_1208 (by decide) ?_
  refine lv_iadd hx hb dL_law_1209 ?_
  refine va_sld hx hb hXs hbl hbA hS hin2 dL_law_1210 ?_
  rw [ey2]
  refine lcallIR (As := [.int y1, .int y2]) (rest := [.int r]) (cxm_way l E F bb T y1 y2 r T2 h2) cal_X12_way cav_X12_way lk_L_138 cx hP hD hS hl dL_law_1211 rfl rfl rfl rfl (Nat.le_of_ble_eq_true rfl) ⟨Nat.le_of_ble_eq_true rfl, Nat.le_of_ble_eq_true rfl⟩ (Nat.le_of_ble_eq_true rfl) (Nat.le_of_ble_eq_true rfl) (fun H locs hP hD hS => ?_)
  refine lv_icmp_eq (tgt := 1926) hx hb dL_law_1214 (by decide) (fun hc => ?_) (fun hc => absurd rfl hc)
  exact again _ _ hR2 _ _ _ hP hD hS hl
set_option maxHeartbeats 8000000 in
set_option maxRecDepth 100000 in
theorem lc_28 (ok28 : ok_centre F Rel) (cx : Cx p s m #[Value.ref b] meth c cL_law RL 4 rt E A) (hXs : va_X b L xs s s.heap) (hbl : b < s.heap.size) (hbA : ¬ A b) (hin1 : vp_in (nI i + 1) L) (hin2 : vp_in (nI i + 2) L) (hin3 : vp_in (nI i + 3) L) (hin4 : vp_in (nI i + 4) L) (hin5 : vp_in (nI i + 5) L) (ey1 : xs (nI i + 1).toNatClampNeg = y1) (ey2 : xs (nI i + 2).toNatClampNeg = y2) (ey3 : xs (nI i + 3).toNatClampNeg = y3) (ey4 : xs (nI i + 4).toNatClampNeg = y4) (ey5 : xs (nI i + 5).toNatClampNeg = y5) (again : ∀ (S T : vS), Rel S T → ∀ (H : Heap) (locs : List Loc) (ls : Array Slot), va_P E.1 vwCl (wf_X11 E a S ++ wf_X12 E bb T) H → va_D A (wf_X11 E a S ++ wf_X12 E bb T) → va_S A s.heap H locs → lv_has ls 4 [(0, .ref b), (1, .ref (a 0)), (2, .ref (bb 0)), (3, .int (nI i))] → W p l e room_1 s m #[Value.ref b] below meth c H locs 149 20625 QQ (F0 m 1926 ls [])) (hRel : Rel S T) (hP : va_P E.1 vwCl (wf_X11 E a S ++ wf_X12 E bb T) H) (hD : va_D A (wf_X11 E a S ++ wf_X12 E bb T)) (hS : va_S A s.heap H locs) (hl : lv_has ls 4 [(0, .ref b), (1, .ref (a 0)), (2, .ref (bb 0)), (3, .int (nI i))]) : W p l e room_1 s m #[Value.ref b] below meth c H locs 149 20625 QQ (F0 m 1219 ls []) := by
  obtain ⟨⟨hx, hb, hml, hown, hts⟩, hr, hlocks, hK, hA, hX⟩ := id cx
  obtain ⟨r, S2, T2, h1, h2, hR2⟩ := ok28 S T  hRel
  refine lv_aload_n hx hb dL_law_1219 rfl (lv_at hl 1 rfl) ?_
  refine lcallIL (As := []) (rest := []) (cxx_centre l E F a S  r S2 h1) cal_X11_centre cav_X11_centre lk_L_139 cx hP hD hS hl dL_law_1220 rfl rfl rfl rfl (Nat.le_of_ble_eq_true rfl) ⟨Nat.le_of_ble_eq_true rfl, Nat.le_of_ble_eq_true rfl⟩ (Nat.le_of_ble_eq_true rfl) (Nat.le_of_ble_eq_true rfl) (fun H locs hP hD hS => ?_)
  refine lv_aload_n hx hb dL_law_1223 rfl (lv_at hl 2 rfl) ?_
  refine lcallIR (As := []) (rest := [.int r]) (cxm_centre l E F bb T  r T2 h2) cal_X12_centre cav_X12_centre lk_L_142 cx hP hD hS hl dL_law_1224 rfl rfl rfl rfl (Nat.le_of_ble_eq_true rfl) ⟨Nat.le_of_ble_eq_true rfl, Nat.le_of_ble_eq_true rfl⟩ (Nat.le_of_ble_eq_true rfl) (Nat.le_of_ble_eq_true rfl) (fun H locs hP hD hS => ?_)
  refine lv_icmp_eq (tgt := 1926) hx hb dL_law_1227 (by decide) (fun hc => ?_) (fun hc => absurd rfl hc)
  exact again _ _ hR2 _ _ _ hP hD hS hl
set_option maxHeartbeats 8000000 in
set_option maxRecDepth 100000 in
theorem lc_29 (ok29 : ok_cut F Rel) (cx : Cx p s m #[Value.ref b] meth c cL_law RL 4 rt E A) (hXs : va_X b L xs s s.heap) (hbl : b < s.heap.size) (hbA : ¬ A b) (hin1 : vp_in (nI i + 1) L) (hin2 : vp_in (nI i + 2) L) (hin3 : vp_in (nI i + 3) L) (hin4 : vp_in (nI i + 4) L) (hin5 : vp_in (nI i + 5) L) (ey1 : xs (nI i + 1).toNatClampNeg = y1) (ey2 : xs (nI i + 2).toNatClampNeg = y2) (ey3 : xs (nI i + 3).toNatClampNeg = y3) (ey4 : xs (nI i + 4).toNatClampNeg = y4) (ey5 : xs (nI i + 5).toNatClampNeg = y5) (again : ∀ (S T : vS), Rel S T → ∀ (H : Heap) (locs : List Loc) (ls : Array Slot), va_P E.1 vwCl (wf_X11 E a S ++ wf_X12 E bb T) H → va_D A (wf_X11 E a S ++ wf_X12 E bb T) → va_S A s.heap H locs → lv_has ls 4 [(0, .ref b), (1, .ref (a 0)), (2, .ref (bb 0)), (3, .int (nI i))] → W p l e room_1 s m #[Value.ref b] below meth c H locs 149 20625 QQ (F0 m 1926 ls [])) (hRel : Rel S T) (hP : va_P E.1 vwCl (wf_X11 E a S ++ wf_X12 E bb T) H) (hD : va_D A (wf_X11 E a S ++ wf_X12 E bb T)) (hS : va_S A s.heap H locs) (hl : lv_has ls 4 [(0, .ref b), (1, .ref (a 0)), (2, .ref (bb 0)), (3, .int (nI i))]) : W p l e room_1 s m #[Value.ref b] below meth c H locs 149 20625 QQ (F0 m 1232 ls []) := by
  obtain ⟨⟨hx, hb, hml, hown, hts⟩, hr, hlocks, hK, hA, hX⟩ := id cx
  obtain ⟨r, S2, T2, h1, h2, hR2⟩ := ok29 S T y1 y2 hRel
  refine lv_aload_n hx hb dL_law_1232 rfl (lv_at hl 1 rfl) ?_
  refine lv_aload_n hx hb dL_law_1233 rfl (lv_at hl 0 rfl) ?_
  refine lv_iload_n hx hb dL_law_1234 rfl (lv_at hl 3 rfl) ?_
  refine lv_iconst (v := 1) hx hb dL_law_1235 (by decide) ?_
  refine lv_iadd hx hb dL_law_1236 ?_
  refine va_sld hx hb hXs hbl hbA hS hin1 dL_law_1237 ?_
  rw [ey1]
  refine lv_aload_n hx hb dL_law_1238 rfl (lv_at hl 0 rfl) ?_
  refine lv_iload_n hx hb dL_law_1239 rfl (lv_at hl 3 rfl) ?_
  refine lv_iconst (v := 2) hx hb dL_law_1240 (by decide) ?_
  refine lv_iadd hx hb dL_law_1241 ?_
  refine va_sld hx hb hXs hbl hbA hS hin2 dL_law_1242 ?_
  rw [ey2]
  refine lcallIL (As := [.int y1, .int y2]) (rest := []) (cxx_cut l E F a S y1 y2 r S2 h1) cal_X11_cut cav_X11_cut lk_L_143 cx hP hD hS hl dL_law_1243 rfl rfl rfl rfl (Nat.le_of_ble_eq_true rfl) ⟨Nat.le_of_ble_eq_true rfl, Nat.le_of_ble_eq_true rfl⟩ (Nat.le_of_ble_eq_true rfl) (Nat.le_of_ble_eq_true rfl) (fun H locs hP hD hS => ?_)
  refine lv_aload_n hx hb dL_law_1246 rfl (lv_at hl 2 rfl) ?_
  refine lv_aload_n hx hb dL_law_1247 rfl (lv_at hl 0 rfl) ?_
  refine lv_iload_n hx hb dL_law_1248 rfl (lv_at hl 3 rfl) ?_
  refine lv_iconst (v := 1) hx hb dL_law_1249 (by decide) ?_
  refine lv_iadd hx hb dL_law_1250 ?_
  refine va_sld hx hb hXs hbl hbA hS hin1 dL_law_1251 ?_
  rw [ey1]
  refine lv_aload_n hx hb dL_law_1252 rfl (lv_at hl 0 rfl) ?_
  refine lv_iload_n hx hb dL_law_1253 rfl (lv_at hl 3 rfl) ?_
  refine lv_iconst (v := 2) hx hb dL_law_1254 (by decide) ?_
  refine lv_iadd hx hb dL_law_1255 ?_
  refine va_sld hx hb hXs hbl hbA hS hin2 dL_law_1256 ?_
  rw [ey2]
  refine lcallIR (As := [.int y1, .int y2]) (rest := [.int r]) (cxm_cut l E F bb T y1 y2 r T2 h2) cal_X12_cut cav_X12_cut lk_L_146 cx hP hD hS hl dL_law_1257 rfl rfl rfl rfl (Nat.le_of_ble_eq_true rfl) ⟨Nat.le_of_ble_eq_true rfl, Nat.le_of_ble_eq_true rfl⟩ (Nat.le_of_ble_eq_true rfl) (Nat.le_of_ble_eq_true rfl) (fun H locs hP hD hS => ?_)
  refine lv_icmp_eq (tgt := 1926) hx hb dL_law_1260 (by decide) (fun hc => ?_) (fun hc => absurd rfl hc)
  exact again _ _ hR2 _ _ _ hP hD hS hl
set_option maxHeartbeats 8000000 in
set_option maxRecDepth 100000 in
theorem lc_30 (ok30 : ok_goal F Rel) (cx : Cx p s m #[Value.ref b] meth c cL_law RL 4 rt E A) (hXs : va_X b L xs s s.heap) (hbl : b < s.heap.size) (hbA : ¬ A b) (hin1 : vp_in (nI i + 1) L) (hin2 : vp_in (nI i + 2) L) (hin3 : vp_in (nI i + 3) L) (hin4 : vp_in (nI i + 4) L) (hin5 : vp_in (nI i + 5) L) (ey1 : xs (nI i + 1).toNatClampNeg = y1) (ey2 : xs (nI i + 2).toNatClampNeg = y2) (ey3 : xs (nI i + 3).toNatClampNeg = y3) (ey4 : xs (nI i + 4).toNatClampNeg = y4) (ey5 : xs (nI i + 5).toNatClampNeg = y5) (again : ∀ (S T : vS), Rel S T → ∀ (H : Heap) (locs : List Loc) (ls : Array Slot), va_P E.1 vwCl (wf_X11 E a S ++ wf_X12 E bb T) H → va_D A (wf_X11 E a S ++ wf_X12 E bb T) → va_S A s.heap H locs → lv_has ls 4 [(0, .ref b), (1, .ref (a 0)), (2, .ref (bb 0)), (3, .int (nI i))] → W p l e room_1 s m #[Value.ref b] below meth c H locs 149 20625 QQ (F0 m 1926 ls [])) (hRel : Rel S T) (hP : va_P E.1 vwCl (wf_X11 E a S ++ wf_X12 E bb T) H) (hD : va_D A (wf_X11 E a S ++ wf_X12 E bb T)) (hS : va_S A s.heap H locs) (hl : lv_has ls 4 [(0, .ref b), (1, .ref (a 0)), (2, .ref (bb 0)), (3, .int (nI i))]) : W p l e room_1 s m #[Value.ref b] below meth c H locs 149 20625 QQ (F0 m 1265 ls []) := by
  obtain ⟨⟨hx, hb, hml, hown, hts⟩, hr, hlocks, hK, hA, hX⟩ := id cx
  obtain ⟨r, S2, T2, h1, h2, hR2⟩ := ok30 S T y1 hRel
  refine lv_aload_n hx hb dL_law_1265 rfl (lv_at hl 1 rfl) ?_
  refine lv_aload_n hx hb dL_law_1266 rfl (lv_at hl 0 rfl) ?_
  refine lv_iload_n hx hb dL_law_1267 rfl (lv_at hl 3 rfl) ?_
  refine lv_iconst (v := 1) hx hb dL_law_1268 (by decide) ?_
  refine lv_iadd hx hb dL_law_1269 ?_
  refine va_sld hx hb hXs hbl hbA hS hin1 dL_law_1270 ?_
  rw [ey1]
  refine lcallIL (As := [.int y1]) (rest := []) (cxx_goal l E F a S y1 r S2 h1) cal_X11_goal cav_X11_goal lk_L_147 cx hP hD hS hl dL_law_1271 rfl rfl rfl rfl (Nat.le_of_ble_eq_true rfl) ⟨Nat.le_of_ble_eq_true rfl, Nat.le_of_ble_eq_true rfl⟩ (Nat.le_of_ble_eq_true rfl) (Nat.le_of_ble_eq_true rfl) (fun H locs hP hD hS => ?_)
  refine lv_aload_n hx hb dL_law_1274 rfl (lv_at hl 2 rfl) ?_
  refine lv_aload_n hx hb dL_law_1275 rfl (lv_at hl 0 rfl) ?_
  refine lv_iload_n hx hb dL_law_1276 rfl (lv_at hl 3 rfl) ?_
  refine lv_iconst (v := 1) hx hb dL_law_1277 (by decide) ?_
  refine lv_iadd hx hb dL_law_1278 ?_
  refine va_sld hx hb hXs hbl hbA hS hin1 dL_law_1279 ?_
  rw [ey1]
  refine lcallIR (As := [.int y1]) (rest := [.int r]) (cxm_goal l E F bb T y1 r T2 h2) cal_X12_goal cav_X12_goal lk_L_150 cx hP hD hS hl dL_law_1280 rfl rfl rfl rfl (Nat.le_of_ble_eq_true rfl) ⟨Nat.le_of_ble_eq_true rfl, Nat.le_of_ble_eq_true rfl⟩ (Nat.le_of_ble_eq_true rfl) (Nat.le_of_ble_eq_true rfl) (fun H locs hP hD hS => ?_)
  refine lv_icmp_eq (tgt := 1926) hx hb dL_law_1283 (by decide) (fun hc => ?_) (fun hc => absurd rfl hc)
  exact again _ _ hR2 _ _ _ hP hD hS hl
set_option maxHeartbeats 8000000 in
set_option maxRecDepth 100000 in
theorem lc_31 (ok31 : ok_whereIn F Rel) (cx : Cx p s m #[Value.ref b] meth c cL_law RL 4 rt E A) (hXs : va_X b L xs s s.heap) (hbl : b < s.heap.size) (hbA : ¬ A b) (hin1 : vp_in (nI i + 1) L) (hin2 : vp_in (nI i + 2) L) (hin3 : vp_in (nI i + 3) L) (hin4 : vp_in (nI i + 4) L) (hin5 : vp_in (nI i + 5) L) (ey1 : xs (nI i + 1).toNatClampNeg = y1) (ey2 : xs (nI i + 2).toNatClampNeg = y2) (ey3 : xs (nI i + 3).toNatClampNeg = y3) (ey4 : xs (nI i + 4).toNatClampNeg = y4) (ey5 : xs (nI i + 5).toNatClampNeg = y5) (again : ∀ (S T : vS), Rel S T → ∀ (H : Heap) (locs : List Loc) (ls : Array Slot), va_P E.1 vwCl (wf_X11 E a S ++ wf_X12 E bb T) H → va_D A (wf_X11 E a S ++ wf_X12 E bb T) → va_S A s.heap H locs → lv_has ls 4 [(0, .ref b), (1, .ref (a 0)), (2, .ref (bb 0)), (3, .int (nI i))] → W p l e room_1 s m #[Value.ref b] below meth c H locs 149 20625 QQ (F0 m 1926 ls [])) (hRel : Rel S T) (hP : va_P E.1 vwCl (wf_X11 E a S ++ wf_X12 E bb T) H) (hD : va_D A (wf_X11 E a S ++ wf_X12 E bb T)) (hS : va_S A s.heap H locs) (hl : lv_has ls 4 [(0, .ref b), (1, .ref (a 0)), (2, .ref (bb 0)), (3, .int (nI i))]) : W p l e room_1 s m #[Value.ref b] below meth c H locs 149 20625 QQ (F0 m 1288 ls []) := by
  obtain ⟨⟨hx, hb, hml, hown, hts⟩, hr, hlocks, hK, hA, hX⟩ := id cx
  obtain ⟨r, S2, T2, h1, h2, hR2⟩ := ok31 S T y1 y2 hRel
  refine lv_aload_n hx hb dL_law_1288 rfl (lv_at hl 1 rfl) ?_
  refine lv_aload_n hx hb dL_law_1289 rfl (lv_at hl 0 rfl) ?_
  refine lv_iload_n hx hb dL_law_1290 rfl (lv_at hl 3 rfl) ?_
  refine lv_iconst (v := 1) hx hb dL_law_1291 (by decide) ?_
  refine lv_iadd hx hb dL_law_1292 ?_
  refine va_sld hx hb hXs hbl hbA hS hin1 dL_law_1293 ?_
  rw [ey1]
  refine lv_aload_n hx hb dL_law_1294 rfl (lv_at hl 0 rfl) ?_
  refine lv_iload_n hx hb dL_law_1295 rfl (lv_at hl 3 rfl) ?_
  refine lv_iconst (v := 2) hx hb dL_law_1296 (by decide) ?_
  refine lv_iadd hx hb dL_law_1297 ?_
  refine va_sld hx hb hXs hbl hbA hS hin2 dL_law_1298 ?_
  rw [ey2]
  refine lcallIL (As := [.int y1, .int y2]) (rest := []) (cxx_whereIn l E F a S y1 y2 r S2 h1) cal_X11_whereIn cav_X11_whereIn lk_L_151 cx hP hD hS hl dL_law_1299 rfl rfl rfl rfl (Nat.le_of_ble_eq_true rfl) ⟨Nat.le_of_ble_eq_true rfl, Nat.le_of_ble_eq_true rfl⟩ (Nat.le_of_ble_eq_true rfl) (Nat.le_of_ble_eq_true rfl) (fun H locs hP hD hS => ?_)
  refine lv_aload_n hx hb dL_law_1302 rfl (lv_at hl 2 rfl) ?_
  refine lv_aload_n hx hb dL_law_1303 rfl (lv_at hl 0 rfl) ?_
  refine lv_iload_n hx hb dL_law_1304 rfl (lv_at hl 3 rfl) ?_
  refine lv_iconst (v := 1) hx hb dL_law_1305 (by decide) ?_
  refine lv_iadd hx hb dL_law_1306 ?_
  refine va_sld hx hb hXs hbl hbA hS hin1 dL_law_1307 ?_
  rw [ey1]
  refine lv_aload_n hx hb dL_law_1308 rfl (lv_at hl 0 rfl) ?_
  refine lv_iload_n hx hb dL_law_1309 rfl (lv_at hl 3 rfl) ?_
  refine lv_iconst (v := 2) hx hb dL_law_1310 (by decide) ?_
  refine lv_iadd hx hb dL_law_1311 ?_
  refine va_sld hx hb hXs hbl hbA hS hin2 dL_law_1312 ?_
  rw [ey2]
  refine lcallIR (As := [.int y1, .int y2]) (rest := [.int r]) (cxm_whereIn l E F bb T y1 y2 r T2 h2) cal_X12_whereIn cav_X12_whereIn lk_L_154 cx hP hD hS hl dL_law_1313 rfl rfl rfl rfl (Nat.le_of_ble_eq_true rfl) ⟨Nat.le_of_ble_eq_true rfl, Nat.le_of_ble_eq_true rfl⟩ (Nat.le_of_ble_eq_true rfl) (Nat.le_of_ble_eq_true rfl) (fun H locs hP hD hS => ?_)
  refine lv_icmp_eq (tgt := 1926) hx hb dL_law_1316 (by decide) (fun hc => ?_) (fun hc => absurd rfl hc)
  exact again _ _ hR2 _ _ _ hP hD hS hl
set_option maxHeartbeats 8000000 in
set_option maxRecDepth 100000 in
theorem lc_32 (ok32 : ok_standingIn F Rel) (cx : Cx p s m #[Value.ref b] meth c cL_law RL 4 rt E A) (hXs : va_X b L xs s s.heap) (hbl : b < s.heap.size) (hbA : ¬ A b) (hin1 : vp_in (nI i + 1) L) (hin2 : vp_in (nI i + 2) L) (hin3 : vp_in (nI i + 3) L) (hin4 : vp_in (nI i + 4) L) (hin5 : vp_in (nI i + 5) L) (ey1 : xs (nI i + 1).toNatClampNeg = y1) (ey2 : xs (nI i + 2).toNatClampNeg = y2) (ey3 : xs (nI i + 3).toNatClampNeg = y3) (ey4 : xs (nI i + 4).toNatClampNeg = y4) (ey5 : xs (nI i + 5).toNatClampNeg = y5) (again : ∀ (S T : vS), Rel S T → ∀ (H : Heap) (locs : List Loc) (ls : Array Slot), va_P E.1 vwCl (wf_X11 E a S ++ wf_X12 E bb T) H → va_D A (wf_X11 E a S ++ wf_X12 E bb T) → va_S A s.heap H locs → lv_has ls 4 [(0, .ref b), (1, .ref (a 0)), (2, .ref (bb 0)), (3, .int (nI i))] → W p l e room_1 s m #[Value.ref b] below meth c H locs 149 20625 QQ (F0 m 1926 ls [])) (hRel : Rel S T) (hP : va_P E.1 vwCl (wf_X11 E a S ++ wf_X12 E bb T) H) (hD : va_D A (wf_X11 E a S ++ wf_X12 E bb T)) (hS : va_S A s.heap H locs) (hl : lv_has ls 4 [(0, .ref b), (1, .ref (a 0)), (2, .ref (bb 0)), (3, .int (nI i))]) : W p l e room_1 s m #[Value.ref b] below meth c H locs 149 20625 QQ (F0 m 1321 ls []) := by
  obtain ⟨⟨hx, hb, hml, hown, hts⟩, hr, hlocks, hK, hA, hX⟩ := id cx
  obtain ⟨r, S2, T2, h1, h2, hR2⟩ := ok32 S T y1 y2 hRel
  refine lv_aload_n hx hb dL_law_1321 rfl (lv_at hl 1 rfl) ?_
  refine lv_aload_n hx hb dL_law_1322 rfl (lv_at hl 0 rfl) ?_
  refine lv_iload_n hx hb dL_law_1323 rfl (lv_at hl 3 rfl) ?_
  refine lv_iconst (v := 1) hx hb dL_law_1324 (by decide) ?_
  refine lv_iadd hx hb dL_law_1325 ?_
  refine va_sld hx hb hXs hbl hbA hS hin1 dL_law_1326 ?_
  rw [ey1]
  refine lv_aload_n hx hb dL_law_1327 rfl (lv_at hl 0 rfl) ?_
  refine lv_iload_n hx hb dL_law_1328 rfl (lv_at hl 3 rfl) ?_
  refine lv_iconst (v := 2) hx hb dL_law_1329 (by decide) ?_
  refine lv_iadd hx hb dL_law_1330 ?_
  refine va_sld hx hb hXs hbl hbA hS hin2 dL_law_1331 ?_
  rw [ey2]
  refine lcallIL (As := [.int y1, .int y2]) (rest := []) (cxx_standingIn l E F a S y1 y2 r S2 h1) cal_X11_standingIn cav_X11_standingIn lk_L_155 cx hP hD hS hl dL_law_1332 rfl rfl rfl rfl (Nat.le_of_ble_eq_true rfl) ⟨Nat.le_of_ble_eq_true rfl, Nat.le_of_ble_eq_true rfl⟩ (Nat.le_of_ble_eq_true rfl) (Nat.le_of_ble_eq_true rfl) (fun H locs hP hD hS => ?_)
  refine lv_aload_n hx hb dL_law_1335 rfl (lv_at hl 2 rfl) ?_
  refine lv_aload_n hx hb dL_law_1336 rfl (lv_at hl 0 rfl) ?_
  refine lv_iload_n hx hb dL_law_1337 rfl (lv_at hl 3 rfl) ?_
  refine lv_iconst (v := 1) hx hb dL_law_1338 (by decide) ?_
  refine lv_iadd hx hb dL_law_1339 ?_
  refine va_sld hx hb hXs hbl hbA hS hin1 dL_law_1340 ?_
  rw [ey1]
  refine lv_aload_n hx hb dL_law_1341 rfl (lv_at hl 0 rfl) ?_
  refine lv_iload_n hx hb dL_law_1342 rfl (lv_at hl 3 rfl) ?_
  refine lv_iconst (v := 2) hx hb dL_law_1343 (by decide) ?_
  refine lv_iadd hx hb dL_law_1344 ?_
  refine va_sld hx hb hXs hbl hbA hS hin2 dL_law_1345 ?_
  rw [ey2]
  refine lcallIR (As := [.int y1, .int y2]) (rest := [.int r]) (cxm_standingIn l E F bb T y1 y2 r T2 h2) cal_X12_standingIn cav_X12_standingIn lk_L_158 cx hP hD hS hl dL_law_1346 rfl rfl rfl rfl (Nat.le_of_ble_eq_true rfl) ⟨Nat.le_of_ble_eq_true rfl, Nat.le_of_ble_eq_true rfl⟩ (Nat.le_of_ble_eq_true rfl) (Nat.le_of_ble_eq_true rfl) (fun H locs hP hD hS => ?_)
  refine lv_icmp_eq (tgt := 1926) hx hb dL_law_1349 (by decide) (fun hc => ?_) (fun hc => absurd rfl hc)
  exact again _ _ hR2 _ _ _ hP hD hS hl
set_option maxHeartbeats 8000000 in
set_option maxRecDepth 100000 in
theorem lc_33 (ok33 : ok_overIn F Rel) (cx : Cx p s m #[Value.ref b] meth c cL_law RL 4 rt E A) (hXs : va_X b L xs s s.heap) (hbl : b < s.heap.size) (hbA : ¬ A b) (hin1 : vp_in (nI i + 1) L) (hin2 : vp_in (nI i + 2) L) (hin3 : vp_in (nI i + 3) L) (hin4 : vp_in (nI i + 4) L) (hin5 : vp_in (nI i + 5) L) (ey1 : xs (nI i + 1).toNatClampNeg = y1) (ey2 : xs (nI i + 2).toNatClampNeg = y2) (ey3 : xs (nI i + 3).toNatClampNeg = y3) (ey4 : xs (nI i + 4).toNatClampNeg = y4) (ey5 : xs (nI i + 5).toNatClampNeg = y5) (again : ∀ (S T : vS), Rel S T → ∀ (H : Heap) (locs : List Loc) (ls : Array Slot), va_P E.1 vwCl (wf_X11 E a S ++ wf_X12 E bb T) H → va_D A (wf_X11 E a S ++ wf_X12 E bb T) → va_S A s.heap H locs → lv_has ls 4 [(0, .ref b), (1, .ref (a 0)), (2, .ref (bb 0)), (3, .int (nI i))] → W p l e room_1 s m #[Value.ref b] below meth c H locs 149 20625 QQ (F0 m 1926 ls [])) (hRel : Rel S T) (hP : va_P E.1 vwCl (wf_X11 E a S ++ wf_X12 E bb T) H) (hD : va_D A (wf_X11 E a S ++ wf_X12 E bb T)) (hS : va_S A s.heap H locs) (hl : lv_has ls 4 [(0, .ref b), (1, .ref (a 0)), (2, .ref (bb 0)), (3, .int (nI i))]) : W p l e room_1 s m #[Value.ref b] below meth c H locs 149 20625 QQ (F0 m 1354 ls []) := by
  obtain ⟨⟨hx, hb, hml, hown, hts⟩, hr, hlocks, hK, hA, hX⟩ := id cx
  obtain ⟨r, S2, T2, h1, h2, hR2⟩ := ok33 S T y1 hRel
  refine lv_aload_n hx hb dL_law_1354 rfl (lv_at hl 1 rfl) ?_
  refine lv_aload_n hx hb dL_law_1355 rfl (lv_at hl 0 rfl) ?_
  refine lv_iload_n hx hb dL_law_1356 rfl (lv_at hl 3 rfl) ?_
  refine lv_iconst (v := 1) hx hb dL_law_1357 (by decide) ?_
  refine lv_iadd hx hb dL_law_1358 ?_
  refine va_sld hx hb hXs hbl hbA hS hin1 dL_law_1359 ?_
  rw [ey1]
  refine lcallIL (As := [.int y1]) (rest := []) (cxx_overIn l E F a S y1 r S2 h1) cal_X11_overIn cav_X11_overIn lk_L_159 cx hP hD hS hl dL_law_1360 rfl rfl rfl rfl (Nat.le_of_ble_eq_true rfl) ⟨Nat.le_of_ble_eq_true rfl, Nat.le_of_ble_eq_true rfl⟩ (Nat.le_of_ble_eq_true rfl) (Nat.le_of_ble_eq_true rfl) (fun H locs hP hD hS => ?_)
  refine lv_aload_n hx hb dL_law_1363 rfl (lv_at hl 2 rfl) ?_
  refine lv_aload_n hx hb dL_law_1364 rfl (lv_at hl 0 rfl) ?_
  refine lv_iload_n hx hb dL_law_1365 rfl (lv_at hl 3 rfl) ?_
  refine lv_iconst (v := 1) hx hb dL_law_1366 (by decide) ?_
  refine lv_iadd hx hb dL_law_1367 ?_
  refine va_sld hx hb hXs hbl hbA hS hin1 dL_law_1368 ?_
  rw [ey1]
  refine lcallIR (As := [.int y1]) (rest := [.int r]) (cxm_overIn l E F bb T y1 r T2 h2) cal_X12_overIn cav_X12_overIn lk_L_162 cx hP hD hS hl dL_law_1369 rfl rfl rfl rfl (Nat.le_of_ble_eq_true rfl) ⟨Nat.le_of_ble_eq_true rfl, Nat.le_of_ble_eq_true rfl⟩ (Nat.le_of_ble_eq_true rfl) (Nat.le_of_ble_eq_true rfl) (fun H locs hP hD hS => ?_)
  refine lv_icmp_eq (tgt := 1926) hx hb dL_law_1372 (by decide) (fun hc => ?_) (fun hc => absurd rfl hc)
  exact again _ _ hR2 _ _ _ hP hD hS hl
set_option maxHeartbeats 8000000 in
set_option maxRecDepth 100000 in
theorem lc_34 (ok34 : ok_becomes F Rel) (cx : Cx p s m #[Value.ref b] meth c cL_law RL 4 rt E A) (hXs : va_X b L xs s s.heap) (hbl : b < s.heap.size) (hbA : ¬ A b) (hin1 : vp_in (nI i + 1) L) (hin2 : vp_in (nI i + 2) L) (hin3 : vp_in (nI i + 3) L) (hin4 : vp_in (nI i + 4) L) (hin5 : vp_in (nI i + 5) L) (ey1 : xs (nI i + 1).toNatClampNeg = y1) (ey2 : xs (nI i + 2).toNatClampNeg = y2) (ey3 : xs (nI i + 3).toNatClampNeg = y3) (ey4 : xs (nI i + 4).toNatClampNeg = y4) (ey5 : xs (nI i + 5).toNatClampNeg = y5) (again : ∀ (S T : vS), Rel S T → ∀ (H : Heap) (locs : List Loc) (ls : Array Slot), va_P E.1 vwCl (wf_X11 E a S ++ wf_X12 E bb T) H → va_D A (wf_X11 E a S ++ wf_X12 E bb T) → va_S A s.heap H locs → lv_has ls 4 [(0, .ref b), (1, .ref (a 0)), (2, .ref (bb 0)), (3, .int (nI i))] → W p l e room_1 s m #[Value.ref b] below meth c H locs 149 20625 QQ (F0 m 1926 ls [])) (hRel : Rel S T) (hP : va_P E.1 vwCl (wf_X11 E a S ++ wf_X12 E bb T) H) (hD : va_D A (wf_X11 E a S ++ wf_X12 E bb T)) (hS : va_S A s.heap H locs) (hl : lv_has ls 4 [(0, .ref b), (1, .ref (a 0)), (2, .ref (bb 0)), (3, .int (nI i))]) : W p l e room_1 s m #[Value.ref b] below meth c H locs 149 20625 QQ (F0 m 1377 ls []) := by
  obtain ⟨⟨hx, hb, hml, hown, hts⟩, hr, hlocks, hK, hA, hX⟩ := id cx
  obtain ⟨r, S2, T2, h1, h2, hR2⟩ := ok34 S T y1 hRel
  refine lv_aload_n hx hb dL_law_1377 rfl (lv_at hl 1 rfl) ?_
  refine lv_aload_n hx hb dL_law_1378 rfl (lv_at hl 0 rfl) ?_
  refine lv_iload_n hx hb dL_law_1379 rfl (lv_at hl 3 rfl) ?_
  refine lv_iconst (v := 1) hx hb dL_law_1380 (by decide) ?_
  refine lv_iadd hx hb dL_law_1381 ?_
  refine va_sld hx hb hXs hbl hbA hS hin1 dL_law_1382 ?_
  rw [ey1]
  refine lcallIL (As := [.int y1]) (rest := []) (cxx_becomes l E F a S y1 r S2 h1) cal_X11_becomes cav_X11_becomes lk_L_163 cx hP hD hS hl dL_law_1383 rfl rfl rfl rfl (Nat.le_of_ble_eq_true rfl) ⟨Nat.le_of_ble_eq_true rfl, Nat.le_of_ble_eq_true rfl⟩ (Nat.le_of_ble_eq_true rfl) (Nat.le_of_ble_eq_true rfl) (fun H locs hP hD hS => ?_)
  refine lv_aload_n hx hb dL_law_1386 rfl (lv_at hl 2 rfl) ?_
  refine lv_aload_n hx hb dL_law_1387 rfl (lv_at hl 0 rfl) ?_
  refine lv_iload_n hx hb dL_law_1388 rfl (lv_at hl 3 rfl) ?_
  refine lv_iconst (v := 1) hx hb dL_law_1389 (by decide) ?_
  refine lv_iadd hx hb dL_law_1390 ?_
  refine va_sld hx hb hXs hbl hbA hS hin1 dL_law_1391 ?_
  rw [ey1]
  refine lcallIR (As := [.int y1]) (rest := [.int r]) (cxm_becomes l E F bb T y1 r T2 h2) cal_X12_becomes cav_X12_becomes lk_L_166 cx hP hD hS hl dL_law_1392 rfl rfl rfl rfl (Nat.le_of_ble_eq_true rfl) ⟨Nat.le_of_ble_eq_true rfl, Nat.le_of_ble_eq_true rfl⟩ (Nat.le_of_ble_eq_true rfl) (Nat.le_of_ble_eq_true rfl) (fun H locs hP hD hS => ?_)
  refine lv_icmp_eq (tgt := 1926) hx hb dL_law_1395 (by decide) (fun hc => ?_) (fun hc => absurd rfl hc)
  exact again _ _ hR2 _ _ _ hP hD hS hl
set_option maxHeartbeats 8000000 in
set_option maxRecDepth 100000 in
theorem lc_35 (ok35 : ok_wagesIn F Rel) (cx : Cx p s m #[Value.ref b] meth c cL_law RL 4 rt E A) (hXs : va_X b L xs s s.heap) (hbl : b < s.heap.size) (hbA : ¬ A b) (hin1 : vp_in (nI i + 1) L) (hin2 : vp_in (nI i + 2) L) (hin3 : vp_in (nI i + 3) L) (hin4 : vp_in (nI i + 4) L) (hin5 : vp_in (nI i + 5) L) (ey1 : xs (nI i + 1).toNatClampNeg = y1) (ey2 : xs (nI i + 2).toNatClampNeg = y2) (ey3 : xs (nI i + 3).toNatClampNeg = y3) (ey4 : xs (nI i + 4).toNatClampNeg = y4) (ey5 : xs (nI i + 5).toNatClampNeg = y5) (again : ∀ (S T : vS), Rel S T → ∀ (H : Heap) (locs : List Loc) (ls : Array Slot), va_P E.1 vwCl (wf_X11 E a S ++ wf_X12 E bb T) H → va_D A (wf_X11 E a S ++ wf_X12 E bb T) → va_S A s.heap H locs → lv_has ls 4 [(0, .ref b), (1, .ref (a 0)), (2, .ref (bb 0)), (3, .int (nI i))] → W p l e room_1 s m #[Value.ref b] below meth c H locs 149 20625 QQ (F0 m 1926 ls [])) (hRel : Rel S T) (hP : va_P E.1 vwCl (wf_X11 E a S ++ wf_X12 E bb T) H) (hD : va_D A (wf_X11 E a S ++ wf_X12 E bb T)) (hS : va_S A s.heap H locs) (hl : lv_has ls 4 [(0, .ref b), (1, .ref (a 0)), (2, .ref (bb 0)), (3, .int (nI i))]) : W p l e room_1 s m #[Value.ref b] below meth c H locs 149 20625 QQ (F0 m 1400 ls []) := by
  obtain ⟨⟨hx, hb, hml, hown, hts⟩, hr, hlocks, hK, hA, hX⟩ := id cx
  obtain ⟨r, S2, T2, h1, h2, hR2⟩ := ok35 S T y1 y2 hRel
  refine lv_aload_n hx hb dL_law_1400 rfl (lv_at hl 1 rfl) ?_
  refine lv_aload_n hx hb dL_law_1401 rfl (lv_at hl 0 rfl) ?_
  refine lv_iload_n hx hb dL_law_1402 rfl (lv_at hl 3 rfl) ?_
  refine lv_iconst (v := 1) hx hb dL_law_1403 (by decide) ?_
  refine lv_iadd hx hb dL_law_1404 ?_
  refine va_sld hx hb hXs hbl hbA hS hin1 dL_law_1405 ?_
  rw [ey1]
  refine lv_aload_n hx hb dL_law_1406 rfl (lv_at hl 0 rfl) ?_
  refine lv_iload_n hx hb dL_law_1407 rfl (lv_at hl 3 rfl) ?_
  refine lv_iconst (v := 2) hx hb dL_law_1408 (by decide) ?_
  refine lv_iadd hx hb dL_law_1409 ?_
  refine va_sld hx hb hXs hbl hbA hS hin2 dL_law_1410 ?_
  rw [ey2]
  refine lcallIL (As := [.int y1, .int y2]) (rest := []) (cxx_wagesIn l E F a S y1 y2 r S2 h1) cal_X11_wagesIn cav_X11_wagesIn lk_L_167 cx hP hD hS hl dL_law_1411 rfl rfl rfl rfl (Nat.le_of_ble_eq_true rfl) ⟨Nat.le_of_ble_eq_true rfl, Nat.le_of_ble_eq_true rfl⟩ (Nat.le_of_ble_eq_true rfl) (Nat.le_of_ble_eq_true rfl) (fun H locs hP hD hS => ?_)
  refine lv_aload_n hx hb dL_law_1414 rfl (lv_at hl 2 rfl) ?_
  refine lv_aload_n hx hb dL_law_1415 rfl (lv_at hl 0 rfl) ?_
  refine lv_iload_n hx hb dL_law_1416 rfl (lv_at hl 3 rfl) ?_
  refine lv_iconst (v := 1) hx hb dL_law_1417 (by decide) ?_
  refine lv_iadd hx hb dL_law_1418 ?_
  refine va_sld hx hb hXs hbl hbA hS hin1 dL_law_1419 ?_
  rw [ey1]
  refine lv_aload_n hx hb dL_law_1420 rfl (lv_at hl 0 rfl) ?_
  refine lv_iload_n hx hb dL_law_1421 rfl (lv_at hl 3 rfl) ?_
  refine lv_iconst (v := 2) hx hb dL_law_1422 (by decide) ?_
  refine lv_iadd hx hb dL_law_1423 ?_
  refine va_sld hx hb hXs hbl hbA hS hin2 dL_law_1424 ?_
  rw [ey2]
  refine lcallIR (As := [.int y1, .int y2]) (rest := [.int r]) (cxm_wagesIn l E F bb T y1 y2 r T2 h2) cal_X12_wagesIn cav_X12_wagesIn lk_L_170 cx hP hD hS hl dL_law_1425 rfl rfl rfl rfl (Nat.le_of_ble_eq_true rfl) ⟨Nat.le_of_ble_eq_true rfl, Nat.le_of_ble_eq_true rfl⟩ (Nat.le_of_ble_eq_true rfl) (Nat.le_of_ble_eq_true rfl) (fun H locs hP hD hS => ?_)
  refine lv_icmp_eq (tgt := 1926) hx hb dL_law_1428 (by decide) (fun hc => ?_) (fun hc => absurd rfl hc)
  exact again _ _ hR2 _ _ _ hP hD hS hl
set_option maxHeartbeats 8000000 in
set_option maxRecDepth 100000 in
theorem lc_36 (ok36 : ok_warnedIn F Rel) (cx : Cx p s m #[Value.ref b] meth c cL_law RL 4 rt E A) (hXs : va_X b L xs s s.heap) (hbl : b < s.heap.size) (hbA : ¬ A b) (hin1 : vp_in (nI i + 1) L) (hin2 : vp_in (nI i + 2) L) (hin3 : vp_in (nI i + 3) L) (hin4 : vp_in (nI i + 4) L) (hin5 : vp_in (nI i + 5) L) (ey1 : xs (nI i + 1).toNatClampNeg = y1) (ey2 : xs (nI i + 2).toNatClampNeg = y2) (ey3 : xs (nI i + 3).toNatClampNeg = y3) (ey4 : xs (nI i + 4).toNatClampNeg = y4) (ey5 : xs (nI i + 5).toNatClampNeg = y5) (again : ∀ (S T : vS), Rel S T → ∀ (H : Heap) (locs : List Loc) (ls : Array Slot), va_P E.1 vwCl (wf_X11 E a S ++ wf_X12 E bb T) H → va_D A (wf_X11 E a S ++ wf_X12 E bb T) → va_S A s.heap H locs → lv_has ls 4 [(0, .ref b), (1, .ref (a 0)), (2, .ref (bb 0)), (3, .int (nI i))] → W p l e room_1 s m #[Value.ref b] below meth c H locs 149 20625 QQ (F0 m 1926 ls [])) (hRel : Rel S T) (hP : va_P E.1 vwCl (wf_X11 E a S ++ wf_X12 E bb T) H) (hD : va_D A (wf_X11 E a S ++ wf_X12 E bb T)) (hS : va_S A s.heap H locs) (hl : lv_has ls 4 [(0, .ref b), (1, .ref (a 0)), (2, .ref (bb 0)), (3, .int (nI i))]) : W p l e room_1 s m #[Value.ref b] below meth c H locs 149 20625 QQ (F0 m 1433 ls []) := by
  obtain ⟨⟨hx, hb, hml, hown, hts⟩, hr, hlocks, hK, hA, hX⟩ := id cx
  obtain ⟨r, S2, T2, h1, h2, hR2⟩ := ok36 S T y1 y2 hRel
  refine lv_aload_n hx hb dL_law_1433 rfl (lv_at hl 1 rfl) ?_
  refine lv_aload_n hx hb dL_law_1434 rfl (lv_at hl 0 rfl) ?_
  refine lv_iload_n hx hb dL_law_1435 rfl (lv_at hl 3 rfl) ?_
  refine lv_iconst (v := 1) hx hb dL_law_1436 (by decide) ?_
  refine lv_iadd hx hb dL_law_1437 ?_
  refine va_sld hx hb hXs hbl hbA hS hin1 dL_law_1438 ?_
  rw [ey1]
  refine lv_aload_n hx hb dL_law_1439 rfl (lv_at hl 0 rfl) ?_
  refine lv_iload_n hx hb dL_law_1440 rfl (lv_at hl 3 rfl) ?_
  refine lv_iconst (v := 2) hx hb dL_law_1441 (by decide) ?_
  refine lv_iadd hx hb dL_law_1442 ?_
  refine va_sld hx hb hXs hbl hbA hS hin2 dL_law_1443 ?_
  rw [ey2]
  refine lcallIL (As := [.int y1, .int y2]) (rest := []) (cxx_warnedIn l E F a S y1 y2 r S2 h1) cal_X11_warnedIn cav_X11_warnedIn lk_L_171 cx hP hD hS hl dL_law_1444 rfl rfl rfl rfl (Nat.le_of_ble_eq_true rfl) ⟨Nat.le_of_ble_eq_true rfl, Nat.le_of_ble_eq_true rfl⟩ (Nat.le_of_ble_eq_true rfl) (Nat.le_of_ble_eq_true rfl) (fun H locs hP hD hS => ?_)
  refine lv_aload_n hx hb dL_law_1447 rfl (lv_at hl 2 rfl) ?_
  refine lv_aload_n hx hb dL_law_1448 rfl (lv_at hl 0 rfl) ?_
  refine lv_iload_n hx hb dL_law_1449 rfl (lv_at hl 3 rfl) ?_
  refine lv_iconst (v := 1) hx hb dL_law_1450 (by decide) ?_
  refine lv_iadd hx hb dL_law_1451 ?_
  refine va_sld hx hb hXs hbl hbA hS hin1 dL_law_1452 ?_
  rw [ey1]
  refine lv_aload_n hx hb dL_law_1453 rfl (lv_at hl 0 rfl) ?_
  refine lv_iload_n hx hb dL_law_1454 rfl (lv_at hl 3 rfl) ?_
  refine lv_iconst (v := 2) hx hb dL_law_1455 (by decide) ?_
  refine lv_iadd hx hb dL_law_1456 ?_
  refine va_sld hx hb hXs hbl hbA hS hin2 dL_law_1457 ?_
  rw [ey2]
  refine lcallIR (As := [.int y1, .int y2]) (rest := [.int r]) (cxm_warnedIn l E F bb T y1 y2 r T2 h2) cal_X12_warnedIn cav_X12_warnedIn lk_L_174 cx hP hD hS hl dL_law_1458 rfl rfl rfl rfl (Nat.le_of_ble_eq_true rfl) ⟨Nat.le_of_ble_eq_true rfl, Nat.le_of_ble_eq_true rfl⟩ (Nat.le_of_ble_eq_true rfl) (Nat.le_of_ble_eq_true rfl) (fun H locs hP hD hS => ?_)
  refine lv_icmp_eq (tgt := 1926) hx hb dL_law_1461 (by decide) (fun hc => ?_) (fun hc => absurd rfl hc)
  exact again _ _ hR2 _ _ _ hP hD hS hl
set_option maxHeartbeats 8000000 in
set_option maxRecDepth 100000 in
theorem lc_37 (ok37 : ok_attends F Rel) (cx : Cx p s m #[Value.ref b] meth c cL_law RL 4 rt E A) (hXs : va_X b L xs s s.heap) (hbl : b < s.heap.size) (hbA : ¬ A b) (hin1 : vp_in (nI i + 1) L) (hin2 : vp_in (nI i + 2) L) (hin3 : vp_in (nI i + 3) L) (hin4 : vp_in (nI i + 4) L) (hin5 : vp_in (nI i + 5) L) (ey1 : xs (nI i + 1).toNatClampNeg = y1) (ey2 : xs (nI i + 2).toNatClampNeg = y2) (ey3 : xs (nI i + 3).toNatClampNeg = y3) (ey4 : xs (nI i + 4).toNatClampNeg = y4) (ey5 : xs (nI i + 5).toNatClampNeg = y5) (again : ∀ (S T : vS), Rel S T → ∀ (H : Heap) (locs : List Loc) (ls : Array Slot), va_P E.1 vwCl (wf_X11 E a S ++ wf_X12 E bb T) H → va_D A (wf_X11 E a S ++ wf_X12 E bb T) → va_S A s.heap H locs → lv_has ls 4 [(0, .ref b), (1, .ref (a 0)), (2, .ref (bb 0)), (3, .int (nI i))] → W p l e room_1 s m #[Value.ref b] below meth c H locs 149 20625 QQ (F0 m 1926 ls [])) (hRel : Rel S T) (hP : va_P E.1 vwCl (wf_X11 E a S ++ wf_X12 E bb T) H) (hD : va_D A (wf_X11 E a S ++ wf_X12 E bb T)) (hS : va_S A s.heap H locs) (hl : lv_has ls 4 [(0, .ref b), (1, .ref (a 0)), (2, .ref (bb 0)), (3, .int (nI i))]) : W p l e room_1 s m #[Value.ref b] below meth c H locs 149 20625 QQ (F0 m 1466 ls []) := by
  obtain ⟨⟨hx, hb, hml, hown, hts⟩, hr, hlocks, hK, hA, hX⟩ := id cx
  obtain ⟨r, S2, T2, h1, h2, hR2⟩ := ok37 S T y1 y2 hRel
  refine lv_aload_n hx hb dL_law_1466 rfl (lv_at hl 1 rfl) ?_
  refine lv_aload_n hx hb dL_law_1467 rfl (lv_at hl 0 rfl) ?_
  refine lv_iload_n hx hb dL_law_1468 rfl (lv_at hl 3 rfl) ?_
  refine lv_iconst (v := 1) hx hb dL_law_1469 (by decide) ?_
  refine lv_iadd hx hb dL_law_1470 ?_
  refine va_sld hx hb hXs hbl hbA hS hin1 dL_law_1471 ?_
  rw [ey1]
  refine lv_aload_n hx hb dL_law_1472 rfl (lv_at hl 0 rfl) ?_
  refine lv_iload_n hx hb dL_law_1473 rfl (lv_at hl 3 rfl) ?_
  refine lv_iconst (v := 2) hx hb dL_law_1474 (by decide) ?_
  refine lv_iadd hx hb dL_law_1475 ?_
  refine va_sld hx hb hXs hbl hbA hS hin2 dL_law_1476 ?_
  rw [ey2]
  refine lcallIL (As := [.int y1, .int y2]) (rest := []) (cxx_attends l E F a S y1 y2 r S2 h1) cal_X11_attends cav_X11_attends lk_L_175 cx hP hD hS hl dL_law_1477 rfl rfl rfl rfl (Nat.le_of_ble_eq_true rfl) ⟨Nat.le_of_ble_eq_true rfl, Nat.le_of_ble_eq_true rfl⟩ (Nat.le_of_ble_eq_true rfl) (Nat.le_of_ble_eq_true rfl) (fun H locs hP hD hS => ?_)
  refine lv_aload_n hx hb dL_law_1480 rfl (lv_at hl 2 rfl) ?_
  refine lv_aload_n hx hb dL_law_1481 rfl (lv_at hl 0 rfl) ?_
  refine lv_iload_n hx hb dL_law_1482 rfl (lv_at hl 3 rfl) ?_
  refine lv_iconst (v := 1) hx hb dL_law_1483 (by decide) ?_
  refine lv_iadd hx hb dL_law_1484 ?_
  refine va_sld hx hb hXs hbl hbA hS hin1 dL_law_1485 ?_
  rw [ey1]
  refine lv_aload_n hx hb dL_law_1486 rfl (lv_at hl 0 rfl) ?_
  refine lv_iload_n hx hb dL_law_1487 rfl (lv_at hl 3 rfl) ?_
  refine lv_iconst (v := 2) hx hb dL_law_1488 (by decide) ?_
  refine lv_iadd hx hb dL_law_1489 ?_
  refine va_sld hx hb hXs hbl hbA hS hin2 dL_law_1490 ?_
  rw [ey2]
  refine lcallIR (As := [.int y1, .int y2]) (rest := [.int r]) (cxm_attends l E F bb T y1 y2 r T2 h2) cal_X12_attends cav_X12_attends lk_L_178 cx hP hD hS hl dL_law_1491 rfl rfl rfl rfl (Nat.le_of_ble_eq_true rfl) ⟨Nat.le_of_ble_eq_true rfl, Nat.le_of_ble_eq_true rfl⟩ (Nat.le_of_ble_eq_true rfl) (Nat.le_of_ble_eq_true rfl) (fun H locs hP hD hS => ?_)
  refine lv_icmp_eq (tgt := 1926) hx hb dL_law_1494 (by decide) (fun hc => ?_) (fun hc => absurd rfl hc)
  exact again _ _ hR2 _ _ _ hP hD hS hl
set_option maxHeartbeats 8000000 in
set_option maxRecDepth 100000 in
theorem lc_38 (ok38 : ok_best F Rel) (cx : Cx p s m #[Value.ref b] meth c cL_law RL 4 rt E A) (hXs : va_X b L xs s s.heap) (hbl : b < s.heap.size) (hbA : ¬ A b) (hin1 : vp_in (nI i + 1) L) (hin2 : vp_in (nI i + 2) L) (hin3 : vp_in (nI i + 3) L) (hin4 : vp_in (nI i + 4) L) (hin5 : vp_in (nI i + 5) L) (ey1 : xs (nI i + 1).toNatClampNeg = y1) (ey2 : xs (nI i + 2).toNatClampNeg = y2) (ey3 : xs (nI i + 3).toNatClampNeg = y3) (ey4 : xs (nI i + 4).toNatClampNeg = y4) (ey5 : xs (nI i + 5).toNatClampNeg = y5) (again : ∀ (S T : vS), Rel S T → ∀ (H : Heap) (locs : List Loc) (ls : Array Slot), va_P E.1 vwCl (wf_X11 E a S ++ wf_X12 E bb T) H → va_D A (wf_X11 E a S ++ wf_X12 E bb T) → va_S A s.heap H locs → lv_has ls 4 [(0, .ref b), (1, .ref (a 0)), (2, .ref (bb 0)), (3, .int (nI i))] → W p l e room_1 s m #[Value.ref b] below meth c H locs 149 20625 QQ (F0 m 1926 ls [])) (hRel : Rel S T) (hP : va_P E.1 vwCl (wf_X11 E a S ++ wf_X12 E bb T) H) (hD : va_D A (wf_X11 E a S ++ wf_X12 E bb T)) (hS : va_S A s.heap H locs) (hl : lv_has ls 4 [(0, .ref b), (1, .ref (a 0)), (2, .ref (bb 0)), (3, .int (nI i))]) : W p l e room_1 s m #[Value.ref b] below meth c H locs 149 20625 QQ (F0 m 1499 ls []) := by
  obtain ⟨⟨hx, hb, hml, hown, hts⟩, hr, hlocks, hK, hA, hX⟩ := id cx
  obtain ⟨r, S2, T2, h1, h2, hR2⟩ := ok38 S T y1 hRel
  refine lv_aload_n hx hb dL_law_1499 rfl (lv_at hl 1 rfl) ?_
  refine lv_aload_n hx hb dL_law_1500 rfl (lv_at hl 0 rfl) ?_
  refine lv_iload_n hx hb dL_law_1501 rfl (lv_at hl 3 rfl) ?_
  refine lv_iconst (v := 1) hx hb dL_law_1502 (by decide) ?_
  refine lv_iadd hx hb dL_law_1503 ?_
  refine va_sld hx hb hXs hbl hbA hS hin1 dL_law_1504 ?_
  rw [ey1]
  refine lcallIL (As := [.int y1]) (rest := []) (cxx_best l E F a S y1 r S2 h1) cal_X11_best cav_X11_best lk_L_179 cx hP hD hS hl dL_law_1505 rfl rfl rfl rfl (Nat.le_of_ble_eq_true rfl) ⟨Nat.le_of_ble_eq_true rfl, Nat.le_of_ble_eq_true rfl⟩ (Nat.le_of_ble_eq_true rfl) (Nat.le_of_ble_eq_true rfl) (fun H locs hP hD hS => ?_)
  refine lv_aload_n hx hb dL_law_1508 rfl (lv_at hl 2 rfl) ?_
  refine lv_aload_n hx hb dL_law_1509 rfl (lv_at hl 0 rfl) ?_
  refine lv_iload_n hx hb dL_law_1510 rfl (lv_at hl 3 rfl) ?_
  refine lv_iconst (v := 1) hx hb dL_law_1511 (by decide) ?_
  refine lv_iadd hx hb dL_law_1512 ?_
  refine va_sld hx hb hXs hbl hbA hS hin1 dL_law_1513 ?_
  rw [ey1]
  refine lcallIR (As := [.int y1]) (rest := [.int r]) (cxm_best l E F bb T y1 r T2 h2) cal_X12_best cav_X12_best lk_L_182 cx hP hD hS hl dL_law_1514 rfl rfl rfl rfl (Nat.le_of_ble_eq_true rfl) ⟨Nat.le_of_ble_eq_true rfl, Nat.le_of_ble_eq_true rfl⟩ (Nat.le_of_ble_eq_true rfl) (Nat.le_of_ble_eq_true rfl) (fun H locs hP hD hS => ?_)
  refine lv_icmp_eq (tgt := 1926) hx hb dL_law_1517 (by decide) (fun hc => ?_) (fun hc => absurd rfl hc)
  exact again _ _ hR2 _ _ _ hP hD hS hl
set_option maxHeartbeats 8000000 in
set_option maxRecDepth 100000 in
theorem lc_39 (ok39 : ok_bestWages F Rel) (cx : Cx p s m #[Value.ref b] meth c cL_law RL 4 rt E A) (hXs : va_X b L xs s s.heap) (hbl : b < s.heap.size) (hbA : ¬ A b) (hin1 : vp_in (nI i + 1) L) (hin2 : vp_in (nI i + 2) L) (hin3 : vp_in (nI i + 3) L) (hin4 : vp_in (nI i + 4) L) (hin5 : vp_in (nI i + 5) L) (ey1 : xs (nI i + 1).toNatClampNeg = y1) (ey2 : xs (nI i + 2).toNatClampNeg = y2) (ey3 : xs (nI i + 3).toNatClampNeg = y3) (ey4 : xs (nI i + 4).toNatClampNeg = y4) (ey5 : xs (nI i + 5).toNatClampNeg = y5) (again : ∀ (S T : vS), Rel S T → ∀ (H : Heap) (locs : List Loc) (ls : Array Slot), va_P E.1 vwCl (wf_X11 E a S ++ wf_X12 E bb T) H → va_D A (wf_X11 E a S ++ wf_X12 E bb T) → va_S A s.heap H locs → lv_has ls 4 [(0, .ref b), (1, .ref (a 0)), (2, .ref (bb 0)), (3, .int (nI i))] → W p l e room_1 s m #[Value.ref b] below meth c H locs 149 20625 QQ (F0 m 1926 ls [])) (hRel : Rel S T) (hP : va_P E.1 vwCl (wf_X11 E a S ++ wf_X12 E bb T) H) (hD : va_D A (wf_X11 E a S ++ wf_X12 E bb T)) (hS : va_S A s.heap H locs) (hl : lv_has ls 4 [(0, .ref b), (1, .ref (a 0)), (2, .ref (bb 0)), (3, .int (nI i))]) : W p l e room_1 s m #[Value.ref b] below meth c H locs 149 20625 QQ (F0 m 1522 ls []) := by
  obtain ⟨⟨hx, hb, hml, hown, hts⟩, hr, hlocks, hK, hA, hX⟩ := id cx
  obtain ⟨r, S2, T2, h1, h2, hR2⟩ := ok39 S T y1 hRel
  refine lv_aload_n hx hb dL_law_1522 rfl (lv_at hl 1 rfl) ?_
  refine lv_aload_n hx hb dL_law_1523 rfl (lv_at hl 0 rfl) ?_
  refine lv_iload_n hx hb dL_law_1524 rfl (lv_at hl 3 rfl) ?_
  refine lv_iconst (v := 1) hx hb dL_law_1525 (by decide) ?_
  refine lv_iadd hx hb dL_law_1526 ?_
  refine va_sld hx hb hXs hbl hbA hS hin1 dL_law_1527 ?_
  rw [ey1]
  refine lcallIL (As := [.int y1]) (rest := []) (cxx_bestWages l E F a S y1 r S2 h1) cal_X11_bestWages cav_X11_bestWages lk_L_183 cx hP hD hS hl dL_law_1528 rfl rfl rfl rfl (Nat.le_of_ble_eq_true rfl) ⟨Nat.le_of_ble_eq_true rfl, Nat.le_of_ble_eq_true rfl⟩ (Nat.le_of_ble_eq_true rfl) (Nat.le_of_ble_eq_true rfl) (fun H locs hP hD hS => ?_)
  refine lv_aload_n hx hb dL_law_1531 rfl (lv_at hl 2 rfl) ?_
  refine lv_aload_n hx hb dL_law_1532 rfl (lv_at hl 0 rfl) ?_
  refine lv_iload_n hx hb dL_law_1533 rfl (lv_at hl 3 rfl) ?_
  refine lv_iconst (v := 1) hx hb dL_law_1534 (by decide) ?_
  refine lv_iadd hx hb dL_law_1535 ?_
  refine va_sld hx hb hXs hbl hbA hS hin1 dL_law_1536 ?_
  rw [ey1]
  refine lcallIR (As := [.int y1]) (rest := [.int r]) (cxm_bestWages l E F bb T y1 r T2 h2) cal_X12_bestWages cav_X12_bestWages lk_L_186 cx hP hD hS hl dL_law_1537 rfl rfl rfl rfl (Nat.le_of_ble_eq_true rfl) ⟨Nat.le_of_ble_eq_true rfl, Nat.le_of_ble_eq_true rfl⟩ (Nat.le_of_ble_eq_true rfl) (Nat.le_of_ble_eq_true rfl) (fun H locs hP hD hS => ?_)
  refine lv_icmp_eq (tgt := 1926) hx hb dL_law_1540 (by decide) (fun hc => ?_) (fun hc => absurd rfl hc)
  exact again _ _ hR2 _ _ _ hP hD hS hl
set_option maxHeartbeats 8000000 in
set_option maxRecDepth 100000 in
theorem lc_40 (ok40 : ok_fewest F Rel) (cx : Cx p s m #[Value.ref b] meth c cL_law RL 4 rt E A) (hXs : va_X b L xs s s.heap) (hbl : b < s.heap.size) (hbA : ¬ A b) (hin1 : vp_in (nI i + 1) L) (hin2 : vp_in (nI i + 2) L) (hin3 : vp_in (nI i + 3) L) (hin4 : vp_in (nI i + 4) L) (hin5 : vp_in (nI i + 5) L) (ey1 : xs (nI i + 1).toNatClampNeg = y1) (ey2 : xs (nI i + 2).toNatClampNeg = y2) (ey3 : xs (nI i + 3).toNatClampNeg = y3) (ey4 : xs (nI i + 4).toNatClampNeg = y4) (ey5 : xs (nI i + 5).toNatClampNeg = y5) (again : ∀ (S T : vS), Rel S T → ∀ (H : Heap) (locs : List Loc) (ls : Array Slot), va_P E.1 vwCl (wf_X11 E a S ++ wf_X12 E bb T) H → va_D A (wf_X11 E a S ++ wf_X12 E bb T) → va_S A s.heap H locs → lv_has ls 4 [(0, .ref b), (1, .ref (a 0)), (2, .ref (bb 0)), (3, .int (nI i))] → W p l e room_1 s m #[Value.ref b] below meth c H locs 149 20625 QQ (F0 m 1926 ls [])) (hRel : Rel S T) (hP : va_P E.1 vwCl (wf_X11 E a S ++ wf_X12 E bb T) H) (hD : va_D A (wf_X11 E a S ++ wf_X12 E bb T)) (hS : va_S A s.heap H locs) (hl : lv_has ls 4 [(0, .ref b), (1, .ref (a 0)), (2, .ref (bb 0)), (3, .int (nI i))]) : W p l e room_1 s m #[Value.ref b] below meth c H locs 149 20625 QQ (F0 m 1545 ls []) := by
  obtain ⟨⟨hx, hb, hml, hown, hts⟩, hr, hlocks, hK, hA, hX⟩ := id cx
  obtain ⟨r, S2, T2, h1, h2, hR2⟩ := ok40 S T  hRel
  refine lv_aload_n hx hb dL_law_1545 rfl (lv_at hl 1 rfl) ?_
  refine lcallIL (As := []) (rest := []) (cxx_fewest l E F a S  r S2 h1) cal_X11_fewest cav_X11_fewest lk_L_187 cx hP hD hS hl dL_law_1546 rfl rfl rfl rfl (Nat.le_of_ble_eq_true rfl) ⟨Nat.le_of_ble_eq_true rfl, Nat.le_of_ble_eq_true rfl⟩ (Nat.le_of_ble_eq_true rfl) (Nat.le_of_ble_eq_true rfl) (fun H locs hP hD hS => ?_)
  refine lv_aload_n hx hb dL_law_1549 rfl (lv_at hl 2 rfl) ?_
  refine lcallIR (As := []) (rest := [.int r]) (cxm_fewest l E F bb T  r T2 h2) cal_X12_fewest cav_X12_fewest lk_L_190 cx hP hD hS hl dL_law_1550 rfl rfl rfl rfl (Nat.le_of_ble_eq_true rfl) ⟨Nat.le_of_ble_eq_true rfl, Nat.le_of_ble_eq_true rfl⟩ (Nat.le_of_ble_eq_true rfl) (Nat.le_of_ble_eq_true rfl) (fun H locs hP hD hS => ?_)
  refine lv_icmp_eq (tgt := 1926) hx hb dL_law_1553 (by decide) (fun hc => ?_) (fun hc => absurd rfl hc)
  exact again _ _ hR2 _ _ _ hP hD hS hl
set_option maxHeartbeats 8000000 in
set_option maxRecDepth 100000 in
theorem lc_41 (ok41 : ok_fewestSet F Rel) (cx : Cx p s m #[Value.ref b] meth c cL_law RL 4 rt E A) (hXs : va_X b L xs s s.heap) (hbl : b < s.heap.size) (hbA : ¬ A b) (hin1 : vp_in (nI i + 1) L) (hin2 : vp_in (nI i + 2) L) (hin3 : vp_in (nI i + 3) L) (hin4 : vp_in (nI i + 4) L) (hin5 : vp_in (nI i + 5) L) (ey1 : xs (nI i + 1).toNatClampNeg = y1) (ey2 : xs (nI i + 2).toNatClampNeg = y2) (ey3 : xs (nI i + 3).toNatClampNeg = y3) (ey4 : xs (nI i + 4).toNatClampNeg = y4) (ey5 : xs (nI i + 5).toNatClampNeg = y5) (again : ∀ (S T : vS), Rel S T → ∀ (H : Heap) (locs : List Loc) (ls : Array Slot), va_P E.1 vwCl (wf_X11 E a S ++ wf_X12 E bb T) H → va_D A (wf_X11 E a S ++ wf_X12 E bb T) → va_S A s.heap H locs → lv_has ls 4 [(0, .ref b), (1, .ref (a 0)), (2, .ref (bb 0)), (3, .int (nI i))] → W p l e room_1 s m #[Value.ref b] below meth c H locs 149 20625 QQ (F0 m 1926 ls [])) (hRel : Rel S T) (hP : va_P E.1 vwCl (wf_X11 E a S ++ wf_X12 E bb T) H) (hD : va_D A (wf_X11 E a S ++ wf_X12 E bb T)) (hS : va_S A s.heap H locs) (hl : lv_has ls 4 [(0, .ref b), (1, .ref (a 0)), (2, .ref (bb 0)), (3, .int (nI i))]) : W p l e room_1 s m #[Value.ref b] below meth c H locs 149 20625 QQ (F0 m 1558 ls []) := by
  obtain ⟨⟨hx, hb, hml, hown, hts⟩, hr, hlocks, hK, hA, hX⟩ := id cx
  obtain ⟨r, S2, T2, h1, h2, hR2⟩ := ok41 S T  hRel
  refine lv_aload_n hx hb dL_law_1558 rfl (lv_at hl 1 rfl) ?_
  refine lcallIL (As := []) (rest := []) (cxx_fewestSet l E F a S  r S2 h1) cal_X11_fewestSet cav_X11_fewestSet lk_L_191 cx hP hD hS hl dL_law_1559 rfl rfl rfl rfl (Nat.le_of_ble_eq_true rfl) ⟨Nat.le_of_ble_eq_true rfl, Nat.le_of_ble_eq_true rfl⟩ (Nat.le_of_ble_eq_true rfl) (Nat.le_of_ble_eq_true rfl) (fun H locs hP hD hS => ?_)
  refine lv_aload_n hx hb dL_law_1562 rfl (lv_at hl 2 rfl) ?_
  refine lcallIR (As := []) (rest := [.int r]) (cxm_fewestSet l E F bb T  r T2 h2) cal_X12_fewestSet cav_X12_fewestSet lk_L_194 cx hP hD hS hl dL_law_1563 rfl rfl rfl rfl (Nat.le_of_ble_eq_true rfl) ⟨Nat.le_of_ble_eq_true rfl, Nat.le_of_ble_eq_true rfl⟩ (Nat.le_of_ble_eq_true rfl) (Nat.le_of_ble_eq_true rfl) (fun H locs hP hD hS => ?_)
  refine lv_icmp_eq (tgt := 1926) hx hb dL_law_1566 (by decide) (fun hc => ?_) (fun hc => absurd rfl hc)
  exact again _ _ hR2 _ _ _ hP hD hS hl
set_option maxHeartbeats 8000000 in
set_option maxRecDepth 100000 in
theorem lc_42 (ok42 : ok_explained F Rel) (cx : Cx p s m #[Value.ref b] meth c cL_law RL 4 rt E A) (hXs : va_X b L xs s s.heap) (hbl : b < s.heap.size) (hbA : ¬ A b) (hin1 : vp_in (nI i + 1) L) (hin2 : vp_in (nI i + 2) L) (hin3 : vp_in (nI i + 3) L) (hin4 : vp_in (nI i + 4) L) (hin5 : vp_in (nI i + 5) L) (ey1 : xs (nI i + 1).toNatClampNeg = y1) (ey2 : xs (nI i + 2).toNatClampNeg = y2) (ey3 : xs (nI i + 3).toNatClampNeg = y3) (ey4 : xs (nI i + 4).toNatClampNeg = y4) (ey5 : xs (nI i + 5).toNatClampNeg = y5) (again : ∀ (S T : vS), Rel S T → ∀ (H : Heap) (locs : List Loc) (ls : Array Slot), va_P E.1 vwCl (wf_X11 E a S ++ wf_X12 E bb T) H → va_D A (wf_X11 E a S ++ wf_X12 E bb T) → va_S A s.heap H locs → lv_has ls 4 [(0, .ref b), (1, .ref (a 0)), (2, .ref (bb 0)), (3, .int (nI i))] → W p l e room_1 s m #[Value.ref b] below meth c H locs 149 20625 QQ (F0 m 1926 ls [])) (hRel : Rel S T) (hP : va_P E.1 vwCl (wf_X11 E a S ++ wf_X12 E bb T) H) (hD : va_D A (wf_X11 E a S ++ wf_X12 E bb T)) (hS : va_S A s.heap H locs) (hl : lv_has ls 4 [(0, .ref b), (1, .ref (a 0)), (2, .ref (bb 0)), (3, .int (nI i))]) : W p l e room_1 s m #[Value.ref b] below meth c H locs 149 20625 QQ (F0 m 1571 ls []) := by
  obtain ⟨⟨hx, hb, hml, hown, hts⟩, hr, hlocks, hK, hA, hX⟩ := id cx
  obtain ⟨r, S2, T2, h1, h2, hR2⟩ := ok42 S T y1 hRel
  refine lv_aload_n hx hb dL_law_1571 rfl (lv_at hl 1 rfl) ?_
  refine lv_aload_n hx hb dL_law_1572 rfl (lv_at hl 0 rfl) ?_
  refine lv_iload_n hx hb dL_law_1573 rfl (lv_at hl 3 rfl) ?_
  refine lv_iconst (v := 1) hx hb dL_law_1574 (by decide) ?_
  refine lv_iadd hx hb dL_law_1575 ?_
  refine va_sld hx hb hXs hbl hbA hS hin1 dL_law_1576 ?_
  rw [ey1]
  refine lcallIL (As := [.int y1]) (rest := []) (cxx_explained l E F a S y1 r S2 h1) cal_X11_explained cav_X11_explained lk_L_195 cx hP hD hS hl dL_law_1577 rfl rfl rfl rfl (Nat.le_of_ble_eq_true rfl) ⟨Nat.le_of_ble_eq_true rfl, Nat.le_of_ble_eq_true rfl⟩ (Nat.le_of_ble_eq_true rfl) (Nat.le_of_ble_eq_true rfl) (fun H locs hP hD hS => ?_)
  refine lv_aload_n hx hb dL_law_1580 rfl (lv_at hl 2 rfl) ?_
  refine lv_aload_n hx hb dL_law_1581 rfl (lv_at hl 0 rfl) ?_
  refine lv_iload_n hx hb dL_law_1582 rfl (lv_at hl 3 rfl) ?_
  refine lv_iconst (v := 1) hx hb dL_law_1583 (by decide) ?_
  refine lv_iadd hx hb dL_law_1584 ?_
  refine va_sld hx hb hXs hbl hbA hS hin1 dL_law_1585 ?_
  rw [ey1]
  refine lcallIR (As := [.int y1]) (rest := [.int r]) (cxm_explained l E F bb T y1 r T2 h2) cal_X12_explained cav_X12_explained lk_L_198 cx hP hD hS hl dL_law_1586 rfl rfl rfl rfl (Nat.le_of_ble_eq_true rfl) ⟨Nat.le_of_ble_eq_true rfl, Nat.le_of_ble_eq_true rfl⟩ (Nat.le_of_ble_eq_true rfl) (Nat.le_of_ble_eq_true rfl) (fun H locs hP hD hS => ?_)
  refine lv_icmp_eq (tgt := 1926) hx hb dL_law_1589 (by decide) (fun hc => ?_) (fun hc => absurd rfl hc)
  exact again _ _ hR2 _ _ _ hP hD hS hl
set_option maxHeartbeats 8000000 in
set_option maxRecDepth 100000 in
theorem lc_43 (ok43 : ok_sure F Rel) (cx : Cx p s m #[Value.ref b] meth c cL_law RL 4 rt E A) (hXs : va_X b L xs s s.heap) (hbl : b < s.heap.size) (hbA : ¬ A b) (hin1 : vp_in (nI i + 1) L) (hin2 : vp_in (nI i + 2) L) (hin3 : vp_in (nI i + 3) L) (hin4 : vp_in (nI i + 4) L) (hin5 : vp_in (nI i + 5) L) (ey1 : xs (nI i + 1).toNatClampNeg = y1) (ey2 : xs (nI i + 2).toNatClampNeg = y2) (ey3 : xs (nI i + 3).toNatClampNeg = y3) (ey4 : xs (nI i + 4).toNatClampNeg = y4) (ey5 : xs (nI i + 5).toNatClampNeg = y5) (again : ∀ (S T : vS), Rel S T → ∀ (H : Heap) (locs : List Loc) (ls : Array Slot), va_P E.1 vwCl (wf_X11 E a S ++ wf_X12 E bb T) H → va_D A (wf_X11 E a S ++ wf_X12 E bb T) → va_S A s.heap H locs → lv_has ls 4 [(0, .ref b), (1, .ref (a 0)), (2, .ref (bb 0)), (3, .int (nI i))] → W p l e room_1 s m #[Value.ref b] below meth c H locs 149 20625 QQ (F0 m 1926 ls [])) (hRel : Rel S T) (hP : va_P E.1 vwCl (wf_X11 E a S ++ wf_X12 E bb T) H) (hD : va_D A (wf_X11 E a S ++ wf_X12 E bb T)) (hS : va_S A s.heap H locs) (hl : lv_has ls 4 [(0, .ref b), (1, .ref (a 0)), (2, .ref (bb 0)), (3, .int (nI i))]) : W p l e room_1 s m #[Value.ref b] below meth c H locs 149 20625 QQ (F0 m 1594 ls []) := by
  obtain ⟨⟨hx, hb, hml, hown, hts⟩, hr, hlocks, hK, hA, hX⟩ := id cx
  obtain ⟨r, S2, T2, h1, h2, hR2⟩ := ok43 S T y1 hRel
  refine lv_aload_n hx hb dL_law_1594 rfl (lv_at hl 1 rfl) ?_
  refine lv_aload_n hx hb dL_law_1595 rfl (lv_at hl 0 rfl) ?_
  refine lv_iload_n hx hb dL_law_1596 rfl (lv_at hl 3 rfl) ?_
  refine lv_iconst (v := 1) hx hb dL_law_1597 (by decide) ?_
  refine lv_iadd hx hb dL_law_1598 ?_
  refine va_sld hx hb hXs hbl hbA hS hin1 dL_law_1599 ?_
  rw [ey1]
  refine lcallIL (As := [.int y1]) (rest := []) (cxx_sure l E F a S y1 r S2 h1) cal_X11_sure cav_X11_sure lk_L_199 cx hP hD hS hl dL_law_1600 rfl rfl rfl rfl (Nat.le_of_ble_eq_true rfl) ⟨Nat.le_of_ble_eq_true rfl, Nat.le_of_ble_eq_true rfl⟩ (Nat.le_of_ble_eq_true rfl) (Nat.le_of_ble_eq_true rfl) (fun H locs hP hD hS => ?_)
  refine lv_aload_n hx hb dL_law_1603 rfl (lv_at hl 2 rfl) ?_
  refine lv_aload_n hx hb dL_law_1604 rfl (lv_at hl 0 rfl) ?_
  refine lv_iload_n hx hb dL_law_1605 rfl (lv_at hl 3 rfl) ?_
  refine lv_iconst (v := 1) hx hb dL_law_1606 (by decide) ?_
  refine lv_iadd hx hb dL_law_1607 ?_
  refine va_sld hx hb hXs hbl hbA hS hin1 dL_law_1608 ?_
  rw [ey1]
  refine lcallIR (As := [.int y1]) (rest := [.int r]) (cxm_sure l E F bb T y1 r T2 h2) cal_X12_sure cav_X12_sure lk_L_202 cx hP hD hS hl dL_law_1609 rfl rfl rfl rfl (Nat.le_of_ble_eq_true rfl) ⟨Nat.le_of_ble_eq_true rfl, Nat.le_of_ble_eq_true rfl⟩ (Nat.le_of_ble_eq_true rfl) (Nat.le_of_ble_eq_true rfl) (fun H locs hP hD hS => ?_)
  refine lv_icmp_eq (tgt := 1926) hx hb dL_law_1612 (by decide) (fun hc => ?_) (fun hc => absurd rfl hc)
  exact again _ _ hR2 _ _ _ hP hD hS hl
set_option maxHeartbeats 8000000 in
set_option maxRecDepth 100000 in
theorem lc_44 (ok44 : ok_laws F Rel) (cx : Cx p s m #[Value.ref b] meth c cL_law RL 4 rt E A) (hXs : va_X b L xs s s.heap) (hbl : b < s.heap.size) (hbA : ¬ A b) (hin1 : vp_in (nI i + 1) L) (hin2 : vp_in (nI i + 2) L) (hin3 : vp_in (nI i + 3) L) (hin4 : vp_in (nI i + 4) L) (hin5 : vp_in (nI i + 5) L) (ey1 : xs (nI i + 1).toNatClampNeg = y1) (ey2 : xs (nI i + 2).toNatClampNeg = y2) (ey3 : xs (nI i + 3).toNatClampNeg = y3) (ey4 : xs (nI i + 4).toNatClampNeg = y4) (ey5 : xs (nI i + 5).toNatClampNeg = y5) (again : ∀ (S T : vS), Rel S T → ∀ (H : Heap) (locs : List Loc) (ls : Array Slot), va_P E.1 vwCl (wf_X11 E a S ++ wf_X12 E bb T) H → va_D A (wf_X11 E a S ++ wf_X12 E bb T) → va_S A s.heap H locs → lv_has ls 4 [(0, .ref b), (1, .ref (a 0)), (2, .ref (bb 0)), (3, .int (nI i))] → W p l e room_1 s m #[Value.ref b] below meth c H locs 149 20625 QQ (F0 m 1926 ls [])) (hRel : Rel S T) (hP : va_P E.1 vwCl (wf_X11 E a S ++ wf_X12 E bb T) H) (hD : va_D A (wf_X11 E a S ++ wf_X12 E bb T)) (hS : va_S A s.heap H locs) (hl : lv_has ls 4 [(0, .ref b), (1, .ref (a 0)), (2, .ref (bb 0)), (3, .int (nI i))]) : W p l e room_1 s m #[Value.ref b] below meth c H locs 149 20625 QQ (F0 m 1617 ls []) := by
  obtain ⟨⟨hx, hb, hml, hown, hts⟩, hr, hlocks, hK, hA, hX⟩ := id cx
  obtain ⟨r, S2, T2, h1, h2, hR2⟩ := ok44 S T y1 y2 hRel
  refine lv_aload_n hx hb dL_law_1617 rfl (lv_at hl 1 rfl) ?_
  refine lv_aload_n hx hb dL_law_1618 rfl (lv_at hl 0 rfl) ?_
  refine lv_iload_n hx hb dL_law_1619 rfl (lv_at hl 3 rfl) ?_
  refine lv_iconst (v := 1) hx hb dL_law_1620 (by decide) ?_
  refine lv_iadd hx hb dL_law_1621 ?_
  refine va_sld hx hb hXs hbl hbA hS hin1 dL_law_1622 ?_
  rw [ey1]
  refine lv_aload_n hx hb dL_law_1623 rfl (lv_at hl 0 rfl) ?_
  refine lv_iload_n hx hb dL_law_1624 rfl (lv_at hl 3 rfl) ?_
  refine lv_iconst (v := 2) hx hb dL_law_1625 (by decide) ?_
  refine lv_iadd hx hb dL_law_1626 ?_
  refine va_sld hx hb hXs hbl hbA hS hin2 dL_law_1627 ?_
  rw [ey2]
  refine lcallIL (As := [.int y1, .int y2]) (rest := []) (cxx_laws l E F a S y1 y2 r S2 h1) cal_X11_laws cav_X11_laws lk_L_203 cx hP hD hS hl dL_law_1628 rfl rfl rfl rfl (Nat.le_of_ble_eq_true rfl) ⟨Nat.le_of_ble_eq_true rfl, Nat.le_of_ble_eq_true rfl⟩ (Nat.le_of_ble_eq_true rfl) (Nat.le_of_ble_eq_true rfl) (fun H locs hP hD hS => ?_)
  refine lv_aload_n hx hb dL_law_1631 rfl (lv_at hl 2 rfl) ?_
  refine lv_aload_n hx hb dL_law_1632 rfl (lv_at hl 0 rfl) ?_
  refine lv_iload_n hx hb dL_law_1633 rfl (lv_at hl 3 rfl) ?_
  refine lv_iconst (v := 1) hx hb dL_law_1634 (by decide) ?_
  refine lv_iadd hx hb dL_law_1635 ?_
  refine va_sld hx hb hXs hbl hbA hS hin1 dL_law_1636 ?_
  rw [ey1]
  refine lv_aload_n hx hb dL_law_1637 rfl (lv_at hl 0 rfl) ?_
  refine lv_iload_n hx hb dL_law_1638 rfl (lv_at hl 3 rfl) ?_
  refine lv_iconst (v := 2) hx hb dL_law_1639 (by decide) ?_
  refine lv_iadd hx hb dL_law_1640 ?_
  refine va_sld hx hb hXs hbl hbA hS hin2 dL_law_1641 ?_
  rw [ey2]
  refine lcallIR (As := [.int y1, .int y2]) (rest := [.int r]) (cxm_laws l E F bb T y1 y2 r T2 h2) cal_X12_laws cav_X12_laws lk_L_206 cx hP hD hS hl dL_law_1642 rfl rfl rfl rfl (Nat.le_of_ble_eq_true rfl) ⟨Nat.le_of_ble_eq_true rfl, Nat.le_of_ble_eq_true rfl⟩ (Nat.le_of_ble_eq_true rfl) (Nat.le_of_ble_eq_true rfl) (fun H locs hP hD hS => ?_)
  refine lv_icmp_eq (tgt := 1926) hx hb dL_law_1645 (by decide) (fun hc => ?_) (fun hc => absurd rfl hc)
  exact again _ _ hR2 _ _ _ hP hD hS hl
set_option maxHeartbeats 8000000 in
set_option maxRecDepth 100000 in
theorem lc_45 (ok45 : ok_lawFirst F Rel) (cx : Cx p s m #[Value.ref b] meth c cL_law RL 4 rt E A) (hXs : va_X b L xs s s.heap) (hbl : b < s.heap.size) (hbA : ¬ A b) (hin1 : vp_in (nI i + 1) L) (hin2 : vp_in (nI i + 2) L) (hin3 : vp_in (nI i + 3) L) (hin4 : vp_in (nI i + 4) L) (hin5 : vp_in (nI i + 5) L) (ey1 : xs (nI i + 1).toNatClampNeg = y1) (ey2 : xs (nI i + 2).toNatClampNeg = y2) (ey3 : xs (nI i + 3).toNatClampNeg = y3) (ey4 : xs (nI i + 4).toNatClampNeg = y4) (ey5 : xs (nI i + 5).toNatClampNeg = y5) (again : ∀ (S T : vS), Rel S T → ∀ (H : Heap) (locs : List Loc) (ls : Array Slot), va_P E.1 vwCl (wf_X11 E a S ++ wf_X12 E bb T) H → va_D A (wf_X11 E a S ++ wf_X12 E bb T) → va_S A s.heap H locs → lv_has ls 4 [(0, .ref b), (1, .ref (a 0)), (2, .ref (bb 0)), (3, .int (nI i))] → W p l e room_1 s m #[Value.ref b] below meth c H locs 149 20625 QQ (F0 m 1926 ls [])) (hRel : Rel S T) (hP : va_P E.1 vwCl (wf_X11 E a S ++ wf_X12 E bb T) H) (hD : va_D A (wf_X11 E a S ++ wf_X12 E bb T)) (hS : va_S A s.heap H locs) (hl : lv_has ls 4 [(0, .ref b), (1, .ref (a 0)), (2, .ref (bb 0)), (3, .int (nI i))]) : W p l e room_1 s m #[Value.ref b] below meth c H locs 149 20625 QQ (F0 m 1650 ls []) := by
  obtain ⟨⟨hx, hb, hml, hown, hts⟩, hr, hlocks, hK, hA, hX⟩ := id cx
  obtain ⟨r, S2, T2, h1, h2, hR2⟩ := ok45 S T y1 y2 hRel
  refine lv_aload_n hx hb dL_law_1650 rfl (lv_at hl 1 rfl) ?_
  refine lv_aload_n hx hb dL_law_1651 rfl (lv_at hl 0 rfl) ?_
  refine lv_iload_n hx hb dL_law_1652 rfl (lv_at hl 3 rfl) ?_
  refine lv_iconst (v := 1) hx hb dL_law_1653 (by decide) ?_
  refine lv_iadd hx hb dL_law_1654 ?_
  refine va_sld hx hb hXs hbl hbA hS hin1 dL_law_1655 ?_
  rw [ey1]
  refine lv_aload_n hx hb dL_law_1656 rfl (lv_at hl 0 rfl) ?_
  refine lv_iload_n hx hb dL_law_1657 rfl (lv_at hl 3 rfl) ?_
  refine lv_iconst (v := 2) hx hb dL_law_1658 (by decide) ?_
  refine lv_iadd hx hb dL_law_1659 ?_
  refine va_sld hx hb hXs hbl hbA hS hin2 dL_law_1660 ?_
  rw [ey2]
  refine lcallIL (As := [.int y1, .int y2]) (rest := []) (cxx_lawFirst l E F a S y1 y2 r S2 h1) cal_X11_lawFirst cav_X11_lawFirst lk_L_207 cx hP hD hS hl dL_law_1661 rfl rfl rfl rfl (Nat.le_of_ble_eq_true rfl) ⟨Nat.le_of_ble_eq_true rfl, Nat.le_of_ble_eq_true rfl⟩ (Nat.le_of_ble_eq_true rfl) (Nat.le_of_ble_eq_true rfl) (fun H locs hP hD hS => ?_)
  refine lv_aload_n hx hb dL_law_1664 rfl (lv_at hl 2 rfl) ?_
  refine lv_aload_n hx hb dL_law_1665 rfl (lv_at hl 0 rfl) ?_
  refine lv_iload_n hx hb dL_law_1666 rfl (lv_at hl 3 rfl) ?_
  refine lv_iconst (v := 1) hx hb dL_law_1667 (by decide) ?_
  refine lv_iadd hx hb dL_law_1668 ?_
  refine va_sld hx hb hXs hbl hbA hS hin1 dL_law_1669 ?_
  rw [ey1]
  refine lv_aload_n hx hb dL_law_1670 rfl (lv_at hl 0 rfl) ?_
  refine lv_iload_n hx hb dL_law_1671 rfl (lv_at hl 3 rfl) ?_
  refine lv_iconst (v := 2) hx hb dL_law_1672 (by decide) ?_
  refine lv_iadd hx hb dL_law_1673 ?_
  refine va_sld hx hb hXs hbl hbA hS hin2 dL_law_1674 ?_
  rw [ey2]
  refine lcallIR (As := [.int y1, .int y2]) (rest := [.int r]) (cxm_lawFirst l E F bb T y1 y2 r T2 h2) cal_X12_lawFirst cav_X12_lawFirst lk_L_210 cx hP hD hS hl dL_law_1675 rfl rfl rfl rfl (Nat.le_of_ble_eq_true rfl) ⟨Nat.le_of_ble_eq_true rfl, Nat.le_of_ble_eq_true rfl⟩ (Nat.le_of_ble_eq_true rfl) (Nat.le_of_ble_eq_true rfl) (fun H locs hP hD hS => ?_)
  refine lv_icmp_eq (tgt := 1926) hx hb dL_law_1678 (by decide) (fun hc => ?_) (fun hc => absurd rfl hc)
  exact again _ _ hR2 _ _ _ hP hD hS hl
set_option maxHeartbeats 8000000 in
set_option maxRecDepth 100000 in
theorem lc_46 (ok46 : ok_guard F Rel) (cx : Cx p s m #[Value.ref b] meth c cL_law RL 4 rt E A) (hXs : va_X b L xs s s.heap) (hbl : b < s.heap.size) (hbA : ¬ A b) (hin1 : vp_in (nI i + 1) L) (hin2 : vp_in (nI i + 2) L) (hin3 : vp_in (nI i + 3) L) (hin4 : vp_in (nI i + 4) L) (hin5 : vp_in (nI i + 5) L) (ey1 : xs (nI i + 1).toNatClampNeg = y1) (ey2 : xs (nI i + 2).toNatClampNeg = y2) (ey3 : xs (nI i + 3).toNatClampNeg = y3) (ey4 : xs (nI i + 4).toNatClampNeg = y4) (ey5 : xs (nI i + 5).toNatClampNeg = y5) (again : ∀ (S T : vS), Rel S T → ∀ (H : Heap) (locs : List Loc) (ls : Array Slot), va_P E.1 vwCl (wf_X11 E a S ++ wf_X12 E bb T) H → va_D A (wf_X11 E a S ++ wf_X12 E bb T) → va_S A s.heap H locs → lv_has ls 4 [(0, .ref b), (1, .ref (a 0)), (2, .ref (bb 0)), (3, .int (nI i))] → W p l e room_1 s m #[Value.ref b] below meth c H locs 149 20625 QQ (F0 m 1926 ls [])) (hRel : Rel S T) (hP : va_P E.1 vwCl (wf_X11 E a S ++ wf_X12 E bb T) H) (hD : va_D A (wf_X11 E a S ++ wf_X12 E bb T)) (hS : va_S A s.heap H locs) (hl : lv_has ls 4 [(0, .ref b), (1, .ref (a 0)), (2, .ref (bb 0)), (3, .int (nI i))]) : W p l e room_1 s m #[Value.ref b] below meth c H locs 149 20625 QQ (F0 m 1683 ls []) := by
  obtain ⟨⟨hx, hb, hml, hown, hts⟩, hr, hlocks, hK, hA, hX⟩ := id cx
  obtain ⟨r, S2, T2, h1, h2, hR2⟩ := ok46 S T  hRel
  refine lv_aload_n hx hb dL_law_1683 rfl (lv_at hl 1 rfl) ?_
  refine lcallIL (As := []) (rest := []) (cxx_guard l E F a S  r S2 h1) cal_X11_guard cav_X11_guard lk_L_211 cx hP hD hS hl dL_law_1684 rfl rfl rfl rfl (Nat.le_of_ble_eq_true rfl) ⟨Nat.le_of_ble_eq_true rfl, Nat.le_of_ble_eq_true rfl⟩ (Nat.le_of_ble_eq_true rfl) (Nat.le_of_ble_eq_true rfl) (fun H locs hP hD hS => ?_)
  refine lv_aload_n hx hb dL_law_1687 rfl (lv_at hl 2 rfl) ?_
  refine lcallIR (As := []) (rest := [.int r]) (cxm_guard l E F bb T  r T2 h2) cal_X12_guard cav_X12_guard lk_L_214 cx hP hD hS hl dL_law_1688 rfl rfl rfl rfl (Nat.le_of_ble_eq_true rfl) ⟨Nat.le_of_ble_eq_true rfl, Nat.le_of_ble_eq_true rfl⟩ (Nat.le_of_ble_eq_true rfl) (Nat.le_of_ble_eq_true rfl) (fun H locs hP hD hS => ?_)
  refine lv_icmp_eq (tgt := 1926) hx hb dL_law_1691 (by decide) (fun hc => ?_) (fun hc => absurd rfl hc)
  exact again _ _ hR2 _ _ _ hP hD hS hl
set_option maxHeartbeats 8000000 in
set_option maxRecDepth 100000 in
theorem lc_47 (ok47 : ok_guardLeft F Rel) (cx : Cx p s m #[Value.ref b] meth c cL_law RL 4 rt E A) (hXs : va_X b L xs s s.heap) (hbl : b < s.heap.size) (hbA : ¬ A b) (hin1 : vp_in (nI i + 1) L) (hin2 : vp_in (nI i + 2) L) (hin3 : vp_in (nI i + 3) L) (hin4 : vp_in (nI i + 4) L) (hin5 : vp_in (nI i + 5) L) (ey1 : xs (nI i + 1).toNatClampNeg = y1) (ey2 : xs (nI i + 2).toNatClampNeg = y2) (ey3 : xs (nI i + 3).toNatClampNeg = y3) (ey4 : xs (nI i + 4).toNatClampNeg = y4) (ey5 : xs (nI i + 5).toNatClampNeg = y5) (again : ∀ (S T : vS), Rel S T → ∀ (H : Heap) (locs : List Loc) (ls : Array Slot), va_P E.1 vwCl (wf_X11 E a S ++ wf_X12 E bb T) H → va_D A (wf_X11 E a S ++ wf_X12 E bb T) → va_S A s.heap H locs → lv_has ls 4 [(0, .ref b), (1, .ref (a 0)), (2, .ref (bb 0)), (3, .int (nI i))] → W p l e room_1 s m #[Value.ref b] below meth c H locs 149 20625 QQ (F0 m 1926 ls [])) (hRel : Rel S T) (hP : va_P E.1 vwCl (wf_X11 E a S ++ wf_X12 E bb T) H) (hD : va_D A (wf_X11 E a S ++ wf_X12 E bb T)) (hS : va_S A s.heap H locs) (hl : lv_has ls 4 [(0, .ref b), (1, .ref (a 0)), (2, .ref (bb 0)), (3, .int (nI i))]) : W p l e room_1 s m #[Value.ref b] below meth c H locs 149 20625 QQ (F0 m 1696 ls []) := by
  obtain ⟨⟨hx, hb, hml, hown, hts⟩, hr, hlocks, hK, hA, hX⟩ := id cx
  obtain ⟨r, S2, T2, h1, h2, hR2⟩ := ok47 S T  hRel
  refine lv_aload_n hx hb dL_law_1696 rfl (lv_at hl 1 rfl) ?_
  refine lcallIL (As := []) (rest := []) (cxx_guardLeft l E F a S  r S2 h1) cal_X11_guardLeft cav_X11_guardLeft lk_L_215 cx hP hD hS hl dL_law_1697 rfl rfl rfl rfl (Nat.le_of_ble_eq_true rfl) ⟨Nat.le_of_ble_eq_true rfl, Nat.le_of_ble_eq_true rfl⟩ (Nat.le_of_ble_eq_true rfl) (Nat.le_of_ble_eq_true rfl) (fun H locs hP hD hS => ?_)
  refine lv_aload_n hx hb dL_law_1700 rfl (lv_at hl 2 rfl) ?_
  refine lcallIR (As := []) (rest := [.int r]) (cxm_guardLeft l E F bb T  r T2 h2) cal_X12_guardLeft cav_X12_guardLeft lk_L_218 cx hP hD hS hl dL_law_1701 rfl rfl rfl rfl (Nat.le_of_ble_eq_true rfl) ⟨Nat.le_of_ble_eq_true rfl, Nat.le_of_ble_eq_true rfl⟩ (Nat.le_of_ble_eq_true rfl) (Nat.le_of_ble_eq_true rfl) (fun H locs hP hD hS => ?_)
  refine lv_icmp_eq (tgt := 1926) hx hb dL_law_1704 (by decide) (fun hc => ?_) (fun hc => absurd rfl hc)
  exact again _ _ hR2 _ _ _ hP hD hS hl
set_option maxHeartbeats 8000000 in
set_option maxRecDepth 100000 in
theorem lc_48 (ok48 : ok_game F Rel) (cx : Cx p s m #[Value.ref b] meth c cL_law RL 4 rt E A) (hXs : va_X b L xs s s.heap) (hbl : b < s.heap.size) (hbA : ¬ A b) (hin1 : vp_in (nI i + 1) L) (hin2 : vp_in (nI i + 2) L) (hin3 : vp_in (nI i + 3) L) (hin4 : vp_in (nI i + 4) L) (hin5 : vp_in (nI i + 5) L) (ey1 : xs (nI i + 1).toNatClampNeg = y1) (ey2 : xs (nI i + 2).toNatClampNeg = y2) (ey3 : xs (nI i + 3).toNatClampNeg = y3) (ey4 : xs (nI i + 4).toNatClampNeg = y4) (ey5 : xs (nI i + 5).toNatClampNeg = y5) (again : ∀ (S T : vS), Rel S T → ∀ (H : Heap) (locs : List Loc) (ls : Array Slot), va_P E.1 vwCl (wf_X11 E a S ++ wf_X12 E bb T) H → va_D A (wf_X11 E a S ++ wf_X12 E bb T) → va_S A s.heap H locs → lv_has ls 4 [(0, .ref b), (1, .ref (a 0)), (2, .ref (bb 0)), (3, .int (nI i))] → W p l e room_1 s m #[Value.ref b] below meth c H locs 149 20625 QQ (F0 m 1926 ls [])) (hRel : Rel S T) (hP : va_P E.1 vwCl (wf_X11 E a S ++ wf_X12 E bb T) H) (hD : va_D A (wf_X11 E a S ++ wf_X12 E bb T)) (hS : va_S A s.heap H locs) (hl : lv_has ls 4 [(0, .ref b), (1, .ref (a 0)), (2, .ref (bb 0)), (3, .int (nI i))]) : W p l e room_1 s m #[Value.ref b] below meth c H locs 149 20625 QQ (F0 m 1709 ls []) := by
  obtain ⟨⟨hx, hb, hml, hown, hts⟩, hr, hlocks, hK, hA, hX⟩ := id cx
  obtain ⟨r, S2, T2, h1, h2, hR2⟩ := ok48 S T y1 y2 hRel
  refine lv_aload_n hx hb dL_law_1709 rfl (lv_at hl 1 rfl) ?_
  refine lv_aload_n hx hb dL_law_1710 rfl (lv_at hl 0 rfl) ?_
  refine lv_iload_n hx hb dL_law_1711 rfl (lv_at hl 3 rfl) ?_
  refine lv_iconst (v := 1) hx hb dL_law_1712 (by decide) ?_
  refine lv_iadd hx hb dL_law_1713 ?_
  refine va_sld hx hb hXs hbl hbA hS hin1 dL_law_1714 ?_
  rw [ey1]
  refine lv_aload_n hx hb dL_law_1715 rfl (lv_at hl 0 rfl) ?_
  refine lv_iload_n hx hb dL_law_1716 rfl (lv_at hl 3 rfl) ?_
  refine lv_iconst (v := 2) hx hb dL_law_1717 (by decide) ?_
  refine lv_iadd hx hb dL_law_1718 ?_
  refine va_sld hx hb hXs hbl hbA hS hin2 dL_law_1719 ?_
  rw [ey2]
  refine lcallIL (As := [.int y1, .int y2]) (rest := []) (cxx_game l E F a S y1 y2 r S2 h1) cal_X11_game cav_X11_game lk_L_219 cx hP hD hS hl dL_law_1720 rfl rfl rfl rfl (Nat.le_of_ble_eq_true rfl) ⟨Nat.le_of_ble_eq_true rfl, Nat.le_of_ble_eq_true rfl⟩ (Nat.le_of_ble_eq_true rfl) (Nat.le_of_ble_eq_true rfl) (fun H locs hP hD hS => ?_)
  refine lv_aload_n hx hb dL_law_1723 rfl (lv_at hl 2 rfl) ?_
  refine lv_aload_n hx hb dL_law_1724 rfl (lv_at hl 0 rfl) ?_
  refine lv_iload_n hx hb dL_law_1725 rfl (lv_at hl 3 rfl) ?_
  refine lv_iconst (v := 1) hx hb dL_law_1726 (by decide) ?_
  refine lv_iadd hx hb dL_law_1727 ?_
  refine va_sld hx hb hXs hbl hbA hS hin1 dL_law_1728 ?_
  rw [ey1]
  refine lv_aload_n hx hb dL_law_1729 rfl (lv_at hl 0 rfl) ?_
  refine lv_iload_n hx hb dL_law_1730 rfl (lv_at hl 3 rfl) ?_
  refine lv_iconst (v := 2) hx hb dL_law_1731 (by decide) ?_
  refine lv_iadd hx hb dL_law_1732 ?_
  refine va_sld hx hb hXs hbl hbA hS hin2 dL_law_1733 ?_
  rw [ey2]
  refine lcallIR (As := [.int y1, .int y2]) (rest := [.int r]) (cxm_game l E F bb T y1 y2 r T2 h2) cal_X12_game cav_X12_game lk_L_222 cx hP hD hS hl dL_law_1734 rfl rfl rfl rfl (Nat.le_of_ble_eq_true rfl) ⟨Nat.le_of_ble_eq_true rfl, Nat.le_of_ble_eq_true rfl⟩ (Nat.le_of_ble_eq_true rfl) (Nat.le_of_ble_eq_true rfl) (fun H locs hP hD hS => ?_)
  refine lv_icmp_eq (tgt := 1926) hx hb dL_law_1737 (by decide) (fun hc => ?_) (fun hc => absurd rfl hc)
  exact again _ _ hR2 _ _ _ hP hD hS hl
set_option maxHeartbeats 8000000 in
set_option maxRecDepth 100000 in
theorem lc_49 (ok49 : ok_moveOf F Rel) (cx : Cx p s m #[Value.ref b] meth c cL_law RL 4 rt E A) (hXs : va_X b L xs s s.heap) (hbl : b < s.heap.size) (hbA : ¬ A b) (hin1 : vp_in (nI i + 1) L) (hin2 : vp_in (nI i + 2) L) (hin3 : vp_in (nI i + 3) L) (hin4 : vp_in (nI i + 4) L) (hin5 : vp_in (nI i + 5) L) (ey1 : xs (nI i + 1).toNatClampNeg = y1) (ey2 : xs (nI i + 2).toNatClampNeg = y2) (ey3 : xs (nI i + 3).toNatClampNeg = y3) (ey4 : xs (nI i + 4).toNatClampNeg = y4) (ey5 : xs (nI i + 5).toNatClampNeg = y5) (again : ∀ (S T : vS), Rel S T → ∀ (H : Heap) (locs : List Loc) (ls : Array Slot), va_P E.1 vwCl (wf_X11 E a S ++ wf_X12 E bb T) H → va_D A (wf_X11 E a S ++ wf_X12 E bb T) → va_S A s.heap H locs → lv_has ls 4 [(0, .ref b), (1, .ref (a 0)), (2, .ref (bb 0)), (3, .int (nI i))] → W p l e room_1 s m #[Value.ref b] below meth c H locs 149 20625 QQ (F0 m 1926 ls [])) (hRel : Rel S T) (hP : va_P E.1 vwCl (wf_X11 E a S ++ wf_X12 E bb T) H) (hD : va_D A (wf_X11 E a S ++ wf_X12 E bb T)) (hS : va_S A s.heap H locs) (hl : lv_has ls 4 [(0, .ref b), (1, .ref (a 0)), (2, .ref (bb 0)), (3, .int (nI i))]) : W p l e room_1 s m #[Value.ref b] below meth c H locs 149 20625 QQ (F0 m 1742 ls []) := by
  obtain ⟨⟨hx, hb, hml, hown, hts⟩, hr, hlocks, hK, hA, hX⟩ := id cx
  obtain ⟨r, S2, T2, h1, h2, hR2⟩ := ok49 S T y1 y2 hRel
  refine lv_aload_n hx hb dL_law_1742 rfl (lv_at hl 1 rfl) ?_
  refine lv_aload_n hx hb dL_law_1743 rfl (lv_at hl 0 rfl) ?_
  refine lv_iload_n hx hb dL_law_1744 rfl (lv_at hl 3 rfl) ?_
  refine lv_iconst (v := 1) hx hb dL_law_1745 (by decide) ?_
  refine lv_iadd hx hb dL_law_1746 ?_
  refine va_sld hx hb hXs hbl hbA hS hin1 dL_law_1747 ?_
  rw [ey1]
  refine lv_aload_n hx hb dL_law_1748 rfl (lv_at hl 0 rfl) ?_
  refine lv_iload_n hx hb dL_law_1749 rfl (lv_at hl 3 rfl) ?_
  refine lv_iconst (v := 2) hx hb dL_law_1750 (by decide) ?_
  refine lv_iadd hx hb dL_law_1751 ?_
  refine va_sld hx hb hXs hbl hbA hS hin2 dL_law_1752 ?_
  rw [ey2]
  refine lcallIL (As := [.int y1, .int y2]) (rest := []) (cxx_moveOf l E F a S y1 y2 r S2 h1) cal_X11_moveOf cav_X11_moveOf lk_L_223 cx hP hD hS hl dL_law_1753 rfl rfl rfl rfl (Nat.le_of_ble_eq_true rfl) ⟨Nat.le_of_ble_eq_true rfl, Nat.le_of_ble_eq_true rfl⟩ (Nat.le_of_ble_eq_true rfl) (Nat.le_of_ble_eq_true rfl) (fun H locs hP hD hS => ?_)
  refine lv_aload_n hx hb dL_law_1756 rfl (lv_at hl 2 rfl) ?_
  refine lv_aload_n hx hb dL_law_1757 rfl (lv_at hl 0 rfl) ?_
  refine lv_iload_n hx hb dL_law_1758 rfl (lv_at hl 3 rfl) ?_
  refine lv_iconst (v := 1) hx hb dL_law_1759 (by decide) ?_
  refine lv_iadd hx hb dL_law_1760 ?_
  refine va_sld hx hb hXs hbl hbA hS hin1 dL_law_1761 ?_
  rw [ey1]
  refine lv_aload_n hx hb dL_law_1762 rfl (lv_at hl 0 rfl) ?_
  refine lv_iload_n hx hb dL_law_1763 rfl (lv_at hl 3 rfl) ?_
  refine lv_iconst (v := 2) hx hb dL_law_1764 (by decide) ?_
  refine lv_iadd hx hb dL_law_1765 ?_
  refine va_sld hx hb hXs hbl hbA hS hin2 dL_law_1766 ?_
  rw [ey2]
  refine lcallIR (As := [.int y1, .int y2]) (rest := [.int r]) (cxm_moveOf l E F bb T y1 y2 r T2 h2) cal_X12_moveOf cav_X12_moveOf lk_L_226 cx hP hD hS hl dL_law_1767 rfl rfl rfl rfl (Nat.le_of_ble_eq_true rfl) ⟨Nat.le_of_ble_eq_true rfl, Nat.le_of_ble_eq_true rfl⟩ (Nat.le_of_ble_eq_true rfl) (Nat.le_of_ble_eq_true rfl) (fun H locs hP hD hS => ?_)
  refine lv_icmp_eq (tgt := 1926) hx hb dL_law_1770 (by decide) (fun hc => ?_) (fun hc => absurd rfl hc)
  exact again _ _ hR2 _ _ _ hP hD hS hl
set_option maxHeartbeats 8000000 in
set_option maxRecDepth 100000 in
theorem lc_50 (ok50 : ok_falls F Rel) (cx : Cx p s m #[Value.ref b] meth c cL_law RL 4 rt E A) (hXs : va_X b L xs s s.heap) (hbl : b < s.heap.size) (hbA : ¬ A b) (hin1 : vp_in (nI i + 1) L) (hin2 : vp_in (nI i + 2) L) (hin3 : vp_in (nI i + 3) L) (hin4 : vp_in (nI i + 4) L) (hin5 : vp_in (nI i + 5) L) (ey1 : xs (nI i + 1).toNatClampNeg = y1) (ey2 : xs (nI i + 2).toNatClampNeg = y2) (ey3 : xs (nI i + 3).toNatClampNeg = y3) (ey4 : xs (nI i + 4).toNatClampNeg = y4) (ey5 : xs (nI i + 5).toNatClampNeg = y5) (again : ∀ (S T : vS), Rel S T → ∀ (H : Heap) (locs : List Loc) (ls : Array Slot), va_P E.1 vwCl (wf_X11 E a S ++ wf_X12 E bb T) H → va_D A (wf_X11 E a S ++ wf_X12 E bb T) → va_S A s.heap H locs → lv_has ls 4 [(0, .ref b), (1, .ref (a 0)), (2, .ref (bb 0)), (3, .int (nI i))] → W p l e room_1 s m #[Value.ref b] below meth c H locs 149 20625 QQ (F0 m 1926 ls [])) (hRel : Rel S T) (hP : va_P E.1 vwCl (wf_X11 E a S ++ wf_X12 E bb T) H) (hD : va_D A (wf_X11 E a S ++ wf_X12 E bb T)) (hS : va_S A s.heap H locs) (hl : lv_has ls 4 [(0, .ref b), (1, .ref (a 0)), (2, .ref (bb 0)), (3, .int (nI i))]) : W p l e room_1 s m #[Value.ref b] below meth c H locs 149 20625 QQ (F0 m 1775 ls []) := by
  obtain ⟨⟨hx, hb, hml, hown, hts⟩, hr, hlocks, hK, hA, hX⟩ := id cx
  obtain ⟨r, S2, T2, h1, h2, hR2⟩ := ok50 S T y1 hRel
  refine lv_aload_n hx hb dL_law_1775 rfl (lv_at hl 1 rfl) ?_
  refine lv_aload_n hx hb dL_law_1776 rfl (lv_at hl 0 rfl) ?_
  refine lv_iload_n hx hb dL_law_1777 rfl (lv_at hl 3 rfl) ?_
  refine lv_iconst (v := 1) hx hb dL_law_1778 (by decide) ?_
  refine lv_iadd hx hb dL_law_1779 ?_
  refine va_sld hx hb hXs hbl hbA hS hin1 dL_law_1780 ?_
  rw [ey1]
  refine lcallIL (As := [.int y1]) (rest := []) (cxx_falls l E F a S y1 r S2 h1) cal_X11_falls cav_X11_falls lk_L_227 cx hP hD hS hl dL_law_1781 rfl rfl rfl rfl (Nat.le_of_ble_eq_true rfl) ⟨Nat.le_of_ble_eq_true rfl, Nat.le_of_ble_eq_true rfl⟩ (Nat.le_of_ble_eq_true rfl) (Nat.le_of_ble_eq_true rfl) (fun H locs hP hD hS => ?_)
  refine lv_aload_n hx hb dL_law_1784 rfl (lv_at hl 2 rfl) ?_
  refine lv_aload_n hx hb dL_law_1785 rfl (lv_at hl 0 rfl) ?_
  refine lv_iload_n hx hb dL_law_1786 rfl (lv_at hl 3 rfl) ?_
  refine lv_iconst (v := 1) hx hb dL_law_1787 (by decide) ?_
  refine lv_iadd hx hb dL_law_1788 ?_
  refine va_sld hx hb hXs hbl hbA hS hin1 dL_law_1789 ?_
  rw [ey1]
  refine lcallIR (As := [.int y1]) (rest := [.int r]) (cxm_falls l E F bb T y1 r T2 h2) cal_X12_falls cav_X12_falls lk_L_231 cx hP hD hS hl dL_law_1790 rfl rfl rfl rfl (Nat.le_of_ble_eq_true rfl) ⟨Nat.le_of_ble_eq_true rfl, Nat.le_of_ble_eq_true rfl⟩ (Nat.le_of_ble_eq_true rfl) (Nat.le_of_ble_eq_true rfl) (fun H locs hP hD hS => ?_)
  refine lv_icmp_eq (tgt := 1926) hx hb dL_law_1793 (by decide) (fun hc => ?_) (fun hc => absurd rfl hc)
  exact again _ _ hR2 _ _ _ hP hD hS hl
set_option maxHeartbeats 8000000 in
set_option maxRecDepth 100000 in
theorem lc_51 (ok51 : ok_copyStanding F Rel) (cx : Cx p s m #[Value.ref b] meth c cL_law RL 4 rt E A) (hXs : va_X b L xs s s.heap) (hbl : b < s.heap.size) (hbA : ¬ A b) (hin1 : vp_in (nI i + 1) L) (hin2 : vp_in (nI i + 2) L) (hin3 : vp_in (nI i + 3) L) (hin4 : vp_in (nI i + 4) L) (hin5 : vp_in (nI i + 5) L) (ey1 : xs (nI i + 1).toNatClampNeg = y1) (ey2 : xs (nI i + 2).toNatClampNeg = y2) (ey3 : xs (nI i + 3).toNatClampNeg = y3) (ey4 : xs (nI i + 4).toNatClampNeg = y4) (ey5 : xs (nI i + 5).toNatClampNeg = y5) (again : ∀ (S T : vS), Rel S T → ∀ (H : Heap) (locs : List Loc) (ls : Array Slot), va_P E.1 vwCl (wf_X11 E a S ++ wf_X12 E bb T) H → va_D A (wf_X11 E a S ++ wf_X12 E bb T) → va_S A s.heap H locs → lv_has ls 4 [(0, .ref b), (1, .ref (a 0)), (2, .ref (bb 0)), (3, .int (nI i))] → W p l e room_1 s m #[Value.ref b] below meth c H locs 149 20625 QQ (F0 m 1926 ls [])) (hRel : Rel S T) (hP : va_P E.1 vwCl (wf_X11 E a S ++ wf_X12 E bb T) H) (hD : va_D A (wf_X11 E a S ++ wf_X12 E bb T)) (hS : va_S A s.heap H locs) (hl : lv_has ls 4 [(0, .ref b), (1, .ref (a 0)), (2, .ref (bb 0)), (3, .int (nI i))]) : W p l e room_1 s m #[Value.ref b] below meth c H locs 149 20625 QQ (F0 m 1798 ls []) := by
  obtain ⟨⟨hx, hb, hml, hown, hts⟩, hr, hlocks, hK, hA, hX⟩ := id cx
  obtain ⟨r, S2, T2, h1, h2, hR2⟩ := ok51 S T y1 hRel
  refine lv_aload_n hx hb dL_law_1798 rfl (lv_at hl 1 rfl) ?_
  refine lv_aload_n hx hb dL_law_1799 rfl (lv_at hl 0 rfl) ?_
  refine lv_iload_n hx hb dL_law_1800 rfl (lv_at hl 3 rfl) ?_
  refine lv_iconst (v := 1) hx hb dL_law_1801 (by decide) ?_
  refine lv_iadd hx hb dL_law_1802 ?_
  refine va_sld hx hb hXs hbl hbA hS hin1 dL_law_1803 ?_
  rw [ey1]
  refine lcallIL (As := [.int y1]) (rest := []) (cxx_copyStanding l E F a S y1 r S2 h1) cal_X11_copyStanding cav_X11_copyStanding lk_L_232 cx hP hD hS hl dL_law_1804 rfl rfl rfl rfl (Nat.le_of_ble_eq_true rfl) ⟨Nat.le_of_ble_eq_true rfl, Nat.le_of_ble_eq_true rfl⟩ (Nat.le_of_ble_eq_true rfl) (Nat.le_of_ble_eq_true rfl) (fun H locs hP hD hS => ?_)
  refine lv_aload_n hx hb dL_law_1807 rfl (lv_at hl 2 rfl) ?_
  refine lv_aload_n hx hb dL_law_1808 rfl (lv_at hl 0 rfl) ?_
  refine lv_iload_n hx hb dL_law_1809 rfl (lv_at hl 3 rfl) ?_
  refine lv_iconst (v := 1) hx hb dL_law_1810 (by decide) ?_
  refine lv_iadd hx hb dL_law_1811 ?_
  refine va_sld hx hb hXs hbl hbA hS hin1 dL_law_1812 ?_
  rw [ey1]
  refine lcallIR (As := [.int y1]) (rest := [.int r]) (cxm_copyStanding l E F bb T y1 r T2 h2) cal_X12_copyStanding cav_X12_copyStanding lk_L_235 cx hP hD hS hl dL_law_1813 rfl rfl rfl rfl (Nat.le_of_ble_eq_true rfl) ⟨Nat.le_of_ble_eq_true rfl, Nat.le_of_ble_eq_true rfl⟩ (Nat.le_of_ble_eq_true rfl) (Nat.le_of_ble_eq_true rfl) (fun H locs hP hD hS => ?_)
  refine lv_icmp_eq (tgt := 1926) hx hb dL_law_1816 (by decide) (fun hc => ?_) (fun hc => absurd rfl hc)
  exact again _ _ hR2 _ _ _ hP hD hS hl
set_option maxHeartbeats 8000000 in
set_option maxRecDepth 100000 in
theorem lc_52 (ok52 : ok_live F Rel) (cx : Cx p s m #[Value.ref b] meth c cL_law RL 4 rt E A) (hXs : va_X b L xs s s.heap) (hbl : b < s.heap.size) (hbA : ¬ A b) (hin1 : vp_in (nI i + 1) L) (hin2 : vp_in (nI i + 2) L) (hin3 : vp_in (nI i + 3) L) (hin4 : vp_in (nI i + 4) L) (hin5 : vp_in (nI i + 5) L) (ey1 : xs (nI i + 1).toNatClampNeg = y1) (ey2 : xs (nI i + 2).toNatClampNeg = y2) (ey3 : xs (nI i + 3).toNatClampNeg = y3) (ey4 : xs (nI i + 4).toNatClampNeg = y4) (ey5 : xs (nI i + 5).toNatClampNeg = y5) (again : ∀ (S T : vS), Rel S T → ∀ (H : Heap) (locs : List Loc) (ls : Array Slot), va_P E.1 vwCl (wf_X11 E a S ++ wf_X12 E bb T) H → va_D A (wf_X11 E a S ++ wf_X12 E bb T) → va_S A s.heap H locs → lv_has ls 4 [(0, .ref b), (1, .ref (a 0)), (2, .ref (bb 0)), (3, .int (nI i))] → W p l e room_1 s m #[Value.ref b] below meth c H locs 149 20625 QQ (F0 m 1926 ls [])) (hRel : Rel S T) (hP : va_P E.1 vwCl (wf_X11 E a S ++ wf_X12 E bb T) H) (hD : va_D A (wf_X11 E a S ++ wf_X12 E bb T)) (hS : va_S A s.heap H locs) (hl : lv_has ls 4 [(0, .ref b), (1, .ref (a 0)), (2, .ref (bb 0)), (3, .int (nI i))]) : W p l e room_1 s m #[Value.ref b] below meth c H locs 149 20625 QQ (F0 m 1821 ls []) := by
  obtain ⟨⟨hx, hb, hml, hown, hts⟩, hr, hlocks, hK, hA, hX⟩ := id cx
  obtain ⟨r, S2, T2, h1, h2, hR2⟩ := ok52 S T y1 hRel
  refine lv_aload_n hx hb dL_law_1821 rfl (lv_at hl 1 rfl) ?_
  refine lv_aload_n hx hb dL_law_1822 rfl (lv_at hl 0 rfl) ?_
  refine lv_iload_n hx hb dL_law_1823 rfl (lv_at hl 3 rfl) ?_
  refine lv_iconst (v := 1) hx hb dL_law_1824 (by decide) ?_
  refine lv_iadd hx hb dL_law_1825 ?_
  refine va_sld hx hb hXs hbl hbA hS hin1 dL_law_1826 ?_
  rw [ey1]
  refine lcallIL (As := [.int y1]) (rest := []) (cxx_live l E F a S y1 r S2 h1) cal_X11_live cav_X11_live lk_L_236 cx hP hD hS hl dL_law_1827 rfl rfl rfl rfl (Nat.le_of_ble_eq_true rfl) ⟨Nat.le_of_ble_eq_true rfl, Nat.le_of_ble_eq_true rfl⟩ (Nat.le_of_ble_eq_true rfl) (Nat.le_of_ble_eq_true rfl) (fun H locs hP hD hS => ?_)
  refine lv_aload_n hx hb dL_law_1830 rfl (lv_at hl 2 rfl) ?_
  refine lv_aload_n hx hb dL_law_1831 rfl (lv_at hl 0 rfl) ?_
  refine lv_iload_n hx hb dL_law_1832 rfl (lv_at hl 3 rfl) ?_
  refine lv_iconst (v := 1) hx hb dL_law_1833 (by decide) ?_
  refine lv_iadd hx hb dL_law_1834 ?_
  refine va_sld hx hb hXs hbl hbA hS hin1 dL_law_1835 ?_
  rw [ey1]
  refine lcallIR (As := [.int y1]) (rest := [.int r]) (cxm_live l E F bb T y1 r T2 h2) cal_X12_live cav_X12_live lk_L_239 cx hP hD hS hl dL_law_1836 rfl rfl rfl rfl (Nat.le_of_ble_eq_true rfl) ⟨Nat.le_of_ble_eq_true rfl, Nat.le_of_ble_eq_true rfl⟩ (Nat.le_of_ble_eq_true rfl) (Nat.le_of_ble_eq_true rfl) (fun H locs hP hD hS => ?_)
  refine lv_icmp_eq (tgt := 1926) hx hb dL_law_1839 (by decide) (fun hc => ?_) (fun hc => absurd rfl hc)
  exact again _ _ hR2 _ _ _ hP hD hS hl
set_option maxHeartbeats 8000000 in
set_option maxRecDepth 100000 in
theorem lc_53 (ok53 : ok_lived F Rel) (cx : Cx p s m #[Value.ref b] meth c cL_law RL 4 rt E A) (hXs : va_X b L xs s s.heap) (hbl : b < s.heap.size) (hbA : ¬ A b) (hin1 : vp_in (nI i + 1) L) (hin2 : vp_in (nI i + 2) L) (hin3 : vp_in (nI i + 3) L) (hin4 : vp_in (nI i + 4) L) (hin5 : vp_in (nI i + 5) L) (ey1 : xs (nI i + 1).toNatClampNeg = y1) (ey2 : xs (nI i + 2).toNatClampNeg = y2) (ey3 : xs (nI i + 3).toNatClampNeg = y3) (ey4 : xs (nI i + 4).toNatClampNeg = y4) (ey5 : xs (nI i + 5).toNatClampNeg = y5) (again : ∀ (S T : vS), Rel S T → ∀ (H : Heap) (locs : List Loc) (ls : Array Slot), va_P E.1 vwCl (wf_X11 E a S ++ wf_X12 E bb T) H → va_D A (wf_X11 E a S ++ wf_X12 E bb T) → va_S A s.heap H locs → lv_has ls 4 [(0, .ref b), (1, .ref (a 0)), (2, .ref (bb 0)), (3, .int (nI i))] → W p l e room_1 s m #[Value.ref b] below meth c H locs 149 20625 QQ (F0 m 1926 ls [])) (hRel : Rel S T) (hP : va_P E.1 vwCl (wf_X11 E a S ++ wf_X12 E bb T) H) (hD : va_D A (wf_X11 E a S ++ wf_X12 E bb T)) (hS : va_S A s.heap H locs) (hl : lv_has ls 4 [(0, .ref b), (1, .ref (a 0)), (2, .ref (bb 0)), (3, .int (nI i))]) : W p l e room_1 s m #[Value.ref b] below meth c H locs 149 20625 QQ (F0 m 1844 ls []) := by
  obtain ⟨⟨hx, hb, hml, hown, hts⟩, hr, hlocks, hK, hA, hX⟩ := id cx
  obtain ⟨r, S2, T2, h1, h2, hR2⟩ := ok53 S T y1 hRel
  refine lv_aload_n hx hb dL_law_1844 rfl (lv_at hl 1 rfl) ?_
  refine lv_aload_n hx hb dL_law_1845 rfl (lv_at hl 0 rfl) ?_
  refine lv_iload_n hx hb dL_law_1846 rfl (lv_at hl 3 rfl) ?_
  refine lv_iconst (v := 1) hx hb dL_law_1847 (by decide) ?_
  refine lv_iadd hx hb dL_law_1848 ?_
  refine va_sld hx hb hXs hbl hbA hS hin1 dL_law_1849 ?_
  rw [ey1]
  refine lcallIL (As := [.int y1]) (rest := []) (cxx_lived l E F a S y1 r S2 h1) cal_X11_lived cav_X11_lived lk_L_240 cx hP hD hS hl dL_law_1850 rfl rfl rfl rfl (Nat.le_of_ble_eq_true rfl) ⟨Nat.le_of_ble_eq_true rfl, Nat.le_of_ble_eq_true rfl⟩ (Nat.le_of_ble_eq_true rfl) (Nat.le_of_ble_eq_true rfl) (fun H locs hP hD hS => ?_)
  refine lv_aload_n hx hb dL_law_1853 rfl (lv_at hl 2 rfl) ?_
  refine lv_aload_n hx hb dL_law_1854 rfl (lv_at hl 0 rfl) ?_
  refine lv_iload_n hx hb dL_law_1855 rfl (lv_at hl 3 rfl) ?_
  refine lv_iconst (v := 1) hx hb dL_law_1856 (by decide) ?_
  refine lv_iadd hx hb dL_law_1857 ?_
  refine va_sld hx hb hXs hbl hbA hS hin1 dL_law_1858 ?_
  rw [ey1]
  refine lcallIR (As := [.int y1]) (rest := [.int r]) (cxm_lived l E F bb T y1 r T2 h2) cal_X12_lived cav_X12_lived lk_L_243 cx hP hD hS hl dL_law_1859 rfl rfl rfl rfl (Nat.le_of_ble_eq_true rfl) ⟨Nat.le_of_ble_eq_true rfl, Nat.le_of_ble_eq_true rfl⟩ (Nat.le_of_ble_eq_true rfl) (Nat.le_of_ble_eq_true rfl) (fun H locs hP hD hS => ?_)
  refine lv_icmp_eq (tgt := 1926) hx hb dL_law_1862 (by decide) (fun hc => ?_) (fun hc => absurd rfl hc)
  exact again _ _ hR2 _ _ _ hP hD hS hl
set_option maxHeartbeats 8000000 in
set_option maxRecDepth 100000 in
theorem lc_54 (ok54 : ok_mean F Rel) (cx : Cx p s m #[Value.ref b] meth c cL_law RL 4 rt E A) (hXs : va_X b L xs s s.heap) (hbl : b < s.heap.size) (hbA : ¬ A b) (hin1 : vp_in (nI i + 1) L) (hin2 : vp_in (nI i + 2) L) (hin3 : vp_in (nI i + 3) L) (hin4 : vp_in (nI i + 4) L) (hin5 : vp_in (nI i + 5) L) (ey1 : xs (nI i + 1).toNatClampNeg = y1) (ey2 : xs (nI i + 2).toNatClampNeg = y2) (ey3 : xs (nI i + 3).toNatClampNeg = y3) (ey4 : xs (nI i + 4).toNatClampNeg = y4) (ey5 : xs (nI i + 5).toNatClampNeg = y5) (again : ∀ (S T : vS), Rel S T → ∀ (H : Heap) (locs : List Loc) (ls : Array Slot), va_P E.1 vwCl (wf_X11 E a S ++ wf_X12 E bb T) H → va_D A (wf_X11 E a S ++ wf_X12 E bb T) → va_S A s.heap H locs → lv_has ls 4 [(0, .ref b), (1, .ref (a 0)), (2, .ref (bb 0)), (3, .int (nI i))] → W p l e room_1 s m #[Value.ref b] below meth c H locs 149 20625 QQ (F0 m 1926 ls [])) (hRel : Rel S T) (hP : va_P E.1 vwCl (wf_X11 E a S ++ wf_X12 E bb T) H) (hD : va_D A (wf_X11 E a S ++ wf_X12 E bb T)) (hS : va_S A s.heap H locs) (hl : lv_has ls 4 [(0, .ref b), (1, .ref (a 0)), (2, .ref (bb 0)), (3, .int (nI i))]) : W p l e room_1 s m #[Value.ref b] below meth c H locs 149 20625 QQ (F0 m 1867 ls []) := by
  obtain ⟨⟨hx, hb, hml, hown, hts⟩, hr, hlocks, hK, hA, hX⟩ := id cx
  obtain ⟨r, S2, T2, h1, h2, hR2⟩ := ok54 S T y1 y2 hRel
  refine lv_aload_n hx hb dL_law_1867 rfl (lv_at hl 1 rfl) ?_
  refine lv_aload_n hx hb dL_law_1868 rfl (lv_at hl 0 rfl) ?_
  refine lv_iload_n hx hb dL_law_1869 rfl (lv_at hl 3 rfl) ?_
  refine lv_iconst (v := 1) hx hb dL_law_1870 (by decide) ?_
  refine lv_iadd hx hb dL_law_1871 ?_
  refine va_sld hx hb hXs hbl hbA hS hin1 dL_law_1872 ?_
  rw [ey1]
  refine lv_aload_n hx hb dL_law_1873 rfl (lv_at hl 0 rfl) ?_
  refine lv_iload_n hx hb dL_law_1874 rfl (lv_at hl 3 rfl) ?_
  refine lv_iconst (v := 2) hx hb dL_law_1875 (by decide) ?_
  refine lv_iadd hx hb dL_law_1876 ?_
  refine va_sld hx hb hXs hbl hbA hS hin2 dL_law_1877 ?_
  rw [ey2]
  refine lcallIL (As := [.int y1, .int y2]) (rest := []) (cxx_mean l E F a S y1 y2 r S2 h1) cal_X11_mean cav_X11_mean lk_L_244 cx hP hD hS hl dL_law_1878 rfl rfl rfl rfl (Nat.le_of_ble_eq_true rfl) ⟨Nat.le_of_ble_eq_true rfl, Nat.le_of_ble_eq_true rfl⟩ (Nat.le_of_ble_eq_true rfl) (Nat.le_of_ble_eq_true rfl) (fun H locs hP hD hS => ?_)
  refine lv_aload_n hx hb dL_law_1881 rfl (lv_at hl 2 rfl) ?_
  refine lv_aload_n hx hb dL_law_1882 rfl (lv_at hl 0 rfl) ?_
  refine lv_iload_n hx hb dL_law_1883 rfl (lv_at hl 3 rfl) ?_
  refine lv_iconst (v := 1) hx hb dL_law_1884 (by decide) ?_
  refine lv_iadd hx hb dL_law_1885 ?_
  refine va_sld hx hb hXs hbl hbA hS hin1 dL_law_1886 ?_
  rw [ey1]
  refine lv_aload_n hx hb dL_law_1887 rfl (lv_at hl 0 rfl) ?_
  refine lv_iload_n hx hb dL_law_1888 rfl (lv_at hl 3 rfl) ?_
  refine lv_iconst (v := 2) hx hb dL_law_1889 (by decide) ?_
  refine lv_iadd hx hb dL_law_1890 ?_
  refine va_sld hx hb hXs hbl hbA hS hin2 dL_law_1891 ?_
  rw [ey2]
  refine lcallIR (As := [.int y1, .int y2]) (rest := [.int r]) (cxm_mean l E F bb T y1 y2 r T2 h2) cal_X12_mean cav_X12_mean lk_L_247 cx hP hD hS hl dL_law_1892 rfl rfl rfl rfl (Nat.le_of_ble_eq_true rfl) ⟨Nat.le_of_ble_eq_true rfl, Nat.le_of_ble_eq_true rfl⟩ (Nat.le_of_ble_eq_true rfl) (Nat.le_of_ble_eq_true rfl) (fun H locs hP hD hS => ?_)
  refine lv_icmp_eq (tgt := 1926) hx hb dL_law_1895 (by decide) (fun hc => ?_) (fun hc => absurd rfl hc)
  exact again _ _ hR2 _ _ _ hP hD hS hl
set_option maxHeartbeats 8000000 in
set_option maxRecDepth 100000 in
theorem lc_55 (ok55 : ok_mark F Rel) (cx : Cx p s m #[Value.ref b] meth c cL_law RL 4 rt E A) (hXs : va_X b L xs s s.heap) (hbl : b < s.heap.size) (hbA : ¬ A b) (hin1 : vp_in (nI i + 1) L) (hin2 : vp_in (nI i + 2) L) (hin3 : vp_in (nI i + 3) L) (hin4 : vp_in (nI i + 4) L) (hin5 : vp_in (nI i + 5) L) (ey1 : xs (nI i + 1).toNatClampNeg = y1) (ey2 : xs (nI i + 2).toNatClampNeg = y2) (ey3 : xs (nI i + 3).toNatClampNeg = y3) (ey4 : xs (nI i + 4).toNatClampNeg = y4) (ey5 : xs (nI i + 5).toNatClampNeg = y5) (again : ∀ (S T : vS), Rel S T → ∀ (H : Heap) (locs : List Loc) (ls : Array Slot), va_P E.1 vwCl (wf_X11 E a S ++ wf_X12 E bb T) H → va_D A (wf_X11 E a S ++ wf_X12 E bb T) → va_S A s.heap H locs → lv_has ls 4 [(0, .ref b), (1, .ref (a 0)), (2, .ref (bb 0)), (3, .int (nI i))] → W p l e room_1 s m #[Value.ref b] below meth c H locs 149 20625 QQ (F0 m 1926 ls [])) (hRel : Rel S T) (hP : va_P E.1 vwCl (wf_X11 E a S ++ wf_X12 E bb T) H) (hD : va_D A (wf_X11 E a S ++ wf_X12 E bb T)) (hS : va_S A s.heap H locs) (hl : lv_has ls 4 [(0, .ref b), (1, .ref (a 0)), (2, .ref (bb 0)), (3, .int (nI i))]) : W p l e room_1 s m #[Value.ref b] below meth c H locs 149 20625 QQ (F0 m 1900 ls []) := by
  obtain ⟨⟨hx, hb, hml, hown, hts⟩, hr, hlocks, hK, hA, hX⟩ := id cx
  obtain ⟨r, S2, T2, h1, h2, hR2⟩ := ok55 S T  hRel
  refine lv_aload_n hx hb dL_law_1900 rfl (lv_at hl 1 rfl) ?_
  refine lcallIL (As := []) (rest := []) (cxx_mark l E F a S  r S2 h1) cal_X11_mark cav_X11_mark lk_L_248 cx hP hD hS hl dL_law_1901 rfl rfl rfl rfl (Nat.le_of_ble_eq_true rfl) ⟨Nat.le_of_ble_eq_true rfl, Nat.le_of_ble_eq_true rfl⟩ (Nat.le_of_ble_eq_true rfl) (Nat.le_of_ble_eq_true rfl) (fun H locs hP hD hS => ?_)
  refine lv_aload_n hx hb dL_law_1904 rfl (lv_at hl 2 rfl) ?_
  refine lcallIR (As := []) (rest := [.int r]) (cxm_mark l E F bb T  r T2 h2) cal_X12_mark cav_X12_mark lk_L_251 cx hP hD hS hl dL_law_1905 rfl rfl rfl rfl (Nat.le_of_ble_eq_true rfl) ⟨Nat.le_of_ble_eq_true rfl, Nat.le_of_ble_eq_true rfl⟩ (Nat.le_of_ble_eq_true rfl) (Nat.le_of_ble_eq_true rfl) (fun H locs hP hD hS => ?_)
  refine lv_icmp_eq (tgt := 1926) hx hb dL_law_1908 (by decide) (fun hc => ?_) (fun hc => absurd rfl hc)
  exact again _ _ hR2 _ _ _ hP hD hS hl
set_option maxHeartbeats 8000000 in
set_option maxRecDepth 100000 in
theorem lc_56 (ok56 : ok_undo F Rel) (cx : Cx p s m #[Value.ref b] meth c cL_law RL 4 rt E A) (hXs : va_X b L xs s s.heap) (hbl : b < s.heap.size) (hbA : ¬ A b) (hin1 : vp_in (nI i + 1) L) (hin2 : vp_in (nI i + 2) L) (hin3 : vp_in (nI i + 3) L) (hin4 : vp_in (nI i + 4) L) (hin5 : vp_in (nI i + 5) L) (ey1 : xs (nI i + 1).toNatClampNeg = y1) (ey2 : xs (nI i + 2).toNatClampNeg = y2) (ey3 : xs (nI i + 3).toNatClampNeg = y3) (ey4 : xs (nI i + 4).toNatClampNeg = y4) (ey5 : xs (nI i + 5).toNatClampNeg = y5) (again : ∀ (S T : vS), Rel S T → ∀ (H : Heap) (locs : List Loc) (ls : Array Slot), va_P E.1 vwCl (wf_X11 E a S ++ wf_X12 E bb T) H → va_D A (wf_X11 E a S ++ wf_X12 E bb T) → va_S A s.heap H locs → lv_has ls 4 [(0, .ref b), (1, .ref (a 0)), (2, .ref (bb 0)), (3, .int (nI i))] → W p l e room_1 s m #[Value.ref b] below meth c H locs 149 20625 QQ (F0 m 1926 ls [])) (hRel : Rel S T) (hP : va_P E.1 vwCl (wf_X11 E a S ++ wf_X12 E bb T) H) (hD : va_D A (wf_X11 E a S ++ wf_X12 E bb T)) (hS : va_S A s.heap H locs) (hl : lv_has ls 4 [(0, .ref b), (1, .ref (a 0)), (2, .ref (bb 0)), (3, .int (nI i))]) : W p l e room_1 s m #[Value.ref b] below meth c H locs 149 20625 QQ (F0 m 1913 ls []) := by
  obtain ⟨⟨hx, hb, hml, hown, hts⟩, hr, hlocks, hK, hA, hX⟩ := id cx
  obtain ⟨r, S2, T2, h1, h2, hR2⟩ := ok56 S T  hRel
  refine lv_aload_n hx hb dL_law_1913 rfl (lv_at hl 1 rfl) ?_
  refine lcallIL (As := []) (rest := []) (cxx_undo l E F a S  r S2 h1) cal_X11_undo cav_X11_undo lk_L_252 cx hP hD hS hl dL_law_1914 rfl rfl rfl rfl (Nat.le_of_ble_eq_true rfl) ⟨Nat.le_of_ble_eq_true rfl, Nat.le_of_ble_eq_true rfl⟩ (Nat.le_of_ble_eq_true rfl) (Nat.le_of_ble_eq_true rfl) (fun H locs hP hD hS => ?_)
  refine lv_aload_n hx hb dL_law_1917 rfl (lv_at hl 2 rfl) ?_
  refine lcallIR (As := []) (rest := [.int r]) (cxm_undo l E F bb T  r T2 h2) cal_X12_undo cav_X12_undo lk_L_255 cx hP hD hS hl dL_law_1918 rfl rfl rfl rfl (Nat.le_of_ble_eq_true rfl) ⟨Nat.le_of_ble_eq_true rfl, Nat.le_of_ble_eq_true rfl⟩ (Nat.le_of_ble_eq_true rfl) (Nat.le_of_ble_eq_true rfl) (fun H locs hP hD hS => ?_)
  refine lv_icmp_eq (tgt := 1926) hx hb dL_law_1921 (by decide) (fun hc => ?_) (fun hc => absurd rfl hc)
  exact again _ _ hR2 _ _ _ hP hD hS hl
end LawC
