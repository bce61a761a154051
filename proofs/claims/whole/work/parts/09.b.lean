/-! THE CLAIM OUT OF ONE WALK OF THE LAW'S BODY. Your part is whole_start (and what it stands on); all else here is the same for every law, but numbers. -/
def R_law : String := "ExtraCasteLaw"
def lw_P (b : Addr) (xs : List Int32) (args : Array Value) (s : State) : Prop := args = #[.ref b] ∧ s.IntsAt b xs ∧ xs.length ≤ 3072 ∧ (Jvm.Cond.and given_1 narrow_1).before args s = true
def lw_Q (_ : Array Value) (s : State) (o : Outcome) (t : State) : Prop := o = .returned (some (.int 1)) ∧ Framed s o t [] 600000 7302250
def lw_Z (below : List Frame) (a : Array Value) (s : State) : State → Prop := fun t => ∃ o, t.status = .running ∧ Ended t below o ∧ lw_Q a s o t
/-- the law's own end, with 1 on the stack, nothing written that was there before, its room as the claim has it -/
theorem lw_ret {p : Program} {l : Launch} {e : Env} {s : State} {m : MethodId} {below : List Frame} {meth : Method} {c : Code} {b : Nat} (hx : p.tables.exec = Jvm.exec) (hb : c.code = code) (hr : meth.sig.returnType = ret) (hlocks : meth.locks = false) {pc : Nat} {H : Heap} {ls : Array Slot} (hdg : decode code pc = .ok (.ireturn, 1)) : W p l e room_1 s m #[Value.ref b] below meth c H [] 600000 7302250 (lw_Z below #[Value.ref b] s) (F0 m pc ls [.int 1]) := by
  intro T hT X
  obtain ⟨fs, hret, hrun, hended, hW, hframe⟩ := X.leave (v := some (.int 1)) (hlocks := hlocks) (fun h => by rw [hr] at h; cases h)
  have hmeth' : T.vm.method? m = some meth := X.method'
  refine ⟨T.setFrames fs, ?_, .returned (some (.int 1)), hrun, hended, rfl, ⟨_, rfl⟩, hW, hframe⟩
  jvm_step X.here [X.here.top, hx, hb, hdg, hmeth', hr, ret, narrow_b1]
  (try refine ⟨rfl, ?_⟩); (try refine ⟨rfl, ?_⟩)
  first | (intro acts; rw [hret _ acts rfl rfl rfl]) | rw [hret _ _ rfl rfl rfl]
  exact Steps.refl _
/-- what holds at the law's entry: the machine, the code, the tables' words (any of lw_tbl by 'hts w (by decide +kernel)'), the script of L ints xs at the cell b, what the Statement gives of the start (any of its parts by flat_of_before) -/
def lw_At (p : Program) (s : State) (m : MethodId) (meth : Method) (c : Code) (b L : Nat) (xs : Nat → Int32) : Prop :=
  p.tables.exec = Jvm.exec ∧ c.code = code ∧ meth.sig.returnType = ret ∧ c.maxLocals = 4 ∧ s.vm.findClass R_law = some m.cls ∧ (∀ w ∈ lw_tbl, w.before #[Value.ref b] s = true) ∧ va_X b L xs s s.heap ∧ b < s.heap.size ∧ meth.locks = false ∧ (Jvm.Cond.and given_1 narrow_1).before #[Value.ref b] s = true
set_option maxHeartbeats 8000000 in
set_option maxRecDepth 100000 in
theorem law_sw {p : Program} {l : Launch} {e : Env} {s : State} {m : MethodId} {below : List Frame} {meth : Method} {c : Code} {QQ : State → Prop} {b L i F : Nat} {xs : Nat → Int32} {E : vE} {a bb : Nat → Nat} {A : Nat → Prop} {Rel : vS → vS → Prop} {S T : vS} {H : Heap} {locs : List Loc} {ls : Array Slot} {y1 y2 y3 y4 y5 : Int32} {rt : Option FieldType} (ok : AllOk F Rel) (x : Int32) (h0 : 0 ≤ x.toInt) (h63 : x.toInt < 64) (cx : Cx p s m #[Value.ref b] meth c cL_law RL 4 rt E A) (hXs : va_X b L xs s s.heap) (hbl : b < s.heap.size) (hbA : ¬ A b) (hin1 : vp_in (nI i + 1) L) (hin2 : vp_in (nI i + 2) L) (hin3 : vp_in (nI i + 3) L) (hin4 : vp_in (nI i + 4) L) (hin5 : vp_in (nI i + 5) L) (ey1 : xs (nI i + 1).toNatClampNeg = y1) (ey2 : xs (nI i + 2).toNatClampNeg = y2) (ey3 : xs (nI i + 3).toNatClampNeg = y3) (ey4 : xs (nI i + 4).toNatClampNeg = y4) (ey5 : xs (nI i + 5).toNatClampNeg = y5) (again : ∀ (S T : vS), Rel S T → ∀ (H : Heap) (locs : List Loc) (ls : Array Slot), va_P E.1 vwCl (wf_X11 E a S ++ wf_X12 E bb T) H → va_D A (wf_X11 E a S ++ wf_X12 E bb T) → va_S A s.heap H locs → lv_has ls 4 [(0, .ref b), (1, .ref (a 0)), (2, .ref (bb 0)), (3, .int (nI i))] → W p l e room_1 s m #[Value.ref b] below meth c H locs 149 20625 QQ (F0 m 1926 ls [])) (hRel : Rel S T) (hP : va_P E.1 vwCl (wf_X11 E a S ++ wf_X12 E bb T) H) (hD : va_D A (wf_X11 E a S ++ wf_X12 E bb T)) (hS : va_S A s.heap H locs) (hl : lv_has ls 4 [(0, .ref b), (1, .ref (a 0)), (2, .ref (bb 0)), (3, .int (nI i))]) : W p l e room_1 s m #[Value.ref b] below meth c H locs 149 20625 QQ (F0 m 33 ls [.int x]) := by
  obtain ⟨ok0, ok1, ok2, ok3, ok4, ok5, ok6, ok7, ok8, ok9, ok10, ok11, ok12, ok13, ok14, ok15, ok16, ok17, ok18, ok19, ok20, ok21, ok22, ok23, ok24, ok25, ok26, ok27, ok28, ok29, ok30, ok31, ok32, ok33, ok34, ok35, ok36, ok37, ok38, ok39, ok40, ok41, ok42, ok43, ok44, ok45, ok46, ok47, ok48, ok49, ok50, ok51, ok52, ok53, ok54, ok55, ok56⟩ := ok
  by_cases h0 : x.toInt = 0
  · exact swTn (tgt := 276) 0 cx dL_law_33 (by rw [h0]; decide) (by decide) rfl (by decide) (lc_0 ok0 cx hXs hbl hbA hin1 hin2 hin3 hin4 hin5 ey1 ey2 ey3 ey4 ey5 again hRel hP hD hS hl)
  by_cases h1 : x.toInt = 1
  · exact swTn (tgt := 289) 1 cx dL_law_33 (by rw [h1]; decide) (by decide) rfl (by decide) (lc_1 ok1 cx hXs hbl hbA hin1 hin2 hin3 hin4 hin5 ey1 ey2 ey3 ey4 ey5 again hRel hP hD hS hl)
  by_cases h2 : x.toInt = 2
  · exact swTn (tgt := 303) 2 cx dL_law_33 (by rw [h2]; decide) (by decide) rfl (by decide) (lc_2 ok2 cx hXs hbl hbA hin1 hin2 hin3 hin4 hin5 ey1 ey2 ey3 ey4 ey5 again hRel hP hD hS hl)
  by_cases h3 : x.toInt = 3
  · exact swTn (tgt := 317) 3 cx dL_law_33 (by rw [h3]; decide) (by decide) rfl (by decide) (lc_3 ok3 cx hXs hbl hbA hin1 hin2 hin3 hin4 hin5 ey1 ey2 ey3 ey4 ey5 again hRel hP hD hS hl)
  by_cases h4 : x.toInt = 4
  · exact swTn (tgt := 360) 4 cx dL_law_33 (by rw [h4]; decide) (by decide) rfl (by decide) (lc_4 ok4 cx hXs hbl hbA hin1 hin2 hin3 hin4 hin5 ey1 ey2 ey3 ey4 ey5 again hRel hP hD hS hl)
  by_cases h5 : x.toInt = 5
  · exact swTn (tgt := 433) 5 cx dL_law_33 (by rw [h5]; decide) (by decide) rfl (by decide) (lc_5 ok5 cx hXs hbl hbA hin1 hin2 hin3 hin4 hin5 ey1 ey2 ey3 ey4 ey5 again hRel hP hD hS hl)
  by_cases h6 : x.toInt = 6
  · exact swTn (tgt := 467) 6 cx dL_law_33 (by rw [h6]; decide) (by decide) rfl (by decide) (lc_6 ok6 cx hXs hbl hbA hin1 hin2 hin3 hin4 hin5 ey1 ey2 ey3 ey4 ey5 again hRel hP hD hS hl)
  by_cases h7 : x.toInt = 7
  · exact swTn (tgt := 530) 7 cx dL_law_33 (by rw [h7]; decide) (by decide) rfl (by decide) (lc_7 ok7 cx hXs hbl hbA hin1 hin2 hin3 hin4 hin5 ey1 ey2 ey3 ey4 ey5 again hRel hP hD hS hl)
  by_cases h8 : x.toInt = 8
  · exact swTn (tgt := 593) 8 cx dL_law_33 (by rw [h8]; decide) (by decide) rfl (by decide) (lc_8 ok8 cx hXs hbl hbA hin1 hin2 hin3 hin4 hin5 ey1 ey2 ey3 ey4 ey5 again hRel hP hD hS hl)
  by_cases h9 : x.toInt = 9
  · exact swTn (tgt := 616) 9 cx dL_law_33 (by rw [h9]; decide) (by decide) rfl (by decide) (lc_9 ok9 cx hXs hbl hbA hin1 hin2 hin3 hin4 hin5 ey1 ey2 ey3 ey4 ey5 again hRel hP hD hS hl)
  by_cases h10 : x.toInt = 10
  · exact swTn (tgt := 639) 10 cx dL_law_33 (by rw [h10]; decide) (by decide) rfl (by decide) (lc_10 ok10 cx hXs hbl hbA hin1 hin2 hin3 hin4 hin5 ey1 ey2 ey3 ey4 ey5 again hRel hP hD hS hl)
  by_cases h11 : x.toInt = 11
  · exact swTn (tgt := 662) 11 cx dL_law_33 (by rw [h11]; decide) (by decide) rfl (by decide) (lc_11 ok11 cx hXs hbl hbA hin1 hin2 hin3 hin4 hin5 ey1 ey2 ey3 ey4 ey5 again hRel hP hD hS hl)
  by_cases h12 : x.toInt = 12
  · exact swTn (tgt := 685) 12 cx dL_law_33 (by rw [h12]; decide) (by decide) rfl (by decide) (lc_12 ok12 cx hXs hbl hbA hin1 hin2 hin3 hin4 hin5 ey1 ey2 ey3 ey4 ey5 again hRel hP hD hS hl)
  by_cases h13 : x.toInt = 13
  · exact swTn (tgt := 718) 13 cx dL_law_33 (by rw [h13]; decide) (by decide) rfl (by decide) (lc_13 ok13 cx hXs hbl hbA hin1 hin2 hin3 hin4 hin5 ey1 ey2 ey3 ey4 ey5 again hRel hP hD hS hl)
  by_cases h14 : x.toInt = 14
  · exact swTn (tgt := 751) 14 cx dL_law_33 (by rw [h14]; decide) (by decide) rfl (by decide) (lc_14 ok14 cx hXs hbl hbA hin1 hin2 hin3 hin4 hin5 ey1 ey2 ey3 ey4 ey5 again hRel hP hD hS hl)
  by_cases h15 : x.toInt = 15
  · exact swTn (tgt := 784) 15 cx dL_law_33 (by rw [h15]; decide) (by decide) rfl (by decide) (lc_15 ok15 cx hXs hbl hbA hin1 hin2 hin3 hin4 hin5 ey1 ey2 ey3 ey4 ey5 again hRel hP hD hS hl)
  by_cases h16 : x.toInt = 16
  · exact swTn (tgt := 807) 16 cx dL_law_33 (by rw [h16]; decide) (by decide) rfl (by decide) (lc_16 ok16 cx hXs hbl hbA hin1 hin2 hin3 hin4 hin5 ey1 ey2 ey3 ey4 ey5 again hRel hP hD hS hl)
  by_cases h17 : x.toInt = 17
  · exact swTn (tgt := 840) 17 cx dL_law_33 (by rw [h17]; decide) (by decide) rfl (by decide) (lc_17 ok17 cx hXs hbl hbA hin1 hin2 hin3 hin4 hin5 ey1 ey2 ey3 ey4 ey5 again hRel hP hD hS hl)
  by_cases h18 : x.toInt = 18
  · exact swTn (tgt := 863) 18 cx dL_law_33 (by rw [h18]; decide) (by decide) rfl (by decide) (lc_18 ok18 cx hXs hbl hbA hin1 hin2 hin3 hin4 hin5 ey1 ey2 ey3 ey4 ey5 again hRel hP hD hS hl)
  by_cases h19 : x.toInt = 19
  · exact swTn (tgt := 922) 19 cx dL_law_33 (by rw [h19]; decide) (by decide) rfl (by decide) (lc_19 ok19 cx hXs hbl hbA hin1 hin2 hin3 hin4 hin5 ey1 ey2 ey3 ey4 ey5 again hRel hP hD hS hl)
  by_cases h20 : x.toInt = 20
  · exact swTn (tgt := 955) 20 cx dL_law_33 (by rw [h20]; decide) (by decide) rfl (by decide) (lc_20 ok20 cx hXs hbl hbA hin1 hin2 hin3 hin4 hin5 ey1 ey2 ey3 ey4 ey5 again hRel hP hD hS hl)
  by_cases h21 : x.toInt = 21
  · exact swTn (tgt := 988) 21 cx dL_law_33 (by rw [h21]; decide) (by decide) rfl (by decide) (lc_21 ok21 cx hXs hbl hbA hin1 hin2 hin3 hin4 hin5 ey1 ey2 ey3 ey4 ey5 again hRel hP hD hS hl)
  by_cases h22 : x.toInt = 22
  · exact swTn (tgt := 1031) 22 cx dL_law_33 (by rw [h22]; decide) (by decide) rfl (by decide) (lc_22 ok22 cx hXs hbl hbA hin1 hin2 hin3 hin4 hin5 ey1 ey2 ey3 ey4 ey5 again hRel hP hD hS hl)
  by_cases h23 : x.toInt = 23
  · exact swTn (tgt := 1054) 23 cx dL_law_33 (by rw [h23]; decide) (by decide) rfl (by decide) (lc_23 ok23 cx hXs hbl hbA hin1 hin2 hin3 hin4 hin5 ey1 ey2 ey3 ey4 ey5 again hRel hP hD hS hl)
  by_cases h24 : x.toInt = 24
  · exact swTn (tgt := 1087) 24 cx dL_law_33 (by rw [h24]; decide) (by decide) rfl (by decide) (lc_24 ok24 cx hXs hbl hbA hin1 hin2 hin3 hin4 hin5 ey1 ey2 ey3 ey4 ey5 again hRel hP hD hS hl)
  by_cases h25 : x.toInt = 25
  · exact swTn (tgt := 1120) 25 cx dL_law_33 (by rw [h25]; decide) (by decide) rfl (by decide) (lc_25 ok25 cx hXs hbl hbA hin1 hin2 hin3 hin4 hin5 ey1 ey2 ey3 ey4 ey5 again hRel hP hD hS hl)
  by_cases h26 : x.toInt = 26
  · exact swTn (tgt := 1153) 26 cx dL_law_33 (by rw [h26]; decide) (by decide) rfl (by decide) (lc_26 ok26 cx hXs hbl hbA hin1 hin2 hin3 hin4 hin5 ey1 ey2 ey3 ey4 ey5 again hRel hP hD hS hl)
  by_cases h27 : x.toInt = 27
  · exact swTn (tgt := 1186) 27 cx dL_law_33 (by rw [h27]; decide) (by decide) rfl (by decide) (lc_27 ok27 cx hXs hbl hbA hin1 hin2 hin3 hin4 hin5 ey1 ey2 ey3 ey4 ey5 again hRel hP hD hS hl)
  by_cases h28 : x.toInt = 28
  · exact swTn (tgt := 1219) 28 cx dL_law_33 (by rw [h28]; decide) (by decide) rfl (by decide) (lc_28 ok28 cx hXs hbl hbA hin1 hin2 hin3 hin4 hin5 ey1 ey2 ey3 ey4 ey5 again hRel hP hD hS hl)
  by_cases h29 : x.toInt = 29
  · exact swTn (tgt := 1232) 29 cx dL_law_33 (by rw [h29]; decide) (by decide) rfl (by decide) (lc_29 ok29 cx hXs hbl hbA hin1 hin2 hin3 hin4 hin5 ey1 ey2 ey3 ey4 ey5 again hRel hP hD hS hl)
  by_cases h30 : x.toInt = 30
  · exact swTn (tgt := 1265) 30 cx dL_law_33 (by rw [h30]; decide) (by decide) rfl (by decide) (lc_30 ok30 cx hXs hbl hbA hin1 hin2 hin3 hin4 hin5 ey1 ey2 ey3 ey4 ey5 again hRel hP hD hS hl)
  by_cases h31 : x.toInt = 31
  · exact swTn (tgt := 1288) 31 cx dL_law_33 (by rw [h31]; decide) (by decide) rfl (by decide) (lc_31 ok31 cx hXs hbl hbA hin1 hin2 hin3 hin4 hin5 ey1 ey2 ey3 ey4 ey5 again hRel hP hD hS hl)
  by_cases h32 : x.toInt = 32
  · exact swTn (tgt := 1321) 32 cx dL_law_33 (by rw [h32]; decide) (by decide) rfl (by decide) (lc_32 ok32 cx hXs hbl hbA hin1 hin2 hin3 hin4 hin5 ey1 ey2 ey3 ey4 ey5 again hRel hP hD hS hl)
  by_cases h33 : x.toInt = 33
  · exact swTn (tgt := 1354) 33 cx dL_law_33 (by rw [h33]; decide) (by decide) rfl (by decide) (lc_33 ok33 cx hXs hbl hbA hin1 hin2 hin3 hin4 hin5 ey1 ey2 ey3 ey4 ey5 again hRel hP hD hS hl)
  by_cases h34 : x.toInt = 34
  · exact swTn (tgt := 1377) 34 cx dL_law_33 (by rw [h34]; decide) (by decide) rfl (by decide) (lc_34 ok34 cx hXs hbl hbA hin1 hin2 hin3 hin4 hin5 ey1 ey2 ey3 ey4 ey5 again hRel hP hD hS hl)
  by_cases h35 : x.toInt = 35
  · exact swTn (tgt := 1400) 35 cx dL_law_33 (by rw [h35]; decide) (by decide) rfl (by decide) (lc_35 ok35 cx hXs hbl hbA hin1 hin2 hin3 hin4 hin5 ey1 ey2 ey3 ey4 ey5 again hRel hP hD hS hl)
  by_cases h36 : x.toInt = 36
  · exact swTn (tgt := 1433) 36 cx dL_law_33 (by rw [h36]; decide) (by decide) rfl (by decide) (lc_36 ok36 cx hXs hbl hbA hin1 hin2 hin3 hin4 hin5 ey1 ey2 ey3 ey4 ey5 again hRel hP hD hS hl)
  by_cases h37 : x.toInt = 37
  · exact swTn (tgt := 1466) 37 cx dL_law_33 (by rw [h37]; decide) (by decide) rfl (by decide) (lc_37 ok37 cx hXs hbl hbA hin1 hin2 hin3 hin4 hin5 ey1 ey2 ey3 ey4 ey5 again hRel hP hD hS hl)
  by_cases h38 : x.toInt = 38
  · exact swTn (tgt := 1499) 38 cx dL_law_33 (by rw [h38]; decide) (by decide) rfl (by decide) (lc_38 ok38 cx hXs hbl hbA hin1 hin2 hin3 hin4 hin5 ey1 ey2 ey3 ey4 ey5 again hRel hP hD hS hl)
  by_cases h39 : x.toInt = 39
  · exact swTn (tgt := 1522) 39 cx dL_law_33 (by rw [h39]; decide) (by decide) rfl (by decide) (lc_39 ok39 cx hXs hbl hbA hin1 hin2 hin3 hin4 hin5 ey1 ey2 ey3 ey4 ey5 again hRel hP hD hS hl)
  by_cases h40 : x.toInt = 40
  · exact swTn (tgt := 1545) 40 cx dL_law_33 (by rw [h40]; decide) (by decide) rfl (by decide) (lc_40 ok40 cx hXs hbl hbA hin1 hin2 hin3 hin4 hin5 ey1 ey2 ey3 ey4 ey5 again hRel hP hD hS hl)
  by_cases h41 : x.toInt = 41
  · exact swTn (tgt := 1558) 41 cx dL_law_33 (by rw [h41]; decide) (by decide) rfl (by decide) (lc_41 ok41 cx hXs hbl hbA hin1 hin2 hin3 hin4 hin5 ey1 ey2 ey3 ey4 ey5 again hRel hP hD hS hl)
  by_cases h42 : x.toInt = 42
  · exact swTn (tgt := 1571) 42 cx dL_law_33 (by rw [h42]; decide) (by decide) rfl (by decide) (lc_42 ok42 cx hXs hbl hbA hin1 hin2 hin3 hin4 hin5 ey1 ey2 ey3 ey4 ey5 again hRel hP hD hS hl)
  by_cases h43 : x.toInt = 43
  · exact swTn (tgt := 1594) 43 cx dL_law_33 (by rw [h43]; decide) (by decide) rfl (by decide) (lc_43 ok43 cx hXs hbl hbA hin1 hin2 hin3 hin4 hin5 ey1 ey2 ey3 ey4 ey5 again hRel hP hD hS hl)
  by_cases h44 : x.toInt = 44
  · exact swTn (tgt := 1617) 44 cx dL_law_33 (by rw [h44]; decide) (by decide) rfl (by decide) (lc_44 ok44 cx hXs hbl hbA hin1 hin2 hin3 hin4 hin5 ey1 ey2 ey3 ey4 ey5 again hRel hP hD hS hl)
  by_cases h45 : x.toInt = 45
  · exact swTn (tgt := 1650) 45 cx dL_law_33 (by rw [h45]; decide) (by decide) rfl (by decide) (lc_45 ok45 cx hXs hbl hbA hin1 hin2 hin3 hin4 hin5 ey1 ey2 ey3 ey4 ey5 again hRel hP hD hS hl)
  by_cases h46 : x.toInt = 46
  · exact swTn (tgt := 1683) 46 cx dL_law_33 (by rw [h46]; decide) (by decide) rfl (by decide) (lc_46 ok46 cx hXs hbl hbA hin1 hin2 hin3 hin4 hin5 ey1 ey2 ey3 ey4 ey5 again hRel hP hD hS hl)
  by_cases h47 : x.toInt = 47
  · exact swTn (tgt := 1696) 47 cx dL_law_33 (by rw [h47]; decide) (by decide) rfl (by decide) (lc_47 ok47 cx hXs hbl hbA hin1 hin2 hin3 hin4 hin5 ey1 ey2 ey3 ey4 ey5 again hRel hP hD hS hl)
  by_cases h48 : x.toInt = 48
  · exact swTn (tgt := 1709) 48 cx dL_law_33 (by rw [h48]; decide) (by decide) rfl (by decide) (lc_48 ok48 cx hXs hbl hbA hin1 hin2 hin3 hin4 hin5 ey1 ey2 ey3 ey4 ey5 again hRel hP hD hS hl)
  by_cases h49 : x.toInt = 49
  · exact swTn (tgt := 1742) 49 cx dL_law_33 (by rw [h49]; decide) (by decide) rfl (by decide) (lc_49 ok49 cx hXs hbl hbA hin1 hin2 hin3 hin4 hin5 ey1 ey2 ey3 ey4 ey5 again hRel hP hD hS hl)
  by_cases h50 : x.toInt = 50
  · exact swTn (tgt := 1775) 50 cx dL_law_33 (by rw [h50]; decide) (by decide) rfl (by decide) (lc_50 ok50 cx hXs hbl hbA hin1 hin2 hin3 hin4 hin5 ey1 ey2 ey3 ey4 ey5 again hRel hP hD hS hl)
  by_cases h51 : x.toInt = 51
  · exact swTn (tgt := 1798) 51 cx dL_law_33 (by rw [h51]; decide) (by decide) rfl (by decide) (lc_51 ok51 cx hXs hbl hbA hin1 hin2 hin3 hin4 hin5 ey1 ey2 ey3 ey4 ey5 again hRel hP hD hS hl)
  by_cases h52 : x.toInt = 52
  · exact swTn (tgt := 1821) 52 cx dL_law_33 (by rw [h52]; decide) (by decide) rfl (by decide) (lc_52 ok52 cx hXs hbl hbA hin1 hin2 hin3 hin4 hin5 ey1 ey2 ey3 ey4 ey5 again hRel hP hD hS hl)
  by_cases h53 : x.toInt = 53
  · exact swTn (tgt := 1844) 53 cx dL_law_33 (by rw [h53]; decide) (by decide) rfl (by decide) (lc_53 ok53 cx hXs hbl hbA hin1 hin2 hin3 hin4 hin5 ey1 ey2 ey3 ey4 ey5 again hRel hP hD hS hl)
  by_cases h54 : x.toInt = 54
  · exact swTn (tgt := 1867) 54 cx dL_law_33 (by rw [h54]; decide) (by decide) rfl (by decide) (lc_54 ok54 cx hXs hbl hbA hin1 hin2 hin3 hin4 hin5 ey1 ey2 ey3 ey4 ey5 again hRel hP hD hS hl)
  by_cases h55 : x.toInt = 55
  · exact swTn (tgt := 1900) 55 cx dL_law_33 (by rw [h55]; decide) (by decide) rfl (by decide) (lc_55 ok55 cx hXs hbl hbA hin1 hin2 hin3 hin4 hin5 ey1 ey2 ey3 ey4 ey5 again hRel hP hD hS hl)
  by_cases h56 : x.toInt = 56
  · exact swTn (tgt := 1913) 56 cx dL_law_33 (by rw [h56]; decide) (by decide) rfl (by decide) (lc_56 ok56 cx hXs hbl hbA hin1 hin2 hin3 hin4 hin5 ey1 ey2 ey3 ey4 ey5 again hRel hP hD hS hl)
  refine swDn (tgt := 1926) cx dL_law_33 (Or.inr (by omega)) (by decide) ?_
  exact again S T hRel _ _ _ hP hD hS hl
theorem i32_sub6 {L i : Nat} (hL : L ≤ 3072) (hi : i ≤ 3078) : (Int32.ofNat L - 6 < nI i) ↔ L < i + 6 := by
  have h1 : (Int32.ofNat L - 6).toInt = (L : Int) - 6 := by
    have e : Int32.ofNat L - 6 = nI L - nI 6 := rfl
    rw [e, pk_sub_toInt (by omega) (by omega)]; rfl
  have h2 : (nI i).toInt = i := nI_toInt (by omega)
  rw [Int32.lt_iff_toInt_lt, h1, h2]; omega
theorem and63 (x : Int32) : 0 ≤ (x &&& 63).toInt ∧ (x &&& 63).toInt < 64 := by
  obtain ⟨j, hj, e⟩ := pk_andE x (m := 63) 6 (by decide)
  rw [e, nI_toInt (by omega)]; omega
set_option maxHeartbeats 8000000 in
set_option maxRecDepth 100000 in
/-- THE LAW'S LOOP -/
theorem law_loop {p : Program} {l : Launch} {e : Env} {s : State} {m : MethodId} {below : List Frame} {meth : Method} {c : Code} {b L F : Nat} {xs : Nat → Int32} {E : vE} {a bb : Nat → Nat} {Rel : vS → vS → Prop} (ok : AllOk F Rel) (hL : L ≤ 3072) (cx : Cx p s m #[Value.ref b] meth c cL_law RL 4 ret E (fun q : Nat => s.heap.size ≤ q)) (hXs : va_X b L xs s s.heap) (hbl : b < s.heap.size) :
    ∀ (n i : Nat) (S T : vS), i ≤ 3078 → L + 6 ≤ i + n → Rel S T → ∀ (H : Heap) (locs : List Loc) (ls : Array Slot), va_P E.1 vwCl (wf_X11 E a S ++ wf_X12 E bb T) H → va_D (fun q : Nat => s.heap.size ≤ q) (wf_X11 E a S ++ wf_X12 E bb T) → va_S (fun q : Nat => s.heap.size ≤ q) s.heap H locs → lv_has ls 4 [(0, .ref b), (1, .ref (a 0)), (2, .ref (bb 0)), (3, .int (nI i))] → W p l e room_1 s m #[Value.ref b] below meth c H locs 149 20625 (lw_Z below #[Value.ref b] s) (F0 m 18 ls []) := by
  have hbA : ¬ (fun q : Nat => s.heap.size ≤ q) b := Nat.not_le.mpr hbl
  obtain ⟨⟨hx, hb, hml, hown, hts⟩, hr, hlocks, hK, hA, hX⟩ := id cx
  have done : ∀ (H : Heap) (locs : List Loc) (ls : Array Slot), va_S (fun q : Nat => s.heap.size ≤ q) s.heap H locs → W p l e room_1 s m #[Value.ref b] below meth c H locs 149 20625 (lw_Z below #[Value.ref b] s) (F0 m 1932 ls []) := by
    intro H locs ls hS
    refine lv_iconst (v := 1) hx hb dL_law_1932 (by decide) ?_
    refine va_forget (fun q hq => hS.2.2 q hq) ?_
    refine W.widen (k := 600000) (n := 7302250) (Nat.le_of_ble_eq_true rfl) (Nat.le_of_ble_eq_true rfl) ?_
    exact lw_ret hx hb hr hlocks dL_law_1933
  intro n
  induction n with
  | zero =>
    intro i S T h1 h2 hRel H locs ls hP hD hS hl
    refine lv_iload_n hx hb dL_law_18 rfl (lv_at hl 3 rfl) ?_
    refine lv_aload_n hx hb dL_law_19 rfl (lv_at hl 0 rfl) ?_
    refine va_slen hx hb hXs hbl hbA hS dL_law_20 ?_
    refine lv_bipush (v := 6) hx hb dL_law_21 (by decide) ?_
    refine lv_isub hx hb dL_law_23 ?_
    refine lv_icmp_gt (tgt := 1932) hx hb dL_law_24 (by decide) (fun hc => done _ _ _ hS) (fun hc => absurd ((i32_sub6 hL h1).mpr (by omega)) hc)
  | succ n ih =>
    intro i S T h1 h2 hRel H locs ls hP hD hS hl
    refine lv_iload_n hx hb dL_law_18 rfl (lv_at hl 3 rfl) ?_
    refine lv_aload_n hx hb dL_law_19 rfl (lv_at hl 0 rfl) ?_
    refine va_slen hx hb hXs hbl hbA hS dL_law_20 ?_
    refine lv_bipush (v := 6) hx hb dL_law_21 (by decide) ?_
    refine lv_isub hx hb dL_law_23 ?_
    refine lv_icmp_gt (tgt := 1932) hx hb dL_law_24 (by decide) (fun hc => done _ _ _ hS) (fun hc => ?_)
    have hlt : i + 6 ≤ L := by
      rcases Nat.lt_or_ge L (i + 6) with q | q
      · exact absurd ((i32_sub6 hL h1).mpr q) hc
      · exact q
    have hin : ∀ k, k < 6 → vp_in (nI i + nI k) L := fun k hk => by rw [nI_add]; exact vp_in_nI (by omega) (by omega)
    refine lv_aload_n hx hb dL_law_27 rfl (lv_at hl 0 rfl) ?_
    refine lv_iload_n hx hb dL_law_28 rfl (lv_at hl 3 rfl) ?_
    refine va_sld hx hb hXs hbl hbA hS (vp_in_nI (by omega) (by omega)) dL_law_29 ?_
    refine lv_bipush (v := 63) hx hb dL_law_30 (by decide) ?_
    refine lv_iand hx hb dL_law_32 ?_
    obtain ⟨g1, g2⟩ := and63 (xs (nI i).toNatClampNeg)
    refine law_sw ok _ g1 g2 cx hXs hbl hbA (hin 1 (by omega)) (hin 2 (by omega)) (hin 3 (by omega)) (hin 4 (by omega)) (hin 5 (by omega)) rfl rfl rfl rfl rfl ?_ hRel hP hD hS hl
    intro S2 T2 hR2 H locs ls hP hD hS hl
    refine lv_iinc (v := nI (i + 6)) (lv' := [(3, .int (nI (i + 6))), (0, .ref b), (1, .ref (a 0)), (2, .ref (bb 0))]) hx hb dL_law_1926 hl (k := 3) rfl (nI_add i 6) (by decide) rfl (fun ls hl => ?_)
    refine lv_goto (tgt := 18) hx hb dL_law_1929 (by decide) ?_
    exact ih (i + 6) S2 T2 (by omega) (by omega) hR2 _ _ _ hP hD hS (lv_sub hl [1, 2, 3, 0] rfl)
