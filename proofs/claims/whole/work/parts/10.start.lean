theorem n_callA {p : Program} {l : Launch} {e : Env} {R : Room} {s : State} {m : MethodId} {args : Array Value} {below : List Frame} {meth : Method} {c : Code} {H : Heap} {locs : List Loc} {Q : State → Prop} {cells slots : Nat} {cc : ByteArray} {own : String} {nL pc : Nat} {E : vE} {A : Nat → Prop} {ls : Array Slot} {rest : List Value} {rt : Option FieldType} {w wc : va_W}
    {y : MethodName} {bytes : ByteArray} {maxL d index n mc ms : Nat} {b : Nat} {As st0 : List Value} {wn : (Nat → Nat) → va_W} (hM : CtN l y bytes maxL d E (.ref b :: As) wc mc ms wn) (hB : CallB R s args own index y bytes maxL none (.code y bytes maxL none :: gtbl) (rmN d mc ms) mc ms n) (hi : y.name = "<init>") (him : Cond.instanceMethod y ∈ gtbl) (cx : Cx p s m args meth c cc own nL rt E A) (hP : va_P E.1 vwCl (w ++ wc) H) (hD : va_D A (w ++ wc)) (hS : va_S A s.heap H locs) {lv : List (Nat × Value)} (hl : lv_has ls nL lv)
    (hdg : decode cc pc = .ok (.invokespecial index, 3)) (hlen : As.length = n) (hst : st0 = As.reverse ++ .ref b :: rest) (hw : (rest.map fun v => v.category).sum ≤ 8) (hcells : cells + mc ≤ R.cells) (hslots : slots + ms ≤ R.slots)
    (kk : ∀ (u : Nat → Nat) (H1 : Heap) (locs1 : List Loc), va_P E.1 vwCl (w ++ wn u) H1 → va_D A (w ++ wn u) → va_S A s.heap H1 locs1 → W p l e R s m args below meth c H1 locs1 (cells + mc) (slots + ms) Q (F0 m (pc + 3) ls rest)) : W p l e R s m args below meth c H locs cells slots Q (F0 m pc ls st0) := by
  obtain ⟨⟨hx, hb, hml, hown, hts⟩, hr, hlocks, hK, hA, hX⟩ := cx
  obtain ⟨hPw, hPc⟩ := va_P_left hP
  obtain ⟨hDw, hDc, hne⟩ := va_D_left hD
  have hFc : ∀ q, va_A wc H.size q → A q := by
    rintro q (⟨k, e, h⟩ | h)
    · exact hDc.2 k _ h
    · exact hA q (Nat.le_trans hS.1 h)
  refine va_callv (va_runI (As := As) (rest := rest) (b := b) (cc := cc) (nL := nL) (n := n) ⟨hx, hb, hml, hown, hts⟩ (hM H.size) ⟨hB, hi, hts _ him⟩ ⟨PreB_blind, fun U hU hW => ⟨rfl, by rw [hU], by rw [hU]; exact hPc, va_K.moved hW.alike hK, hDc.weaken (fun _ _ _ _ => trivial), by rw [hU]; exact SX.warm hW ((hX.kept hS.2.1).narrow hFc)⟩⟩ rfl hlen hl.1 hst (by show 2 * 0 + _ ≤ 8; omega) hdg ⟨hcells, hslots⟩) hS (fun q _ h => hFc q h) hFc (fun u t H1 locs1 ht hvm hw1 hB1 hz1 hk1 hS1 => ?_)
  obtain ⟨hP1, hK1, hD1⟩ := hB1
  rw [ht] at hP1
  have hP' : va_P E.1 vwCl (wc ++ w) H := hPc.app hPw
  have hD' : va_D A (wc ++ w) := va_D_app hDc hDw (fun i j p q h1 h2 e => hne j i q p h2 h1 e.symm)
  obtain ⟨q1, q2, q3, q4⟩ := joinL hP' hD' hk1 hFc hP1 hD1
  exact kk u H1 locs1 (q1.app hP1) (va_D_app q3 q2 (fun i j p q h1 h2 e => q4 j i q p h2 h1 e.symm)) hS1
theorem ins_X0 : Cond.instantiable RX0 11 ∈ gtbl := (gs1 30 rfl rfl)
theorem ins_X1 : Cond.instantiable RX1 3 ∈ gtbl := (gs1 230 rfl rfl)
theorem ins_X2 : Cond.instantiable RX2 11 ∈ gtbl := (gs2 77 rfl rfl)
theorem ins_X3 : Cond.instantiable RX3 4 ∈ gtbl := (gs1 85 rfl rfl)
theorem ins_X4 : Cond.instantiable RX4 4 ∈ gtbl := (gs2 47 rfl rfl)
theorem ins_X5 : Cond.instantiable RX5 1 ∈ gtbl := (gs2 67 rfl rfl)
theorem ins_X6 : Cond.instantiable RX6 4 ∈ gtbl := (gs1 36 rfl rfl)
theorem ins_X7 : Cond.instantiable RX7 3 ∈ gtbl := (gs1 42 rfl rfl)
theorem ins_X8 : Cond.instantiable RX8 10 ∈ gtbl := (gs1 184 rfl rfl)
theorem ins_X9 : Cond.instantiable RX9 3 ∈ gtbl := (gs2 31 rfl rfl)
theorem ins_X10 : Cond.instantiable RX10 4 ∈ gtbl := (gs2 9 rfl rfl)
theorem ins_X11 : Cond.instantiable RX11 19 ∈ gtbl := (gs1 22 rfl rfl)
theorem ins_X12 : Cond.instantiable RX12 39 ∈ gtbl := (gs6 142 rfl rfl)
theorem st_sr0 : Cond.stringRef RX8 84 tx0 ∈ lw_tbl := List.mem_append_right _ (List.mem_of_getElem? (i := 555) (by decide +kernel))
theorem st_sr1 : Cond.stringRef RX12 181 tx1 ∈ lw_tbl := List.mem_append_right _ (List.mem_of_getElem? (i := 1557) (by decide +kernel))
theorem st_ls0 : Cond.laysStatic "java/lang/String" "COMPACT_STRINGS" "Z" ∈ lw_tbl := List.mem_append_right _ (List.mem_of_getElem? (i := 565) (by decide +kernel))
theorem st_ls1 : Cond.laysStatic "jdk/internal/util/Preconditions" "SIOOBE_FORMATTER" "Ljava/util/function/BiFunction;" ∈ lw_tbl := List.mem_append_right _ (List.mem_of_getElem? (i := 581) (by decide +kernel))
theorem st_in0 : Cond.initialized "java/lang/String" ∈ lw_tbl := List.mem_append_right _ (List.mem_of_getElem? (i := 16) (by decide +kernel))
theorem st_in1 : Cond.initialized "jdk/internal/util/Preconditions" ∈ lw_tbl := List.mem_append_right _ (List.mem_of_getElem? (i := 18) (by decide +kernel))
theorem st_ao : Cond.arrayOver (.object "ExtraCaste$City") ∈ lw_tbl := List.mem_append_right _ (List.mem_of_getElem? (i := 182) (by decide +kernel))
theorem st_nk : ∀ q ∈ nkl, Cond.methodLinkNest q.1 q.2.1 q.2.2 "ExtraCaste" ∈ lw_tbl := by
  have h : ∀ k, k < 6 → ∀ q, nkl[k]? = some q → Cond.methodLinkNest q.1 q.2.1 q.2.2 "ExtraCaste" ∈ lw_tbl := by
    intro k hk q hq
    rcases (show k = 0 ∨ k = 1 ∨ k = 2 ∨ k = 3 ∨ k = 4 ∨ k = 5 by omega) with rfl | rfl | rfl | rfl | rfl | rfl
    · cases hq; exact List.mem_append_right _ (List.mem_of_getElem? (i := 37) (by decide +kernel))
    · cases hq; exact List.mem_append_right _ (List.mem_of_getElem? (i := 86) (by decide +kernel))
    · cases hq; exact List.mem_append_right _ (List.mem_of_getElem? (i := 185) (by decide +kernel))
    · cases hq; exact List.mem_append_right _ (List.mem_of_getElem? (i := 288) (by decide +kernel))
    · cases hq; exact List.mem_append_right _ (List.mem_of_getElem? (i := 308) (by decide +kernel))
    · cases hq; exact List.mem_append_right _ (List.mem_of_getElem? (i := 318) (by decide +kernel))
  intro q hq
  obtain ⟨k, hk⟩ := List.getElem?_of_mem hq
  exact h k (List.getElem?_eq_some_iff.mp hk).1 q hk
theorem nw_L_7 : Cond.classLink RL 7 RX11 ∈ gtbl ∧ Cond.instantiable RX11 19 ∈ gtbl ∧ Cond.initialized RX11 ∈ gtbl := ⟨(gs1 21 rfl rfl), ins_X11, (gs1 1 rfl rfl)⟩
theorem nw_L_10 : Cond.classLink RL 10 RX12 ∈ gtbl ∧ Cond.instantiable RX12 39 ∈ gtbl ∧ Cond.initialized RX12 ∈ gtbl := ⟨(gs6 141 rfl rfl), ins_X12, (gs1 13 rfl rfl)⟩
theorem ik_L_9 : Cond.methodLink RL 9 yX11_init ∈ gtbl := (gs1 23 rfl rfl)
theorem inL_X11 : Cal yX11_init cX11_init 2 none 0 ∧ Cond.instanceMethod yX11_init ∈ gtbl := ⟨⟨(gs1 25 rfl rfl), (gs1 1 rfl rfl), by decide +kernel, by decide +kernel, by decide +kernel⟩, (gs1 24 rfl rfl)⟩
theorem ik_L_12 : Cond.methodLink RL 12 yX12_init ∈ gtbl := (gs6 143 rfl rfl)
theorem inL_X12 : Cal yX12_init cX12_init 1 none 0 ∧ Cond.instanceMethod yX12_init ∈ gtbl := ⟨⟨(gs6 145 rfl rfl), (gs1 13 rfl rfl), by decide +kernel, by decide +kernel, by decide +kernel⟩, (gs6 144 rfl rfl)⟩
def tms : Nat → Term := fun i => if i = 0 then .string RX8 84 else .string RX12 181
abbrev gvn : List Cond := flatC (Jvm.Cond.and given_1 narrow_1)
theorem el0_0 : ∀ i ∈ List.range 30, gvn[13 + (0 + i)]? = some (Cond.eq (.elem (.field (.string RX8 84) "java/lang/String" "value" "[B") (.int (Int32.ofNat (0 + i)))) (.int ((bys.getD 0 []).getD (0 + i) 0))) := by decide +kernel
theorem el0_1 : ∀ i ∈ List.range 30, gvn[13 + (30 + i)]? = some (Cond.eq (.elem (.field (.string RX8 84) "java/lang/String" "value" "[B") (.int (Int32.ofNat (30 + i)))) (.int ((bys.getD 0 []).getD (30 + i) 0))) := by decide +kernel
theorem el0_2 : ∀ i ∈ List.range 30, gvn[13 + (60 + i)]? = some (Cond.eq (.elem (.field (.string RX8 84) "java/lang/String" "value" "[B") (.int (Int32.ofNat (60 + i)))) (.int ((bys.getD 0 []).getD (60 + i) 0))) := by decide +kernel
theorem el0_3 : ∀ i ∈ List.range 30, gvn[13 + (90 + i)]? = some (Cond.eq (.elem (.field (.string RX8 84) "java/lang/String" "value" "[B") (.int (Int32.ofNat (90 + i)))) (.int ((bys.getD 0 []).getD (90 + i) 0))) := by decide +kernel
theorem el0_4 : ∀ i ∈ List.range 20, gvn[13 + (120 + i)]? = some (Cond.eq (.elem (.field (.string RX8 84) "java/lang/String" "value" "[B") (.int (Int32.ofNat (120 + i)))) (.int ((bys.getD 0 []).getD (120 + i) 0))) := by decide +kernel
theorem el0 (j : Nat) (hj : j < 140) : (Cond.eq (.elem (.field (.string RX8 84) "java/lang/String" "value" "[B") (.int (Int32.ofNat j))) (.int ((bys.getD 0 []).getD j 0))) ∈ gvn := by
  rcases (show (0 ≤ j ∧ j < 30) ∨ (30 ≤ j ∧ j < 60) ∨ (60 ≤ j ∧ j < 90) ∨ (90 ≤ j ∧ j < 120) ∨ (120 ≤ j ∧ j < 140) by omega) with h | h | h | h | h
  · have := el0_0 (j - 0) (List.mem_range.mpr (by omega))
    rw [show 0 + (j - 0) = j by omega] at this
    exact List.mem_of_getElem? this
  · have := el0_1 (j - 30) (List.mem_range.mpr (by omega))
    rw [show 30 + (j - 30) = j by omega] at this
    exact List.mem_of_getElem? this
  · have := el0_2 (j - 60) (List.mem_range.mpr (by omega))
    rw [show 60 + (j - 60) = j by omega] at this
    exact List.mem_of_getElem? this
  · have := el0_3 (j - 90) (List.mem_range.mpr (by omega))
    rw [show 90 + (j - 90) = j by omega] at this
    exact List.mem_of_getElem? this
  · have := el0_4 (j - 120) (List.mem_range.mpr (by omega))
    rw [show 120 + (j - 120) = j by omega] at this
    exact List.mem_of_getElem? this
theorem el1_0 : ∀ i ∈ List.range 30, gvn[157 + (0 + i)]? = some (Cond.eq (.elem (.field (.string RX12 181) "java/lang/String" "value" "[B") (.int (Int32.ofNat (0 + i)))) (.int ((bys.getD 1 []).getD (0 + i) 0))) := by decide +kernel
theorem el1_1 : ∀ i ∈ List.range 30, gvn[157 + (30 + i)]? = some (Cond.eq (.elem (.field (.string RX12 181) "java/lang/String" "value" "[B") (.int (Int32.ofNat (30 + i)))) (.int ((bys.getD 1 []).getD (30 + i) 0))) := by decide +kernel
theorem el1_2 : ∀ i ∈ List.range 30, gvn[157 + (60 + i)]? = some (Cond.eq (.elem (.field (.string RX12 181) "java/lang/String" "value" "[B") (.int (Int32.ofNat (60 + i)))) (.int ((bys.getD 1 []).getD (60 + i) 0))) := by decide +kernel
theorem el1_3 : ∀ i ∈ List.range 30, gvn[157 + (90 + i)]? = some (Cond.eq (.elem (.field (.string RX12 181) "java/lang/String" "value" "[B") (.int (Int32.ofNat (90 + i)))) (.int ((bys.getD 1 []).getD (90 + i) 0))) := by decide +kernel
theorem el1_4 : ∀ i ∈ List.range 21, gvn[157 + (120 + i)]? = some (Cond.eq (.elem (.field (.string RX12 181) "java/lang/String" "value" "[B") (.int (Int32.ofNat (120 + i)))) (.int ((bys.getD 1 []).getD (120 + i) 0))) := by decide +kernel
theorem el1 (j : Nat) (hj : j < 141) : (Cond.eq (.elem (.field (.string RX12 181) "java/lang/String" "value" "[B") (.int (Int32.ofNat j))) (.int ((bys.getD 1 []).getD j 0))) ∈ gvn := by
  rcases (show (0 ≤ j ∧ j < 30) ∨ (30 ≤ j ∧ j < 60) ∨ (60 ≤ j ∧ j < 90) ∨ (90 ≤ j ∧ j < 120) ∨ (120 ≤ j ∧ j < 141) by omega) with h | h | h | h | h
  · have := el1_0 (j - 0) (List.mem_range.mpr (by omega))
    rw [show 0 + (j - 0) = j by omega] at this
    exact List.mem_of_getElem? this
  · have := el1_1 (j - 30) (List.mem_range.mpr (by omega))
    rw [show 30 + (j - 30) = j by omega] at this
    exact List.mem_of_getElem? this
  · have := el1_2 (j - 60) (List.mem_range.mpr (by omega))
    rw [show 60 + (j - 60) = j by omega] at this
    exact List.mem_of_getElem? this
  · have := el1_3 (j - 90) (List.mem_range.mpr (by omega))
    rw [show 90 + (j - 90) = j by omega] at this
    exact List.mem_of_getElem? this
  · have := el1_4 (j - 120) (List.mem_range.mpr (by omega))
    rw [show 120 + (j - 120) = j by omega] at this
    exact List.mem_of_getElem? this
theorem arr_of {args : Array Value} {s : State} {ty : FieldType} (h : (Cond.arrayClass ty).before args s = true) : ∃ cA, ArrOfT s cA ty ∧ s.vm.findClass ("[" ++ ty.toString) = some cA := by
  obtain ⟨cA, kA, comp, h1, h2, h3⟩ := Cond.arrayClass_spec h
  exact ⟨cA, fun n z => ⟨fun k h => (by cases h), kA, h2, comp, h3⟩, h1⟩
theorem two {P : Nat → Prop} (h0 : P 0) (h1 : P 1) : ∀ i, i < 2 → P i := fun i hi => by
  rcases (show i = 0 ∨ i = 1 by omega) with rfl | rfl
  · exact h0
  · exact h1
set_option maxHeartbeats 8000000 in
set_option maxRecDepth 100000 in
/-- what the start gives: the classes, the arrays' classes, the texts -/
theorem start_E {s : State} {b : Nat} (hts : ∀ w ∈ lw_tbl, w.before #[Value.ref b] s = true) (hgv : (Jvm.Cond.and given_1 narrow_1).before #[Value.ref b] s = true) : ∃ E : vE, va_K E.1 vwCl (tyE E) s ∧ SX E (fun q : Nat => s.heap.size ≤ q) s s.heap := by
  have htg : ∀ w ∈ gtbl, w.before #[Value.ref b] s = true := fun w h => hts w (gt_sub w h)
  have hs := flat_of_before _ hgv
  have hA : ∀ a : Nat, a < s.heap.size → ¬ (fun q : Nat => s.heap.size ≤ q) a := fun a h => Nat.not_le.mpr h
  obtain ⟨c0, iS0, hKn0⟩ := u_known (C := RX0) (T := TX0) (N := 11) (n := 11) htg inX0 (htg _ ins_X0)
  obtain ⟨c1, iS1, hKn1⟩ := u_known (C := RX1) (T := TX1) (N := 3) (n := 3) htg inX1 (htg _ ins_X1)
  obtain ⟨c2, iS2, hKn2⟩ := u_known (C := RX2) (T := TX2) (N := 11) (n := 11) htg inX2 (htg _ ins_X2)
  obtain ⟨c3, iS3, hKn3⟩ := u_known (C := RX3) (T := TX3) (N := 4) (n := 4) htg inX3 (htg _ ins_X3)
  obtain ⟨c4, iS4, hKn4⟩ := u_known (C := RX4) (T := TX4) (N := 4) (n := 4) htg inX4 (htg _ ins_X4)
  obtain ⟨c5, iS5, hKn5⟩ := u_known (C := RX5) (T := TX5) (N := 1) (n := 1) htg inX5 (htg _ ins_X5)
  obtain ⟨c6, iS6, hKn6⟩ := u_known (C := RX6) (T := TX6) (N := 4) (n := 4) htg inX6 (htg _ ins_X6)
  obtain ⟨c7, iS7, hKn7⟩ := u_known (C := RX7) (T := TX7) (N := 3) (n := 3) htg inX7 (htg _ ins_X7)
  obtain ⟨c8, iS8, hKn8⟩ := u_known (C := RX8) (T := TX8) (N := 10) (n := 10) htg inX8 (htg _ ins_X8)
  obtain ⟨c9, iS9, hKn9⟩ := u_known (C := RX9) (T := TX9) (N := 3) (n := 3) htg inX9 (htg _ ins_X9)
  obtain ⟨c10, iS10, hKn10⟩ := u_known (C := RX10) (T := TX10) (N := 4) (n := 4) htg inX10 (htg _ ins_X10)
  obtain ⟨c11, iS11, hKn11⟩ := u_known (C := RX11) (T := TX11) (N := 19) (n := 19) htg inX11 (htg _ ins_X11)
  obtain ⟨c12, iS12, hKn12⟩ := u_known (C := RX12) (T := TX12) (N := 39) (n := 39) htg inX12 (htg _ ins_X12)
  obtain ⟨dC, dI, hKc⟩ : ∃ (dC : Nat → ClassId) (dI : Nat → Nat → Nat), ∀ (k : Nat) (q : vw_C), vwCl[k]? = some q → u_Kn s q.1 q.2.1 q.2.2 (dC k) (dI k) := by
    refine ⟨fun k => ([c0, c1, c2, c3, c4, c5, c6, c7, c8, c9, c10, c11, c12] : List ClassId).getD k c0, fun k => ([iS0, iS1, iS2, iS3, iS4, iS5, iS6, iS7, iS8, iS9, iS10, iS11, iS12] : List (Nat → Nat)).getD k iS0, ?_⟩
    intro k q hq
    match k, hq with
    | 0, hq => cases hq; exact hKn0
    | 1, hq => cases hq; exact hKn1
    | 2, hq => cases hq; exact hKn2
    | 3, hq => cases hq; exact hKn3
    | 4, hq => cases hq; exact hKn4
    | 5, hq => cases hq; exact hKn5
    | 6, hq => cases hq; exact hKn6
    | 7, hq => cases hq; exact hKn7
    | 8, hq => cases hq; exact hKn8
    | 9, hq => cases hq; exact hKn9
    | 10, hq => cases hq; exact hKn10
    | 11, hq => cases hq; exact hKn11
    | 12, hq => cases hq; exact hKn12
    | k + 13, hq => simp [vwCl] at hq
  obtain ⟨cI, aI, fI⟩ := arr_of (htg _ ac_int)
  obtain ⟨cJ, aJ, fJ⟩ := arr_of (htg _ ac_long)
  obtain ⟨cB, aB, fB⟩ := arr_of (htg _ ac_byte)
  obtain ⟨cZ, aZ, fZ⟩ := arr_of (htg _ ac_boolean)
  obtain ⟨comp, cC, kC, g1, g2, g3, g4, g5⟩ := Cond.arrayOver_spec (hts _ st_ao)
  obtain ⟨adk, adv, hS, hev⟩ := vk_Sof (N := 2) (tm := tms) (len := lns) (byt := bys) (A := fun q : Nat => s.heap.size ≤ q) (args := #[Value.ref b]) (s := s) lns_lt
    (two (hs _ (by decide +kernel)) (hs _ (by decide +kernel)))
    (two (hs _ (by decide +kernel)) (hs _ (by decide +kernel)))
    (two (hs _ (by decide +kernel)) (hs _ (by decide +kernel)))
    (two (hs _ (by decide +kernel)) (hs _ (by decide +kernel)))
    (two (fun j hj => hs _ (el0 j hj)) (fun j hj => hs _ (el1 j hj)))
    (fun i j hi hj hne => by
      rcases (show (i = 0 ∧ j = 1) ∨ (i = 1 ∧ j = 0) by omega) with ⟨rfl, rfl⟩ | ⟨rfl, rfl⟩
      · exact Or.inl (hs _ (by decide +kernel))
      · exact Or.inr (hs _ (by decide +kernel)))
    hA
  refine ⟨((dC, dI), cI, cJ, cB, cZ, cC, adk, adv), ⟨hKc, ?_⟩, hS, va_Zof (hts _ st_ls0) (hts _ st_in0) (va_eqi (hs _ (by decide +kernel))) hA, va_Zqof (hts _ st_ls1) (hts _ st_in1) (hs _ (by decide +kernel)) hA, vk_R.of (hts _ st_sr0) (hev 0 (by decide)), vk_R.of (hts _ st_sr1) (hev 1 (by decide)), va_AO.of (hts _ st_ao), fun q hq => va_Nw.of rfl (hts _ (st_nk q hq))⟩
  intro k q hq
  match k, hq with
  | 0, hq => cases hq; exact ⟨aI, fI⟩
  | 1, hq => cases hq; exact ⟨aJ, fJ⟩
  | 2, hq => cases hq; exact ⟨aB, fB⟩
  | 3, hq => cases hq; exact ⟨aZ, fZ⟩
  | 4, hq => cases hq; exact ⟨fun n z => ⟨fun k h => (by cases h), kC, g3, comp, g4⟩, kC, comp, g3, g4, g1, g5⟩
  | k + 5, hq => simp [tyE] at hq
set_option maxHeartbeats 8000000 in
set_option maxRecDepth 100000 in
/-- THE LAW from its entry, out of what the pure functions do -/
theorem start_of (F : Nat) (Rel : vS → vS → Prop) (ok : AllOk F Rel) (S0 T0 : vS) (hS0 : i_X11 F = some S0) (hT0 : i_X12 F = some T0) (hR0 : Rel S0 T0) {p : Program} {e : Env} {s : State} {m : MethodId} {below : List Frame} {meth : Method} {c : Code} (l : Launch) {b L : Nat} {xs : Nat → Int32} (hL : L ≤ 3072) (C0 : lw_At p s m meth c b L xs) : W p l e room_1 s m #[Value.ref b] below meth c s.heap [] 0 0 (lw_Z below #[Value.ref b] s) (entryFrame m ([Value.ref b] : List Value).toArray 4) := by
  obtain ⟨hx, hb, hr, hml, hown, hts, hX, hbl, hlocks, hgv⟩ := C0
  obtain ⟨E, hK, hSX⟩ := start_E hts hgv
  have htg : ∀ w ∈ gtbl, w.before #[Value.ref b] s = true := fun w h => hts w (gt_sub w h)
  have hA : ∀ q : Nat, s.heap.size ≤ q → (fun q : Nat => s.heap.size ≤ q) q := fun _ h => h
  have cx : Cx p s m #[Value.ref b] meth c cL_law RL 4 ret E (fun q : Nat => s.heap.size ≤ q) := ⟨⟨hx, hb, hml, hown, htg⟩, hr, hlocks, hK, hA, hSX⟩
  have hS : va_S (fun q : Nat => s.heap.size ≤ q) s.heap s.heap [] := va_S.rf
  have hP : va_P E.1 vwCl [] s.heap := fun k q h => by simp at h
  have hD : va_D (fun q : Nat => s.heap.size ≤ q) [] := ⟨fun i j p q h => by simp at h, fun k q h => by simp at h⟩
  have hl := lv_entry ([.ref b]) (n := 4) (Nat.le_of_ble_eq_true rfl)
  rw [lg_entry_eq]
  generalize (lg_sl ([.ref b]) ++ List.replicate (4 - (lg_sl ([.ref b])).length) Slot.unset).toArray = ls at hl ⊢
  have hl : lv_has ls 4 [(0, .ref b)] := hl
  refine n_new (ci := 11) (fs := [.null, .null, .null, .int 0, .null, .null, .null, .null, .null, .null, .null, .null, .int 0, .int 0, .int 0, .int 0, .int 0, .long 0, .long 0]) (C := RX11) (T := TX11) (N := 19) cx inX11 tyX11 tyX11_ok nw_L_7 hP hD hS rfl (fun j hj => by rcases (show j = 0 ∨ j = 1 ∨ j = 2 ∨ j = 3 ∨ j = 4 ∨ j = 5 ∨ j = 6 ∨ j = 7 ∨ j = 8 ∨ j = 9 ∨ j = 10 ∨ j = 11 ∨ j = 12 ∨ j = 13 ∨ j = 14 ∨ j = 15 ∨ j = 16 ∨ j = 17 ∨ j = 18 by omega) with rfl | rfl | rfl | rfl | rfl | rfl | rfl | rfl | rfl | rfl | rfl | rfl | rfl | rfl | rfl | rfl | rfl | rfl | rfl <;> rfl) (Nat.le_of_ble_eq_true rfl) (Nat.le_of_ble_eq_true rfl) dL_law_0 (fun q1 H hP hD hS => ?_)
  have hP : va_P E.1 vwCl [(q1, .inr (11, [.null, .null, .null, .int 0, .null, .null, .null, .null, .null, .null, .null, .null, .int 0, .int 0, .int 0, .int 0, .int 0, .long 0, .long 0]))] H := hP
  have hD : va_D (fun q : Nat => s.heap.size ≤ q) [(q1, .inr (11, [.null, .null, .null, .int 0, .null, .null, .null, .null, .null, .null, .null, .null, .int 0, .int 0, .int 0, .int 0, .int 0, .long 0, .long 0]))] := hD
  refine lv_dup hx hb dL_law_3 rfl ?_
  refine n_callN (As := []) (ci_X11 l E F q1 S0 hS0) [0] [] (callN cx inL_X11.1 ik_L_9 ⟨Nat.le_of_ble_eq_true rfl, Nat.le_of_ble_eq_true rfl⟩) rfl inL_X11.2 cx hP hD hS hl dL_law_4 rfl rfl (Nat.le_of_ble_eq_true rfl) (Nat.le_of_ble_eq_true rfl) (Nat.le_of_ble_eq_true rfl) rfl rfl rfl rfl rfl (fun u1 H locs hP hD hS => ?_)
  have hP : va_P E.1 vwCl (wf_X11 E (acons q1 u1) S0) H := hP
  have hD : va_D (fun q : Nat => s.heap.size ≤ q) (wf_X11 E (acons q1 u1) S0) := hD
  refine lv_astore_n (lv' := [(1, .ref q1), (0, .ref b)]) hx hb dL_law_7 rfl hl (by decide) rfl (fun ls hl => ?_)
  generalize hw : wf_X11 E (acons q1 u1) S0 = w at hP hD
  refine n_new (ci := 12) (fs := [.null, .null, .int 0, .long 0, .long 0, .null, .null, .null, .null, .null, .int 0, .int 0, .int 0, .int 0, .int 0, .int 0, .int 0, .int 0, .int 0, .int 0, .int 0, .null, .int 0, .int 0, .null, .int 0, .null, .null, .null, .null, .int 0, .null, .int 0, .int 0, .null, .null, .null, .int 0, .int 0]) (C := RX12) (T := TX12) (N := 39) cx inX12 tyX12 tyX12_ok nw_L_10 hP hD hS rfl (fun j hj => by rcases (show j = 0 ∨ j = 1 ∨ j = 2 ∨ j = 3 ∨ j = 4 ∨ j = 5 ∨ j = 6 ∨ j = 7 ∨ j = 8 ∨ j = 9 ∨ j = 10 ∨ j = 11 ∨ j = 12 ∨ j = 13 ∨ j = 14 ∨ j = 15 ∨ j = 16 ∨ j = 17 ∨ j = 18 ∨ j = 19 ∨ j = 20 ∨ j = 21 ∨ j = 22 ∨ j = 23 ∨ j = 24 ∨ j = 25 ∨ j = 26 ∨ j = 27 ∨ j = 28 ∨ j = 29 ∨ j = 30 ∨ j = 31 ∨ j = 32 ∨ j = 33 ∨ j = 34 ∨ j = 35 ∨ j = 36 ∨ j = 37 ∨ j = 38 by omega) with rfl | rfl | rfl | rfl | rfl | rfl | rfl | rfl | rfl | rfl | rfl | rfl | rfl | rfl | rfl | rfl | rfl | rfl | rfl | rfl | rfl | rfl | rfl | rfl | rfl | rfl | rfl | rfl | rfl | rfl | rfl | rfl | rfl | rfl | rfl | rfl | rfl | rfl | rfl <;> rfl) (Nat.le_of_ble_eq_true rfl) (Nat.le_of_ble_eq_true rfl) dL_law_8 (fun q2 H hP hD hS => ?_)
  refine lv_dup hx hb dL_law_11 rfl ?_
  refine n_callA (As := []) (ci_X12 l E F q2 T0 hT0) (callN cx inL_X12.1 ik_L_12 ⟨Nat.le_of_ble_eq_true rfl, Nat.le_of_ble_eq_true rfl⟩) rfl inL_X12.2 cx hP hD hS hl dL_law_12 rfl rfl (Nat.le_of_ble_eq_true rfl) (Nat.le_of_ble_eq_true rfl) (Nat.le_of_ble_eq_true rfl) (fun u2 H locs hP hD hS => ?_)
  subst hw
  have hP : va_P E.1 vwCl (wf_X11 E (acons q1 u1) S0 ++ wf_X12 E (acons q2 u2) T0) H := hP
  have hD : va_D (fun q : Nat => s.heap.size ≤ q) (wf_X11 E (acons q1 u1) S0 ++ wf_X12 E (acons q2 u2) T0) := hD
  refine lv_astore_n (lv' := [(2, .ref q2), (1, .ref q1), (0, .ref b)]) hx hb dL_law_15 rfl hl (by decide) rfl (fun ls hl => ?_)
  refine lv_iconst (v := nI 0) hx hb dL_law_16 (by decide) ?_
  refine lv_istore_n (lv' := [(3, .int (nI 0)), (2, .ref q2), (1, .ref q1), (0, .ref b)]) hx hb dL_law_17 rfl hl (by decide) rfl (fun ls hl => ?_)
  refine W.widen (k := 149) (n := 20625) (Nat.le_of_ble_eq_true rfl) (Nat.le_of_ble_eq_true rfl) ?_
  exact law_loop (a := acons q1 u1) (bb := acons q2 u2) ok hL cx hX hbl (L + 6) 0 S0 T0 (by omega) (by omega) hR0 _ _ _ hP hD hS (lv_sub hl [3, 2, 1, 0] rfl)

