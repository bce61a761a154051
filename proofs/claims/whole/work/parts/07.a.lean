/-! ===== constructors: contracts that make cells ===== -/
def rmN (d mc ms : Nat) : Room := { frames := d, cells := mc, slots := ms, locals := 64 * d }
def acons (a : Nat) (u : Nat → Nat) : Nat → Nat
  | 0 => a
  | k + 1 => u k
def QcN (E : vE) (wn : (Nat → Nat) → va_W) (A : Nat → Prop) : Array Value → State → Outcome → State → Prop := va_Qv (fun (_ : Nat → Nat) => True) (fun u t => va_P E.1 vwCl (wn u) t.heap ∧ va_K E.1 vwCl (tyE E) t ∧ va_D A (wn u)) A
def CtN (l : Launch) (y : MethodName) (c : ByteArray) (n : Nat) (d : Nat) (E : vE) (av : List Value) (ws : va_W) (mc ms : Nat) (wn : (Nat → Nat) → va_W) : Prop :=
  ∀ sz : Nat, Met l y (.code y c n none :: gtbl) (rmN d mc ms) (va_Pc av (PreB E ws sz)) (QcN E wn (va_A ws sz)) mc ms (va_A ws sz)
theorem ctN {l : Launch} {y : MethodName} {c : ByteArray} {n : Nat} {d : Nat} {E : vE} {av : List Value} {ws : va_W} {mc ms : Nat} {wn : (Nat → Nat) → va_W} (hy : plainName y.cls = true) (hn : (lg_sl av).length ≤ n) (hi : y.name = "<init>")
    (body : ∀ (p : Program) (e : Env) (s : State) (m : MethodId) (below : List Frame) (meth : Method) (cd : Code) (A : Nat → Prop) (ls : Array Slot) (aa : Array Value) (QQ : State → Prop), QQ = MQ below (QcN E wn A) aa s mc ms A → Cx p s m aa meth cd c y.cls n none E A → meth.name = "<init>" → va_P E.1 vwCl ws s.heap → va_D A ws → va_S A s.heap s.heap [] → lv_has ls n (lv_args 0 av) →
      W p l e (rmN d mc ms) s m aa below meth cd s.heap [] 0 0 QQ (F0 m 0 ls [])) : CtN l y c n d E av ws mc ms wn := by
  intro sz
  refine Met.ofW (cc := c) (maxL := n) (ret := none) hy rfl ?_
  intro p e s m args below meth cd s₁ B hml hv
  obtain ⟨rfl, hsz, hP, hK, hD0, hSX⟩ := hv
  have hts := atoms_spec (ws := .code y c n none :: gtbl) B.pre
  have hown : s.vm.findClass y.cls = some m.cls := findClass_of_methodNamed B.named
  subst hsz
  have hD := hD0.self (sz := s.heap.size)
  have hl := lv_entry av (n := n) hn
  rw [lg_entry_eq]
  exact body p e s m below meth cd (va_A ws s.heap.size) _ _ _ rfl ⟨⟨B.exec, B.bytes, hml, hown, fun w h => hts w (List.mem_cons_of_mem _ h)⟩, B.returns, B.notSynchronized, hK, fun q h => Or.inr h, hSX⟩ ((name_of_methodNamed B.named B.method).1.trans hi) hP hD va_S.rf hl
section NRows
variable {p : Program} {l : Launch} {e : Env} {R : Room} {s : State} {m : MethodId} {args : Array Value} {below : List Frame} {meth : Method} {c : Code} {H : Heap} {locs : List Loc} {Q : State → Prop} {cells slots : Nat}
variable {cc : ByteArray} {own : String} {nL pc : Nat} {E : vE} {A : Nat → Prop} {ls : Array Slot} {rest : List Value} {rt : Option FieldType} {ws : va_W}
theorem retN {wn : (Nat → Nat) → va_W} (u : Nat → Nat) (cx : Cx p s m args meth c cc own nL none E A) (ps : List Nat) (hP : va_P E.1 vwCl ws H) (hD : va_D A ws) (hps : ps.map (fun i => ws[i]?) = (wn u).map some) (hpn : va_nd ps = true) (hS : va_S A s.heap H locs) (hdg : decode cc pc = .ok (.return_, 1)) :
    W p l e R s m args below meth c H locs cells slots (MQ below (QcN E wn A) args s cells slots A) (F0 m pc ls []) := by
  obtain ⟨hP, hD⟩ := subPD hP hD ps hps hpn
  obtain ⟨⟨hx, hb, -, -, -⟩, hr, hlocks, hK, -, -⟩ := cx
  exact W.vret hx hb hr (fun t ht hW => ⟨⟨u, rfl, trivial, by rw [ht]; exact hP, va_K.moved hW.alike hK, hD⟩, hS.F ht⟩) hS.2.2 hdg hlocks
theorem n_obj {idx a : Nat} (cx : Cx p s m args meth c cc own nL rt E A) {lv : List (Nat × Value)} (hl : lv_has ls nL lv) (h1 : Cond.methodLink own idx Lib.objectInit ∈ gtbl) (h2 : Cond.instanceMethod Lib.objectInit ∈ gtbl) (h3 : Cond.code Lib.objectInit ⟨#[0xb1]⟩ 1 none ∈ gtbl) (hdg : decode cc pc = .ok (.invokespecial idx, 3)) (hfr : 1 ≤ R.frames) (hlo : 12 ≤ R.locals)
    (kk : W p l e R s m args below meth c H locs cells slots Q (F0 m (pc + 3) ls [])) : W p l e R s m args below meth c H locs cells slots Q (F0 m pc ls [.ref a]) := by
  obtain ⟨⟨hx, hb, hml, hown, hts⟩, -, -, -, -, -⟩ := cx
  exact W.objInit hx hb hown (hts _ h1) (hts _ h2) (hts _ h3) rfl (by rw [hml]; exact hl.1) rfl hdg hfr hlo kk
theorem n_new {C : String} {T : u_T} {N ci index : Nat} {fs : List Value} (cx : Cx p s m args meth c cc own nL rt E A) (hin : ∀ w ∈ u_ws C T N, w ∈ gtbl) (ty : Nat → FieldType) (hty : ∀ k, k < N → parseFieldDescriptor (T k).2.2.1 = some (ty k)) (hw : Cond.classLink own index C ∈ gtbl ∧ Cond.instantiable C N ∈ gtbl ∧ Cond.initialized C ∈ gtbl)
    (hP : va_P E.1 vwCl ws H) (hD : va_D A ws) (hS : va_S A s.heap H locs) (hc : vwCl[ci]? = some (C, T, N)) (hfs : ∀ j, j < N → defaultValue (ty j) = vp_V fs j) (hcells : cells + 1 ≤ R.cells) (hslots : slots + N ≤ R.slots) (hdg : decode cc pc = .ok (.new index, 3))
    (kk : ∀ (q : Nat) (H1 : Heap), va_P E.1 vwCl (ws ++ [(q, .inr (ci, fs))]) H1 → va_D A (ws ++ [(q, .inr (ci, fs))]) → va_S A s.heap H1 locs → W p l e R s m args below meth c H1 locs (cells + 1) (slots + N) Q (F0 m (pc + 3) ls (.ref q :: rest))) : W p l e R s m args below meth c H locs cells slots Q (F0 m pc ls rest) := by
  obtain ⟨⟨hx, hb, hml, hown, hts⟩, -, -, hK, hA, -⟩ := cx
  exact va_new hx hb hts hin ty hty hown (hts _ hw.1) (hts _ hw.2.1) (hts _ hw.2.2) hK hP hD hS hA hc hfs hcells hslots hdg kk
theorem n_arrI {n : Int32} {N : Nat} (cx : Cx p s m args meth c cc own nL rt E A) (hw : Cond.arrayClass .int ∈ gtbl) (hP : va_P E.1 vwCl ws H) (hD : va_D A ws) (hS : va_S A s.heap H locs) (hn : ¬ n < 0) (hN : n.toNatClampNeg = N) (hbytes : N * 4 ≤ 536870912) (hcells : cells + 1 ≤ R.cells) (hslots : slots + N ≤ R.slots) (hdg : decode cc pc = .ok (.newarray .int, 2))
    (kk : ∀ (q : Nat) (H1 : Heap), va_P E.1 vwCl (ws ++ [(q, .inl (E.2.1, N, .inl (fun _ => 0)))]) H1 → va_D A (ws ++ [(q, .inl (E.2.1, N, .inl (fun _ => 0)))]) → va_S A s.heap H1 locs → W p l e R s m args below meth c H1 locs (cells + 1) (slots + N) Q (F0 m (pc + 2) ls (.ref q :: rest))) : W p l e R s m args below meth c H locs cells slots Q (F0 m pc ls (.int n :: rest)) := by
  obtain ⟨⟨hx, hb, hml, hown, hts⟩, -, -, hK, hA, -⟩ := cx
  refine va_newa (atype := .int) (ty := .int) (a0 := (N, .inl (fun _ => 0))) hx hb (hts _ hw) rfl hK hP hD hS hA (fun cA => rfl) hn hN hbytes hcells hslots hdg (fun q cA H1 hK1 hP1 hD1 hS1 => ?_)
  have e1 := (hK1.2 5 _ rfl).2
  have e2 := (hK.2 0 _ rfl).2
  have e : cA = E.2.1 := Option.some.inj (e1.symm.trans e2)
  subst e
  exact kk q H1 hP1 hD1 hS1
theorem n_arrJ {n : Int32} {N : Nat} (cx : Cx p s m args meth c cc own nL rt E A) (hw : Cond.arrayClass .long ∈ gtbl) (hP : va_P E.1 vwCl ws H) (hD : va_D A ws) (hS : va_S A s.heap H locs) (hn : ¬ n < 0) (hN : n.toNatClampNeg = N) (hbytes : N * 8 ≤ 536870912) (hcells : cells + 1 ≤ R.cells) (hslots : slots + N ≤ R.slots) (hdg : decode cc pc = .ok (.newarray .long, 2))
    (kk : ∀ (q : Nat) (H1 : Heap), va_P E.1 vwCl (ws ++ [(q, .inl (E.2.2.1, N, .inr (.inl (fun _ => 0))))]) H1 → va_D A (ws ++ [(q, .inl (E.2.2.1, N, .inr (.inl (fun _ => 0))))]) → va_S A s.heap H1 locs → W p l e R s m args below meth c H1 locs (cells + 1) (slots + N) Q (F0 m (pc + 2) ls (.ref q :: rest))) : W p l e R s m args below meth c H locs cells slots Q (F0 m pc ls (.int n :: rest)) := by
  obtain ⟨⟨hx, hb, hml, hown, hts⟩, -, -, hK, hA, -⟩ := cx
  refine va_newa (atype := .long) (ty := .long) (a0 := (N, .inr (.inl (fun _ => 0)))) hx hb (hts _ hw) rfl hK hP hD hS hA (fun cA => rfl) hn hN hbytes hcells hslots hdg (fun q cA H1 hK1 hP1 hD1 hS1 => ?_)
  have e1 := (hK1.2 5 _ rfl).2
  have e2 := (hK.2 1 _ rfl).2
  have e : cA = E.2.2.1 := Option.some.inj (e1.symm.trans e2)
  subst e
  exact kk q H1 hP1 hD1 hS1
theorem n_arrB {n : Int32} {N : Nat} (cx : Cx p s m args meth c cc own nL rt E A) (hw : Cond.arrayClass .byte ∈ gtbl) (hP : va_P E.1 vwCl ws H) (hD : va_D A ws) (hS : va_S A s.heap H locs) (hn : ¬ n < 0) (hN : n.toNatClampNeg = N) (hbytes : N * 1 ≤ 536870912) (hcells : cells + 1 ≤ R.cells) (hslots : slots + N ≤ R.slots) (hdg : decode cc pc = .ok (.newarray .byte, 2))
    (kk : ∀ (q : Nat) (H1 : Heap), va_P E.1 vwCl (ws ++ [(q, .inl (E.2.2.2.1, N, .inl (fun _ => 0)))]) H1 → va_D A (ws ++ [(q, .inl (E.2.2.2.1, N, .inl (fun _ => 0)))]) → va_S A s.heap H1 locs → W p l e R s m args below meth c H1 locs (cells + 1) (slots + N) Q (F0 m (pc + 2) ls (.ref q :: rest))) : W p l e R s m args below meth c H locs cells slots Q (F0 m pc ls (.int n :: rest)) := by
  obtain ⟨⟨hx, hb, hml, hown, hts⟩, -, -, hK, hA, -⟩ := cx
  refine va_newa (atype := .byte) (ty := .byte) (a0 := (N, .inl (fun _ => 0))) hx hb (hts _ hw) rfl hK hP hD hS hA (fun cA => rfl) hn hN hbytes hcells hslots hdg (fun q cA H1 hK1 hP1 hD1 hS1 => ?_)
  have e1 := (hK1.2 5 _ rfl).2
  have e2 := (hK.2 2 _ rfl).2
  have e : cA = E.2.2.2.1 := Option.some.inj (e1.symm.trans e2)
  subst e
  exact kk q H1 hP1 hD1 hS1
theorem n_arrZ {n : Int32} {N : Nat} (cx : Cx p s m args meth c cc own nL rt E A) (hw : Cond.arrayClass .boolean ∈ gtbl) (hP : va_P E.1 vwCl ws H) (hD : va_D A ws) (hS : va_S A s.heap H locs) (hn : ¬ n < 0) (hN : n.toNatClampNeg = N) (hbytes : N * 1 ≤ 536870912) (hcells : cells + 1 ≤ R.cells) (hslots : slots + N ≤ R.slots) (hdg : decode cc pc = .ok (.newarray .boolean, 2))
    (kk : ∀ (q : Nat) (H1 : Heap), va_P E.1 vwCl (ws ++ [(q, .inl (E.2.2.2.2.1, N, .inl (fun _ => 0)))]) H1 → va_D A (ws ++ [(q, .inl (E.2.2.2.2.1, N, .inl (fun _ => 0)))]) → va_S A s.heap H1 locs → W p l e R s m args below meth c H1 locs (cells + 1) (slots + N) Q (F0 m (pc + 2) ls (.ref q :: rest))) : W p l e R s m args below meth c H locs cells slots Q (F0 m pc ls (.int n :: rest)) := by
  obtain ⟨⟨hx, hb, hml, hown, hts⟩, -, -, hK, hA, -⟩ := cx
  refine va_newa (atype := .boolean) (ty := .boolean) (a0 := (N, .inl (fun _ => 0))) hx hb (hts _ hw) rfl hK hP hD hS hA (fun cA => rfl) hn hN hbytes hcells hslots hdg (fun q cA H1 hK1 hP1 hD1 hS1 => ?_)
  have e1 := (hK1.2 5 _ rfl).2
  have e2 := (hK.2 3 _ rfl).2
  have e : cA = E.2.2.2.2.1 := Option.some.inj (e1.symm.trans e2)
  subst e
  exact kk q H1 hP1 hD1 hS1
theorem n_arrM {index : Nat} {N : Nat} {n : Int32} (cx : Cx p s m args meth c cc own nL rt E A) (hcl : Cond.classLink own index "ExtraCaste$City" ∈ gtbl) (hP : va_P E.1 vwCl ws H) (hD : va_D A ws) (hS : va_S A s.heap H locs) (hn : ¬ n < 0) (hN : n.toNatClampNeg = N) (hbytes : N * 4 ≤ 536870912) (hcells : cells + 1 ≤ R.cells) (hslots : slots + N ≤ R.slots) (hdg : decode cc pc = .ok (.anewarray index, 3))
    (kk : ∀ (q : Nat) (H1 : Heap), va_P E.1 vwCl (ws ++ [(q, .inl (E.2.2.2.2.2.1, N, .inr (.inr (.inr (.inr (fun _ => none))))))]) H1 → va_D A (ws ++ [(q, .inl (E.2.2.2.2.2.1, N, .inr (.inr (.inr (.inr (fun _ => none))))))]) → va_S A s.heap H1 locs → W p l e R s m args below meth c H1 locs (cells + 1) (slots + N) Q (F0 m (pc + 3) ls (.ref q :: rest))) : W p l e R s m args below meth c H locs cells slots Q (F0 m pc ls (.int n :: rest)) := by
  obtain ⟨⟨hx, hb, hml, hown, hts⟩, -, -, hK, hA, hX⟩ := cx
  refine va_newq hx hb hown (hts _ hcl) hX.2.2.2.2.2.1 hK hP hD hS hA hn hN hbytes hcells hslots hdg (fun q cA H1 hK1 hP1 hD1 hS1 => ?_)
  obtain ⟨-, -, -, -, -, e1⟩ := (hK1.2 5 _ rfl).2
  obtain ⟨-, -, -, -, -, e2⟩ := (hK.2 4 _ rfl).2
  have e : cA = E.2.2.2.2.2.1 := Option.some.inj (e1.symm.trans e2)
  subst e
  exact kk q H1 hP1 hD1 hS1
section NCalls
variable {y : MethodName} {bytes : ByteArray} {maxL d index n mc ms : Nat} {b : Nat} {As st0 : List Value} {wc wc' : va_W} {wn : (Nat → Nat) → va_W}
/-- what stands behind a call: the rest, then the callee's cells -/
theorem joinA {ws wc wc' : va_W} {H1 : Heap} (hP : va_P E.1 vwCl ws H) (hD : va_D A ws) (isC isR : List Nat) (hC : isC.map (fun i => ws[i]?) = wc.map some) (hR : isR.map (fun i => ws[i]?) = (isR.filterMap fun i => ws[i]?).map some) (hn : va_nd isR = true) (hdis : isR.all (fun i => !isC.contains i) = true)
    (hk : ∀ q : Nat, q < H.size → ¬ va_A wc H.size q → H1[q]? = H[q]?) (hF : ∀ q, va_A wc H.size q → A q) (hP1 : va_P E.1 vwCl wc' H1) (hD1 : va_D (va_A wc H.size) wc') : va_P E.1 vwCl ((isR.filterMap fun i => ws[i]?) ++ wc') H1 ∧ va_D A ((isR.filterMap fun i => ws[i]?) ++ wc') := by
  have hdis' : ∀ i ∈ isR, i ∉ isC := fun i hi hc => by
    have := List.all_eq_true.mp hdis i hi
    simp [List.contains_iff_mem, hc] at this
  exact va_join hP hD isC isR hC hR hn hdis' hk hF hP1 hD1
theorem n_callN (hM : CtN l y bytes maxL d E (.ref b :: As) wc mc ms wn) (isC isR : List Nat) (hB : CallB R s args own index y bytes maxL none (.code y bytes maxL none :: gtbl) (rmN d mc ms) mc ms n) (hi : y.name = "<init>") (him : Cond.instanceMethod y ∈ gtbl) (cx : Cx p s m args meth c cc own nL rt E A) (hP : va_P E.1 vwCl ws H) (hD : va_D A ws) (hS : va_S A s.heap H locs) {lv : List (Nat × Value)} (hl : lv_has ls nL lv)
    (hdg : decode cc pc = .ok (.invokespecial index, 3)) (hlen : As.length = n) (hst : st0 = As.reverse ++ .ref b :: rest) (hw : (rest.map fun v => v.category).sum ≤ 8) (hcells : cells + mc ≤ R.cells) (hslots : slots + ms ≤ R.slots)
    (hC : isC.map (fun i => ws[i]?) = wc.map some) (hcn : va_nd isC = true) (hRr : isR.map (fun i => ws[i]?) = (isR.filterMap fun i => ws[i]?).map some) (hn : va_nd isR = true) (hdis : isR.all (fun i => !isC.contains i) = true)
    (kk : ∀ (u : Nat → Nat) (H1 : Heap) (locs1 : List Loc), va_P E.1 vwCl ((isR.filterMap fun i => ws[i]?) ++ wn u) H1 → va_D A ((isR.filterMap fun i => ws[i]?) ++ wn u) → va_S A s.heap H1 locs1 → W p l e R s m args below meth c H1 locs1 (cells + mc) (slots + ms) Q (F0 m (pc + 3) ls rest)) : W p l e R s m args below meth c H locs cells slots Q (F0 m pc ls st0) := by
  obtain ⟨⟨hx, hb, hml, hown, hts⟩, hr, hlocks, hK, hA, hX⟩ := cx
  obtain ⟨hPc, hDc⟩ := subPD hP hD isC hC hcn
  have hFc := va_free (wc := wc) hD hS hA isC hC
  refine va_callv (va_runI (As := As) (rest := rest) (b := b) (cc := cc) (nL := nL) (n := n) ⟨hx, hb, hml, hown, hts⟩ (hM H.size) ⟨hB, hi, hts _ him⟩ ⟨PreB_blind, fun U hU hW => ⟨rfl, by rw [hU], by rw [hU]; exact hPc, va_K.moved hW.alike hK, hDc.weaken (fun _ _ _ _ => trivial), by rw [hU]; exact SX.warm hW ((hX.kept hS.2.1).narrow hFc)⟩⟩ rfl hlen hl.1 hst (by show 2 * 0 + _ ≤ 8; omega) hdg ⟨hcells, hslots⟩) hS (fun q _ h => hFc q h) hFc (fun u t H1 locs1 ht hvm hw1 hB1 hz1 hk1 hS1 => ?_)
  obtain ⟨hP1, hK1, hD1⟩ := hB1
  rw [ht] at hP1
  obtain ⟨hP', hD'⟩ := joinA hP hD isC isR hC hRr hn hdis hk1 hFc hP1 hD1
  exact kk u H1 locs1 hP' hD' hS1
theorem n_callNN {host : String} (hM : CtN l y bytes maxL d E (.ref b :: As) wc mc ms wn) (isC isR : List Nat) (hc : Cond.code y bytes maxL none ∈ gtbl) (hini : Cond.initialized y.cls ∈ gtbl) (hlk : va_Nw (.methodLinkNest own index y host) s) (hd : y.cls ≠ "java/lang/invoke/MethodHandle" ∧ y.cls ≠ "java/lang/invoke/VarHandle" ∧ (parseMethodDescriptor y.desc).map (fun d => d.parameters.length) = some n) (hRm : d + 1 ≤ R.frames ∧ 8 + (maxL + 11) + 64 * d ≤ R.locals) (hi : y.name = "<init>") (him : Cond.instanceMethod y ∈ gtbl) (cx : Cx p s m args meth c cc own nL rt E A) (hP : va_P E.1 vwCl ws H) (hD : va_D A ws) (hS : va_S A s.heap H locs) {lv : List (Nat × Value)} (hl : lv_has ls nL lv)
    (hdg : decode cc pc = .ok (.invokespecial index, 3)) (hlen : As.length = n) (hst : st0 = As.reverse ++ .ref b :: rest) (hw : (rest.map fun v => v.category).sum ≤ 8) (hcells : cells + mc ≤ R.cells) (hslots : slots + ms ≤ R.slots)
    (hC : isC.map (fun i => ws[i]?) = wc.map some) (hcn : va_nd isC = true) (hRr : isR.map (fun i => ws[i]?) = (isR.filterMap fun i => ws[i]?).map some) (hn : va_nd isR = true) (hdis : isR.all (fun i => !isC.contains i) = true)
    (kk : ∀ (u : Nat → Nat) (H1 : Heap) (locs1 : List Loc), va_P E.1 vwCl ((isR.filterMap fun i => ws[i]?) ++ wn u) H1 → va_D A ((isR.filterMap fun i => ws[i]?) ++ wn u) → va_S A s.heap H1 locs1 → W p l e R s m args below meth c H1 locs1 (cells + mc) (slots + ms) Q (F0 m (pc + 3) ls rest)) : W p l e R s m args below meth c H locs cells slots Q (F0 m pc ls st0) := by
  obtain ⟨⟨hx, hb, hml, hown, hts⟩, hr, hlocks, hK, hA, hX⟩ := cx
  obtain ⟨hPc, hDc⟩ := subPD hP hD isC hC hcn
  have hFc := va_free (wc := wc) hD hS hA isC hC
  have hB := va_cnB (R := R) (rm := rmN d mc ms) (host := host) n hts (gt_good hc) rfl rfl rfl hlk (hts _ hini) hd hRm
  refine va_callv (va_runIN (As := As) (rest := rest) (b := b) (cc := cc) (nL := nL) (n := n) ⟨hx, hb, hml, hown, hts⟩ (hM H.size) ⟨hB, hi, hts _ him⟩ ⟨PreB_blind, fun U hU hW => ⟨rfl, by rw [hU], by rw [hU]; exact hPc, va_K.moved hW.alike hK, hDc.weaken (fun _ _ _ _ => trivial), by rw [hU]; exact SX.warm hW ((hX.kept hS.2.1).narrow hFc)⟩⟩ rfl hlen hl.1 hst (by show 2 * 0 + _ ≤ 8; omega) hdg ⟨hcells, hslots⟩) hS (fun q _ h => hFc q h) hFc (fun u t H1 locs1 ht hvm hw1 hB1 hz1 hk1 hS1 => ?_)
  obtain ⟨hP1, hK1, hD1⟩ := hB1
  rw [ht] at hP1
  obtain ⟨hP', hD'⟩ := joinA hP hD isC isR hC hRr hn hdis hk1 hFc hP1 hD1
  exact kk u H1 locs1 hP' hD' hS1
theorem n_callV {ret : Option FieldType} (hM : CtV l y bytes maxL ret d E (.ref b :: As) wc wc') (isC isR : List Nat) (hc : Cal y bytes maxL ret n) (hv : CalV y) (hlk : Cond.methodLink own index y ∈ gtbl) (cx : Cx p s m args meth c cc own nL rt E A) (hP : va_P E.1 vwCl ws H) (hD : va_D A ws) (hS : va_S A s.heap H locs) {lv : List (Nat × Value)} (hl : lv_has ls nL lv)
    (hdg : decode cc pc = .ok (.invokevirtual index, 3)) {ci : Nat} {fs : List Value} {T : u_T} {N : Nat} (he : wc[0]? = some (b, .inr (ci, fs))) (hcl : vwCl[ci]? = some (y.cls, T, N)) (hlen : As.length = n) (hst : st0 = As.reverse ++ .ref b :: rest) (hw : (rest.map fun v => v.category).sum ≤ 8) (hR : d + 1 ≤ R.frames ∧ 8 + (maxL + 11) + 64 * d ≤ R.locals) (hcells : cells ≤ R.cells) (hslots : slots ≤ R.slots)
    (hC : isC.map (fun i => ws[i]?) = wc.map some) (hcn : va_nd isC = true) (hRr : isR.map (fun i => ws[i]?) = (isR.filterMap fun i => ws[i]?).map some) (hn : va_nd isR = true) (hdis : isR.all (fun i => !isC.contains i) = true)
    (kk : ∀ (H1 : Heap) (locs1 : List Loc), va_P E.1 vwCl ((isR.filterMap fun i => ws[i]?) ++ wc') H1 → va_D A ((isR.filterMap fun i => ws[i]?) ++ wc') → va_S A s.heap H1 locs1 → W p l e R s m args below meth c H1 locs1 cells slots Q (F0 m (pc + 3) ls rest)) : W p l e R s m args below meth c H locs cells slots Q (F0 m pc ls st0) := by
  have hB := callB' (R := R) (d := d) (index := index) cx hc hlk hR
  obtain ⟨⟨hx, hb, hml, hown, hts⟩, hr, hlocks, hK, hA, hX⟩ := cx
  obtain ⟨hPc, hDc⟩ := subPD hP hD isC hC hcn
  have hFc := va_free (wc := wc) hD hS hA isC hC
  refine va_callv (va_runV (As := As) (rest := rest) (b := b) (C := y.cls) (cc := cc) (nL := nL) (n := n) ⟨hx, hb, hml, hown, hts⟩ (hM H.size) ⟨hB, hts _ hv.1, hts _ hv.2⟩ ⟨PreB_blind, va_recv hK hPc hcl he, fun U hU hW => ⟨rfl, by rw [hU], by rw [hU]; exact hPc, va_K.moved hW.alike hK, hDc.weaken (fun _ _ _ _ => trivial), by rw [hU]; exact SX.warm hW ((hX.kept hS.2.1).narrow hFc)⟩⟩ rfl hlen hl.1 hst (by show 2 * 0 + _ ≤ 8; omega) hdg ⟨hcells, hslots⟩) hS (fun q _ h => hFc q h) hFc (fun u t H1 locs1 ht hvm hw1 hB1 hz1 hk1 hS1 => ?_)
  obtain ⟨hP1, hK1, hD1⟩ := hB1
  rw [ht] at hP1
  obtain ⟨hP', hD'⟩ := joinA hP hD isC isR hC hRr hn hdis hk1 hFc hP1 hD1
  exact kk H1 locs1 hP' hD' hS1
end NCalls
end NRows
/-! ===== a contract over more cells than it touches ===== -/
theorem va_A_sub {ws wc : va_W} {sz : Nat} (isC : List Nat) (hC : isC.map (fun i => ws[i]?) = wc.map some) : ∀ q, va_A wc sz q → va_A ws sz q := by
  rintro q (⟨k, e, h⟩ | h)
  · left
    have h1 : (isC.map (fun i => ws[i]?))[k]? = some (some (q, e)) := by rw [hC, List.getElem?_map, h]; rfl
    rw [List.getElem?_map] at h1
    cases hi : isC[k]? with
    | none => rw [hi] at h1; cases h1
    | some i => rw [hi] at h1; exact ⟨i, e, Option.some.inj h1⟩
  · exact Or.inr h
theorem pre_sub {E : vE} {av : List Value} {ws wc : va_W} {sz : Nat} (isC : List Nat) (hC : isC.map (fun i => ws[i]?) = wc.map some) (hcn : va_nd isC = true) : ∀ a s, va_Pc av (PreB E ws sz) a s → va_Pc av (PreB E wc sz) a s := by
  rintro a s ⟨h0, h1, hP, hK, hD, hX⟩
  obtain ⟨hPc, hDc⟩ := subPD hP hD isC hC hcn
  exact ⟨h0, h1, hPc, hK, hDc, hX.narrow (va_A_sub isC hC)⟩
theorem post_join {E : vE} {av : List Value} {ws wc wc' wn : va_W} {sz : Nat} (isC : List Nat) (hC : isC.map (fun i => ws[i]?) = wc.map some) (hcn : va_nd isC = true) (hfst : wc'.map Prod.fst = wc.map Prod.fst) {n1 : Nat} (ps : List (Option Nat)) (hn1 : ws.length = n1) (hps : mixOk n1 isC ps = true) (hwn : mix ws ps wc' = wn)
    {a : Array Value} {s t : State} (hp : va_Pc av (PreB E ws sz) a s) (hF : va_F (va_A wc sz) s t) (hQ : PoB E (va_A wc sz) wc' () t) : PoB E (va_A ws sz) wn () t ∧ va_F (va_A ws sz) s t := by
  obtain ⟨h0, h1, hP, hK, hD, hX⟩ := hp
  obtain ⟨hP1, hK1, hD1⟩ := hQ
  subst h1
  have hD' := hD.self (sz := s.heap.size)
  obtain ⟨q1, q2⟩ := joinW (H := s.heap) (H1 := t.heap) hP hD' isC hC hfst hn1 hps hF.2 hP1
  rw [hwn] at q1 q2
  exact ⟨⟨q1, hK1, q2⟩, hF.1, fun q z1 z2 => hF.2 q z1 (fun z => z2 (va_A_sub isC hC q z))⟩
theorem CtI.frame {l : Launch} {y : MethodName} {c : ByteArray} {n : Nat} {r : Option FieldType} {d : Nat} {E : vE} {av : List Value} {ws wc wc' wn : va_W} {v : Int32} (h : CtI l y c n r d E av wc wc' v) (isC : List Nat) (hC : isC.map (fun i => ws[i]?) = wc.map some) (hcn : va_nd isC = true) (hfst : wc'.map Prod.fst = wc.map Prod.fst) {n1 : Nat} (ps : List (Option Nat)) (hn1 : ws.length = n1) (hps : mixOk n1 isC ps = true) (hwn : mix ws ps wc' = wn) : CtI l y c n r d E av ws wn v := by
  intro sz
  refine MetFree.mono (h sz) (pre_sub isC hC hcn) (fun _ _ _ _ _ z => z) ?_
  rintro a s o t hp ⟨⟨⟨r1, u1, e1, e2, hQ⟩, hF⟩, L, hL1, hL2⟩
  obtain ⟨g1, g2⟩ := post_join isC hC hcn hfst ps hn1 hps hwn hp hF hQ
  exact ⟨⟨⟨r1, u1, e1, e2, g1⟩, g2⟩, L, hL1, fun q hq => va_A_sub isC hC _ (hL2 q hq)⟩
theorem CtL.frame {l : Launch} {y : MethodName} {c : ByteArray} {n : Nat} {r : Option FieldType} {d : Nat} {E : vE} {av : List Value} {ws wc wc' wn : va_W} {v : Int64} (h : CtL l y c n r d E av wc wc' v) (isC : List Nat) (hC : isC.map (fun i => ws[i]?) = wc.map some) (hcn : va_nd isC = true) (hfst : wc'.map Prod.fst = wc.map Prod.fst) {n1 : Nat} (ps : List (Option Nat)) (hn1 : ws.length = n1) (hps : mixOk n1 isC ps = true) (hwn : mix ws ps wc' = wn) : CtL l y c n r d E av ws wn v := by
  intro sz
  refine MetFree.mono (h sz) (pre_sub isC hC hcn) (fun _ _ _ _ _ z => z) ?_
  rintro a s o t hp ⟨⟨⟨r1, u1, e1, e2, hQ⟩, hF⟩, L, hL1, hL2⟩
  obtain ⟨g1, g2⟩ := post_join isC hC hcn hfst ps hn1 hps hwn hp hF hQ
  exact ⟨⟨⟨r1, u1, e1, e2, g1⟩, g2⟩, L, hL1, fun q hq => va_A_sub isC hC _ (hL2 q hq)⟩
/-- the rest of the world, whatever it is, stays -/
theorem va_D_left {A : Nat → Prop} {w z : va_W} (h : va_D A (w ++ z)) : va_D A w ∧ va_D A z ∧ ∀ (i j : Nat) (p q : Nat × va_E), w[i]? = some p → z[j]? = some q → p.1 ≠ q.1 := by
  refine ⟨⟨fun i j p q hi hj e => ?_, fun k q hk => ?_⟩, ⟨fun i j p q hi hj e => ?_, fun k q hk => ?_⟩, fun i j p q hi hj e => ?_⟩
  · have a1 : (w ++ z)[i]? = some p := by rw [List.getElem?_append_left (List.getElem?_eq_some_iff.mp hi).1]; exact hi
    have a2 : (w ++ z)[j]? = some q := by rw [List.getElem?_append_left (List.getElem?_eq_some_iff.mp hj).1]; exact hj
    exact h.1 i j p q a1 a2 e
  · exact h.2 k q (by rw [List.getElem?_append_left (List.getElem?_eq_some_iff.mp hk).1]; exact hk)
  · have a1 : (w ++ z)[w.length + i]? = some p := by rw [List.getElem?_append_right (by omega), show w.length + i - w.length = i by omega]; exact hi
    have a2 : (w ++ z)[w.length + j]? = some q := by rw [List.getElem?_append_right (by omega), show w.length + j - w.length = j by omega]; exact hj
    have := h.1 _ _ p q a1 a2 e
    omega
  · exact h.2 (w.length + k) q (by rw [List.getElem?_append_right (by omega), show w.length + k - w.length = k by omega]; exact hk)
  · have b1 := (List.getElem?_eq_some_iff.mp hi).1
    have a1 : (w ++ z)[i]? = some p := by rw [List.getElem?_append_left b1]; exact hi
    have a2 : (w ++ z)[w.length + j]? = some q := by rw [List.getElem?_append_right (by omega), show w.length + j - w.length = j by omega]; exact hj
    have := h.1 _ _ p q a1 a2 e
    omega
theorem va_P_left {E : vE} {w z : va_W} {H : Heap} (h : va_P E.1 vwCl (w ++ z) H) : va_P E.1 vwCl w H ∧ va_P E.1 vwCl z H := by
  refine ⟨fun k q hk => h k q ?_, fun k q hk => h (w.length + k) q ?_⟩
  · rw [List.getElem?_append_left (List.getElem?_eq_some_iff.mp hk).1]; exact hk
  · rw [List.getElem?_append_right (by omega), show w.length + k - w.length = k by omega]; exact hk
theorem callN {p : Program} {s : State} {m : MethodId} {args : Array Value} {meth : Method} {c : Code} {cc : ByteArray} {own : String} {nL : Nat} {rt : Option FieldType} {E : vE} {A : Nat → Prop} {R : Room} {y : MethodName} {bytes : ByteArray} {maxL d n index mc ms : Nat} (cx : Cx p s m args meth c cc own nL rt E A) (hc : Cal y bytes maxL none n) (hlk : Cond.methodLink own index y ∈ gtbl) (hR : d + 1 ≤ R.frames ∧ 8 + (maxL + 11) + 64 * d ≤ R.locals) :
    CallB R s args own index y bytes maxL none (.code y bytes maxL none :: gtbl) (rmN d mc ms) mc ms n := by
  obtain ⟨⟨hx, hb, hml, hown, hts⟩, -, -, -, -, -⟩ := cx
  obtain ⟨h1, h2, h3, h4, h5⟩ := hc
  exact callB_of n hts (gt_good h1) rfl rfl rfl (hts _ h2) (hts _ hlk) ⟨h3, h4, h5⟩ hR
theorem ac_boolean : Cond.arrayClass .boolean ∈ gtbl := (gs7 29 rfl rfl)
theorem ac_byte : Cond.arrayClass .byte ∈ gtbl := (gs4 60 rfl rfl)
theorem ac_int : Cond.arrayClass .int ∈ gtbl := (gs1 65 rfl rfl)
theorem ac_long : Cond.arrayClass .long ∈ gtbl := (gs1 103 rfl rfl)
theorem cl_X11_7 : Cond.classLink RX11 7 "ExtraCaste$City" ∈ gtbl := (gs1 29 rfl rfl)
theorem ik_X0_27 : Cond.methodLink RX0 27 yX7_init ∈ gtbl := (gs1 105 rfl rfl)
theorem ik_X10_11 : Cond.methodLink RX10 11 yX7_init ∈ gtbl := (gs2 15 rfl rfl)
theorem ik_X11_32 : Cond.methodLink RX11 32 yX1_init ∈ gtbl := (gs1 231 rfl rfl)
theorem ik_X11_41 : Cond.methodLink RX11 41 yX10_init ∈ gtbl := (gs2 10 rfl rfl)
theorem ik_X11_48 : Cond.methodLink RX11 48 yX9_init ∈ gtbl := (gs2 32 rfl rfl)
theorem ik_X11_9 : Cond.methodLink RX11 9 yX0_init ∈ gtbl := (gs1 31 rfl rfl)
theorem ik_X1_9 : Cond.methodLink RX1 9 yX0_init ∈ gtbl := (gs1 236 rfl rfl)
theorem ik_X6_13 : Cond.methodLink RX6 13 yX7_init ∈ gtbl := (gs1 43 rfl rfl)
theorem in_X0 : Cal yX0_init cX0_init 1 none 0 ∧ Cond.instanceMethod yX0_init ∈ gtbl := ⟨⟨(gs1 33 rfl rfl), (gs1 2 rfl rfl), by decide +kernel, by decide +kernel, by decide +kernel⟩, (gs1 32 rfl rfl)⟩
theorem in_X1 : Cal yX1_init cX1_init 2 none 1 ∧ Cond.instanceMethod yX1_init ∈ gtbl := ⟨⟨(gs1 233 rfl rfl), (gs1 7 rfl rfl), by decide +kernel, by decide +kernel, by decide +kernel⟩, (gs1 232 rfl rfl)⟩
theorem in_X10 : Cal yX10_init cX10_init 2 none 1 ∧ Cond.instanceMethod yX10_init ∈ gtbl := ⟨⟨(gs2 12 rfl rfl), (gs1 8 rfl rfl), by decide +kernel, by decide +kernel, by decide +kernel⟩, (gs2 11 rfl rfl)⟩
theorem in_X2 : Cal yX2_init cX2_init 1 none 0 ∧ Cond.instanceMethod yX2_init ∈ gtbl := ⟨⟨(gs2 80 rfl rfl), (gs1 12 rfl rfl), by decide +kernel, by decide +kernel, by decide +kernel⟩, (gs2 79 rfl rfl)⟩
theorem in_X3 : Cal yX3_init cX3_init 1 none 0 ∧ Cond.instanceMethod yX3_init ∈ gtbl := ⟨⟨(gs1 88 rfl rfl), (gs1 5 rfl rfl), by decide +kernel, by decide +kernel, by decide +kernel⟩, (gs1 87 rfl rfl)⟩
theorem in_X4 : Cal yX4_init cX4_init 1 none 0 ∧ Cond.instanceMethod yX4_init ∈ gtbl := ⟨⟨(gs2 50 rfl rfl), (gs1 10 rfl rfl), by decide +kernel, by decide +kernel, by decide +kernel⟩, (gs2 49 rfl rfl)⟩
theorem in_X5 : Cal yX5_init cX5_init 1 none 0 ∧ Cond.instanceMethod yX5_init ∈ gtbl := ⟨⟨(gs2 70 rfl rfl), (gs1 11 rfl rfl), by decide +kernel, by decide +kernel, by decide +kernel⟩, (gs2 69 rfl rfl)⟩
theorem in_X6 : Cal yX6_init cX6_init 1 none 0 ∧ Cond.instanceMethod yX6_init ∈ gtbl := ⟨⟨(gs1 39 rfl rfl), (gs1 3 rfl rfl), by decide +kernel, by decide +kernel, by decide +kernel⟩, (gs1 38 rfl rfl)⟩
theorem in_X7 : Cal yX7_init cX7_init 3 none 2 ∧ Cond.instanceMethod yX7_init ∈ gtbl := ⟨⟨(gs1 45 rfl rfl), (gs1 4 rfl rfl), by decide +kernel, by decide +kernel, by decide +kernel⟩, (gs1 44 rfl rfl)⟩
theorem in_X8 : Cal yX8_init cX8_init 1 none 0 ∧ Cond.instanceMethod yX8_init ∈ gtbl := ⟨⟨(gs1 187 rfl rfl), (gs1 6 rfl rfl), by decide +kernel, by decide +kernel, by decide +kernel⟩, (gs1 186 rfl rfl)⟩
theorem in_X9 : Cal yX9_init cX9_init 2 none 0 ∧ Cond.instanceMethod yX9_init ∈ gtbl := ⟨⟨(gs2 34 rfl rfl), (gs1 9 rfl rfl), by decide +kernel, by decide +kernel, by decide +kernel⟩, (gs2 33 rfl rfl)⟩
theorem nw_X0_18 : Cond.classLink RX0 18 RX3 ∈ gtbl ∧ Cond.instantiable RX3 4 ∈ gtbl ∧ Cond.initialized RX3 ∈ gtbl := ⟨(gs1 84 rfl rfl), (gs1 85 rfl rfl), (gs1 5 rfl rfl)⟩
theorem nw_X0_25 : Cond.classLink RX0 25 RX7 ∈ gtbl ∧ Cond.instantiable RX7 3 ∈ gtbl ∧ Cond.initialized RX7 ∈ gtbl := ⟨(gs1 104 rfl rfl), (gs1 42 rfl rfl), (gs1 4 rfl rfl)⟩
theorem nw_X0_9 : Cond.classLink RX0 9 RX6 ∈ gtbl ∧ Cond.instantiable RX6 4 ∈ gtbl ∧ Cond.initialized RX6 ∈ gtbl := ⟨(gs1 35 rfl rfl), (gs1 36 rfl rfl), (gs1 3 rfl rfl)⟩
theorem nw_X10_7 : Cond.classLink RX10 7 RX7 ∈ gtbl ∧ Cond.instantiable RX7 3 ∈ gtbl ∧ Cond.initialized RX7 ∈ gtbl := ⟨(gs2 14 rfl rfl), (gs1 42 rfl rfl), (gs1 4 rfl rfl)⟩
theorem nw_X11_23 : Cond.classLink RX11 23 RX8 ∈ gtbl ∧ Cond.instantiable RX8 10 ∈ gtbl ∧ Cond.initialized RX8 ∈ gtbl := ⟨(gs1 183 rfl rfl), (gs1 184 rfl rfl), (gs1 6 rfl rfl)⟩
theorem nw_X11_30 : Cond.classLink RX11 30 RX1 ∈ gtbl ∧ Cond.instantiable RX1 3 ∈ gtbl ∧ Cond.initialized RX1 ∈ gtbl := ⟨(gs1 229 rfl rfl), (gs1 230 rfl rfl), (gs1 7 rfl rfl)⟩
theorem nw_X11_39 : Cond.classLink RX11 39 RX10 ∈ gtbl ∧ Cond.instantiable RX10 4 ∈ gtbl ∧ Cond.initialized RX10 ∈ gtbl := ⟨(gs2 8 rfl rfl), (gs2 9 rfl rfl), (gs1 8 rfl rfl)⟩
theorem nw_X11_46 : Cond.classLink RX11 46 RX9 ∈ gtbl ∧ Cond.instantiable RX9 3 ∈ gtbl ∧ Cond.initialized RX9 ∈ gtbl := ⟨(gs2 30 rfl rfl), (gs2 31 rfl rfl), (gs1 9 rfl rfl)⟩
theorem nw_X11_53 : Cond.classLink RX11 53 RX4 ∈ gtbl ∧ Cond.instantiable RX4 4 ∈ gtbl ∧ Cond.initialized RX4 ∈ gtbl := ⟨(gs2 46 rfl rfl), (gs2 47 rfl rfl), (gs1 10 rfl rfl)⟩
theorem nw_X11_60 : Cond.classLink RX11 60 RX5 ∈ gtbl ∧ Cond.instantiable RX5 1 ∈ gtbl ∧ Cond.initialized RX5 ∈ gtbl := ⟨(gs2 66 rfl rfl), (gs2 67 rfl rfl), (gs1 11 rfl rfl)⟩
theorem nw_X11_67 : Cond.classLink RX11 67 RX2 ∈ gtbl ∧ Cond.instantiable RX2 11 ∈ gtbl ∧ Cond.initialized RX2 ∈ gtbl := ⟨(gs2 76 rfl rfl), (gs2 77 rfl rfl), (gs1 12 rfl rfl)⟩
theorem nw_X11_7 : Cond.classLink RX11 7 RX0 ∈ gtbl ∧ Cond.instantiable RX0 11 ∈ gtbl ∧ Cond.initialized RX0 ∈ gtbl := ⟨(gs1 29 rfl rfl), (gs1 30 rfl rfl), (gs1 2 rfl rfl)⟩
theorem nw_X1_7 : Cond.classLink RX1 7 RX0 ∈ gtbl ∧ Cond.instantiable RX0 11 ∈ gtbl ∧ Cond.initialized RX0 ∈ gtbl := ⟨(gs1 235 rfl rfl), (gs1 30 rfl rfl), (gs1 2 rfl rfl)⟩
theorem nw_X6_9 : Cond.classLink RX6 9 RX7 ∈ gtbl ∧ Cond.instantiable RX7 3 ∈ gtbl ∧ Cond.initialized RX7 ∈ gtbl := ⟨(gs1 41 rfl rfl), (gs1 42 rfl rfl), (gs1 4 rfl rfl)⟩
theorem oi_w : Cond.instanceMethod Lib.objectInit ∈ gtbl ∧ Cond.code Lib.objectInit ⟨#[0xb1]⟩ 1 none ∈ gtbl := ⟨(gs1 27 rfl rfl), (gs1 28 rfl rfl)⟩
theorem ol_X0_3 : Cond.methodLink RX0 3 Lib.objectInit ∈ gtbl := (gs1 34 rfl rfl)
theorem ol_X10_1 : Cond.methodLink RX10 1 Lib.objectInit ∈ gtbl := (gs2 13 rfl rfl)
theorem ol_X11_1 : Cond.methodLink RX11 1 Lib.objectInit ∈ gtbl := (gs1 26 rfl rfl)
theorem ol_X12_1 : Cond.methodLink RX12 1 Lib.objectInit ∈ gtbl := (gs6 146 rfl rfl)
theorem ol_X1_1 : Cond.methodLink RX1 1 Lib.objectInit ∈ gtbl := (gs1 234 rfl rfl)
theorem ol_X2_1 : Cond.methodLink RX2 1 Lib.objectInit ∈ gtbl := (gs2 81 rfl rfl)
theorem ol_X3_3 : Cond.methodLink RX3 3 Lib.objectInit ∈ gtbl := (gs1 89 rfl rfl)
theorem ol_X4_3 : Cond.methodLink RX4 3 Lib.objectInit ∈ gtbl := (gs2 51 rfl rfl)
theorem ol_X5_3 : Cond.methodLink RX5 3 Lib.objectInit ∈ gtbl := (gs2 71 rfl rfl)
theorem ol_X6_3 : Cond.methodLink RX6 3 Lib.objectInit ∈ gtbl := (gs1 40 rfl rfl)
theorem ol_X7_3 : Cond.methodLink RX7 3 Lib.objectInit ∈ gtbl := (gs1 46 rfl rfl)
theorem ol_X8_3 : Cond.methodLink RX8 3 Lib.objectInit ∈ gtbl := (gs1 188 rfl rfl)
theorem ol_X9_3 : Cond.methodLink RX9 3 Lib.objectInit ∈ gtbl := (gs2 35 rfl rfl)
theorem lk_X0_45 : Cond.methodLink RX0 45 yX0_clear ∈ gtbl := (gs1 106 rfl rfl)
