def sI (S : vS) (k : Nat) (v : Int32) : vS := (va_up S.1 k v, S.2)
def sJ (S : vS) (k : Nat) (v : Int64) : vS := (S.1, va_up S.2.1 k v, S.2.2)
def sA (S : vS) (k : Nat) (v : Nat → Int32) : vS := (S.1, S.2.1, va_up S.2.2.1 k v, S.2.2.2)
def sB (S : vS) (k : Nat) (v : Nat → Int64) : vS := (S.1, S.2.1, S.2.2.1, va_up S.2.2.2 k v)
theorem mp_some {α β : Type} {o : Option α} {f : α → β} {r : β} (h : o.map f = some r) : ∃ u, o = some u ∧ f u = r := by
  cases o with
  | none => cases h
  | some u => exact ⟨u, rfl, Option.some.inj h⟩
theorem joinL {E : vE} {A : Nat → Prop} {w z w2 : va_W} {H H1 : Heap} (hP : va_P E.1 vwCl (w ++ z) H) (hD : va_D A (w ++ z)) (hk : ∀ q : Nat, q < H.size → ¬ va_A w H.size q → H1[q]? = H[q]?) (hF : ∀ q, va_A w H.size q → A q) (hP1 : va_P E.1 vwCl w2 H1) (hD1 : va_D (va_A w H.size) w2) : va_P E.1 vwCl z H1 ∧ va_D A w2 ∧ va_D A z ∧ ∀ (i j : Nat) (p q : Nat × va_E), w2[i]? = some p → z[j]? = some q → p.1 ≠ q.1 := by
  obtain ⟨hPw, hPz⟩ := va_P_left hP
  obtain ⟨hDw, hDz, hne⟩ := va_D_left hD
  have hout : ∀ (k : Nat) (q : Nat × va_E), z[k]? = some q → ¬ va_A w H.size q.1 := by
    rintro k q hq (⟨j, e, h⟩ | h)
    · exact hne j k _ q h hq rfl
    · have := va_at.lt (hPz k q hq); omega
  refine ⟨fun k q hq => va_at.kept (hPz k q hq) (hk q.1 (va_at.lt (hPz k q hq)) (hout k q hq)), ⟨hD1.1, fun k q hq => hF _ (hD1.2 k q hq)⟩, hDz, ?_⟩
  intro i j p q hi hj e
  exact hout j q hj (e ▸ hD1.2 i p hi)
theorem va_D_app {A : Nat → Prop} {w z : va_W} (h1 : va_D A w) (h2 : va_D A z) (h : ∀ (i j : Nat) (p q : Nat × va_E), w[i]? = some p → z[j]? = some q → p.1 ≠ q.1) : va_D A (w ++ z) := by
  have sp : ∀ (k : Nat) (q : Nat × va_E), (w ++ z)[k]? = some q → (w[k]? = some q ∧ k < w.length) ∨ (z[k - w.length]? = some q ∧ w.length ≤ k) := by
    intro k q hk
    by_cases hl : k < w.length
    · rw [List.getElem?_append_left hl] at hk; exact Or.inl ⟨hk, hl⟩
    · rw [List.getElem?_append_right (by omega)] at hk; exact Or.inr ⟨hk, by omega⟩
  refine ⟨fun i j p q hi hj e => ?_, fun k q hk => ?_⟩
  · rcases sp i p hi with ⟨a1, b1⟩ | ⟨a1, b1⟩ <;> rcases sp j q hj with ⟨a2, b2⟩ | ⟨a2, b2⟩
    · exact h1.1 i j p q a1 a2 e
    · exact absurd e (h i _ p q a1 a2)
    · exact absurd e.symm (h j _ q p a2 a1)
    · have := h2.1 _ _ p q a1 a2 e; omega
  · rcases sp k q hk with ⟨a1, b1⟩ | ⟨a1, b1⟩
    · exact h1.2 k q a1
    · exact h2.2 _ q a1
theorem lcallIL {p : Program} {l : Launch} {e : Env} {R : Room} {s : State} {m : MethodId} {args : Array Value} {below : List Frame} {meth : Method} {c : Code} {H : Heap} {locs : List Loc} {Q : State → Prop} {cells slots : Nat} {cc : ByteArray} {own : String} {nL pc : Nat} {E : vE} {A : Nat → Prop} {ls : Array Slot} {rest : List Value} {rt : Option FieldType}
    {y : MethodName} {bytes : ByteArray} {maxL d index n : Nat} {ret : Option FieldType} {b : Nat} {As st0 : List Value} {w z w2 : va_W} {r : Int32} (hM : CtI l y bytes maxL ret d E (.ref b :: As) w w2 r) (hc : Cal y bytes maxL ret n) (hv : CalV y) (hlk : Cond.methodLink own index y ∈ gtbl) (cx : Cx p s m args meth c cc own nL rt E A) (hP : va_P E.1 vwCl (w ++ z) H) (hD : va_D A (w ++ z)) (hS : va_S A s.heap H locs) {lv : List (Nat × Value)} (hl : lv_has ls nL lv)
    (hdg : decode cc pc = .ok (.invokevirtual index, 3)) {ci : Nat} {fs : List Value} {T : u_T} {N : Nat} (he : (w)[0]? = some (b, .inr (ci, fs))) (hcl : vwCl[ci]? = some (y.cls, T, N)) (hlen : As.length = n) (hst : st0 = As.reverse ++ .ref b :: rest) (hw : (rest.map fun v => v.category).sum ≤ 8) (hR : d + 1 ≤ R.frames ∧ 8 + (maxL + 11) + 64 * d ≤ R.locals) (hcells : cells ≤ R.cells) (hslots : slots ≤ R.slots)
    (kk : ∀ (H1 : Heap) (locs1 : List Loc), va_P E.1 vwCl (w2 ++ z) H1 → va_D A (w2 ++ z) → va_S A s.heap H1 locs1 → W p l e R s m args below meth c H1 locs1 cells slots Q (F0 m (pc + 3) ls (.int r :: rest))) : W p l e R s m args below meth c H locs cells slots Q (F0 m pc ls st0) := by
  have hB := callB' (R := R) (d := d) (index := index) cx hc hlk hR
  obtain ⟨⟨hx, hb, hml, hown, hts⟩, hr, hlocks, hK, hA, hX⟩ := cx
  obtain ⟨hPw, hPz⟩ := va_P_left hP
  obtain ⟨hDw, hDz, hne⟩ := va_D_left hD
  have hFc : ∀ q, va_A w H.size q → A q := by
    rintro q (⟨k, e, h⟩ | h)
    · exact (hDw).2 k _ h
    · exact hA q (Nat.le_trans hS.1 h)
  refine va_calli (va_runV (As := As) (rest := rest) (b := b) (C := y.cls) (cc := cc) (nL := nL) (n := n) ⟨hx, hb, hml, hown, hts⟩ (hM H.size) ⟨hB, hts _ hv.1, hts _ hv.2⟩ ⟨PreB_blind, va_recv hK hPw hcl he, fun U hU hW => ⟨rfl, by rw [hU], by rw [hU]; exact hPw, va_K.moved hW.alike hK, (hDw).weaken (fun _ _ _ _ => trivial), by rw [hU]; exact SX.warm hW ((hX.kept hS.2.1).narrow hFc)⟩⟩ rfl hlen hl.1 hst (by show 2 * 0 + _ ≤ 8; omega) hdg ⟨hcells, hslots⟩) hS (fun q _ h => hFc q h) hFc (fun r1 u t H1 locs1 ht hvm hw1 hB1 hz1 hk1 hS1 => ?_)
  obtain ⟨hP1, hK1, hD1⟩ := hB1
  rw [ht] at hP1
  subst hw1
  obtain ⟨q1, q2, q3, q4⟩ := joinL hP hD hk1 hFc hP1 hD1
  exact kk H1 locs1 (hP1.app q1) (va_D_app q2 q3 q4) hS1
theorem lcallLL {p : Program} {l : Launch} {e : Env} {R : Room} {s : State} {m : MethodId} {args : Array Value} {below : List Frame} {meth : Method} {c : Code} {H : Heap} {locs : List Loc} {Q : State → Prop} {cells slots : Nat} {cc : ByteArray} {own : String} {nL pc : Nat} {E : vE} {A : Nat → Prop} {ls : Array Slot} {rest : List Value} {rt : Option FieldType}
    {y : MethodName} {bytes : ByteArray} {maxL d index n : Nat} {ret : Option FieldType} {b : Nat} {As st0 : List Value} {w z w2 : va_W} {r : Int64} (hM : CtL l y bytes maxL ret d E (.ref b :: As) w w2 r) (hc : Cal y bytes maxL ret n) (hv : CalV y) (hlk : Cond.methodLink own index y ∈ gtbl) (cx : Cx p s m args meth c cc own nL rt E A) (hP : va_P E.1 vwCl (w ++ z) H) (hD : va_D A (w ++ z)) (hS : va_S A s.heap H locs) {lv : List (Nat × Value)} (hl : lv_has ls nL lv)
    (hdg : decode cc pc = .ok (.invokevirtual index, 3)) {ci : Nat} {fs : List Value} {T : u_T} {N : Nat} (he : (w)[0]? = some (b, .inr (ci, fs))) (hcl : vwCl[ci]? = some (y.cls, T, N)) (hlen : As.length = n) (hst : st0 = As.reverse ++ .ref b :: rest) (hw : (rest.map fun v => v.category).sum ≤ 8) (hR : d + 1 ≤ R.frames ∧ 8 + (maxL + 11) + 64 * d ≤ R.locals) (hcells : cells ≤ R.cells) (hslots : slots ≤ R.slots)
    (kk : ∀ (H1 : Heap) (locs1 : List Loc), va_P E.1 vwCl (w2 ++ z) H1 → va_D A (w2 ++ z) → va_S A s.heap H1 locs1 → W p l e R s m args below meth c H1 locs1 cells slots Q (F0 m (pc + 3) ls (.long r :: rest))) : W p l e R s m args below meth c H locs cells slots Q (F0 m pc ls st0) := by
  have hB := callB' (R := R) (d := d) (index := index) cx hc hlk hR
  obtain ⟨⟨hx, hb, hml, hown, hts⟩, hr, hlocks, hK, hA, hX⟩ := cx
  obtain ⟨hPw, hPz⟩ := va_P_left hP
  obtain ⟨hDw, hDz, hne⟩ := va_D_left hD
  have hFc : ∀ q, va_A w H.size q → A q := by
    rintro q (⟨k, e, h⟩ | h)
    · exact (hDw).2 k _ h
    · exact hA q (Nat.le_trans hS.1 h)
  refine va_calll (va_runV (As := As) (rest := rest) (b := b) (C := y.cls) (cc := cc) (nL := nL) (n := n) ⟨hx, hb, hml, hown, hts⟩ (hM H.size) ⟨hB, hts _ hv.1, hts _ hv.2⟩ ⟨PreB_blind, va_recv hK hPw hcl he, fun U hU hW => ⟨rfl, by rw [hU], by rw [hU]; exact hPw, va_K.moved hW.alike hK, (hDw).weaken (fun _ _ _ _ => trivial), by rw [hU]; exact SX.warm hW ((hX.kept hS.2.1).narrow hFc)⟩⟩ rfl hlen hl.1 hst (by show 2 * 0 + _ ≤ 8; omega) hdg ⟨hcells, hslots⟩) hS (fun q _ h => hFc q h) hFc (fun r1 u t H1 locs1 ht hvm hw1 hB1 hz1 hk1 hS1 => ?_)
  obtain ⟨hP1, hK1, hD1⟩ := hB1
  rw [ht] at hP1
  subst hw1
  obtain ⟨q1, q2, q3, q4⟩ := joinL hP hD hk1 hFc hP1 hD1
  exact kk H1 locs1 (hP1.app q1) (va_D_app q2 q3 q4) hS1
theorem lcallIR {p : Program} {l : Launch} {e : Env} {R : Room} {s : State} {m : MethodId} {args : Array Value} {below : List Frame} {meth : Method} {c : Code} {H : Heap} {locs : List Loc} {Q : State → Prop} {cells slots : Nat} {cc : ByteArray} {own : String} {nL pc : Nat} {E : vE} {A : Nat → Prop} {ls : Array Slot} {rest : List Value} {rt : Option FieldType}
    {y : MethodName} {bytes : ByteArray} {maxL d index n : Nat} {ret : Option FieldType} {b : Nat} {As st0 : List Value} {w z z2 : va_W} {r : Int32} (hM : CtI l y bytes maxL ret d E (.ref b :: As) z z2 r) (hc : Cal y bytes maxL ret n) (hv : CalV y) (hlk : Cond.methodLink own index y ∈ gtbl) (cx : Cx p s m args meth c cc own nL rt E A) (hP : va_P E.1 vwCl (w ++ z) H) (hD : va_D A (w ++ z)) (hS : va_S A s.heap H locs) {lv : List (Nat × Value)} (hl : lv_has ls nL lv)
    (hdg : decode cc pc = .ok (.invokevirtual index, 3)) {ci : Nat} {fs : List Value} {T : u_T} {N : Nat} (he : (z)[0]? = some (b, .inr (ci, fs))) (hcl : vwCl[ci]? = some (y.cls, T, N)) (hlen : As.length = n) (hst : st0 = As.reverse ++ .ref b :: rest) (hw : (rest.map fun v => v.category).sum ≤ 8) (hR : d + 1 ≤ R.frames ∧ 8 + (maxL + 11) + 64 * d ≤ R.locals) (hcells : cells ≤ R.cells) (hslots : slots ≤ R.slots)
    (kk : ∀ (H1 : Heap) (locs1 : List Loc), va_P E.1 vwCl (w ++ z2) H1 → va_D A (w ++ z2) → va_S A s.heap H1 locs1 → W p l e R s m args below meth c H1 locs1 cells slots Q (F0 m (pc + 3) ls (.int r :: rest))) : W p l e R s m args below meth c H locs cells slots Q (F0 m pc ls st0) := by
  have hB := callB' (R := R) (d := d) (index := index) cx hc hlk hR
  obtain ⟨⟨hx, hb, hml, hown, hts⟩, hr, hlocks, hK, hA, hX⟩ := cx
  obtain ⟨hPw, hPz⟩ := va_P_left hP
  obtain ⟨hDw, hDz, hne⟩ := va_D_left hD
  have hFc : ∀ q, va_A z H.size q → A q := by
    rintro q (⟨k, e, h⟩ | h)
    · exact (hDz).2 k _ h
    · exact hA q (Nat.le_trans hS.1 h)
  refine va_calli (va_runV (As := As) (rest := rest) (b := b) (C := y.cls) (cc := cc) (nL := nL) (n := n) ⟨hx, hb, hml, hown, hts⟩ (hM H.size) ⟨hB, hts _ hv.1, hts _ hv.2⟩ ⟨PreB_blind, va_recv hK hPz hcl he, fun U hU hW => ⟨rfl, by rw [hU], by rw [hU]; exact hPz, va_K.moved hW.alike hK, (hDz).weaken (fun _ _ _ _ => trivial), by rw [hU]; exact SX.warm hW ((hX.kept hS.2.1).narrow hFc)⟩⟩ rfl hlen hl.1 hst (by show 2 * 0 + _ ≤ 8; omega) hdg ⟨hcells, hslots⟩) hS (fun q _ h => hFc q h) hFc (fun r1 u t H1 locs1 ht hvm hw1 hB1 hz1 hk1 hS1 => ?_)
  obtain ⟨hP1, hK1, hD1⟩ := hB1
  rw [ht] at hP1
  subst hw1
  have hP' : va_P E.1 vwCl (z ++ w) H := hPz.app hPw
  have hD' : va_D A (z ++ w) := va_D_app hDz hDw (fun i j p q h1 h2 e => hne j i q p h2 h1 e.symm)
  obtain ⟨q1, q2, q3, q4⟩ := joinL hP' hD' hk1 hFc hP1 hD1
  exact kk H1 locs1 (q1.app hP1) (va_D_app q3 q2 (fun i j p q h1 h2 e => q4 j i q p h2 h1 e.symm)) hS1
theorem lcallLR {p : Program} {l : Launch} {e : Env} {R : Room} {s : State} {m : MethodId} {args : Array Value} {below : List Frame} {meth : Method} {c : Code} {H : Heap} {locs : List Loc} {Q : State → Prop} {cells slots : Nat} {cc : ByteArray} {own : String} {nL pc : Nat} {E : vE} {A : Nat → Prop} {ls : Array Slot} {rest : List Value} {rt : Option FieldType}
    {y : MethodName} {bytes : ByteArray} {maxL d index n : Nat} {ret : Option FieldType} {b : Nat} {As st0 : List Value} {w z z2 : va_W} {r : Int64} (hM : CtL l y bytes maxL ret d E (.ref b :: As) z z2 r) (hc : Cal y bytes maxL ret n) (hv : CalV y) (hlk : Cond.methodLink own index y ∈ gtbl) (cx : Cx p s m args meth c cc own nL rt E A) (hP : va_P E.1 vwCl (w ++ z) H) (hD : va_D A (w ++ z)) (hS : va_S A s.heap H locs) {lv : List (Nat × Value)} (hl : lv_has ls nL lv)
    (hdg : decode cc pc = .ok (.invokevirtual index, 3)) {ci : Nat} {fs : List Value} {T : u_T} {N : Nat} (he : (z)[0]? = some (b, .inr (ci, fs))) (hcl : vwCl[ci]? = some (y.cls, T, N)) (hlen : As.length = n) (hst : st0 = As.reverse ++ .ref b :: rest) (hw : (rest.map fun v => v.category).sum ≤ 8) (hR : d + 1 ≤ R.frames ∧ 8 + (maxL + 11) + 64 * d ≤ R.locals) (hcells : cells ≤ R.cells) (hslots : slots ≤ R.slots)
    (kk : ∀ (H1 : Heap) (locs1 : List Loc), va_P E.1 vwCl (w ++ z2) H1 → va_D A (w ++ z2) → va_S A s.heap H1 locs1 → W p l e R s m args below meth c H1 locs1 cells slots Q (F0 m (pc + 3) ls (.long r :: rest))) : W p l e R s m args below meth c H locs cells slots Q (F0 m pc ls st0) := by
  have hB := callB' (R := R) (d := d) (index := index) cx hc hlk hR
  obtain ⟨⟨hx, hb, hml, hown, hts⟩, hr, hlocks, hK, hA, hX⟩ := cx
  obtain ⟨hPw, hPz⟩ := va_P_left hP
  obtain ⟨hDw, hDz, hne⟩ := va_D_left hD
  have hFc : ∀ q, va_A z H.size q → A q := by
    rintro q (⟨k, e, h⟩ | h)
    · exact (hDz).2 k _ h
    · exact hA q (Nat.le_trans hS.1 h)
  refine va_calll (va_runV (As := As) (rest := rest) (b := b) (C := y.cls) (cc := cc) (nL := nL) (n := n) ⟨hx, hb, hml, hown, hts⟩ (hM H.size) ⟨hB, hts _ hv.1, hts _ hv.2⟩ ⟨PreB_blind, va_recv hK hPz hcl he, fun U hU hW => ⟨rfl, by rw [hU], by rw [hU]; exact hPz, va_K.moved hW.alike hK, (hDz).weaken (fun _ _ _ _ => trivial), by rw [hU]; exact SX.warm hW ((hX.kept hS.2.1).narrow hFc)⟩⟩ rfl hlen hl.1 hst (by show 2 * 0 + _ ≤ 8; omega) hdg ⟨hcells, hslots⟩) hS (fun q _ h => hFc q h) hFc (fun r1 u t H1 locs1 ht hvm hw1 hB1 hz1 hk1 hS1 => ?_)
  obtain ⟨hP1, hK1, hD1⟩ := hB1
  rw [ht] at hP1
  subst hw1
  have hP' : va_P E.1 vwCl (z ++ w) H := hPz.app hPw
  have hD' : va_D A (z ++ w) := va_D_app hDz hDw (fun i j p q h1 h2 e => hne j i q p h2 h1 e.symm)
  obtain ⟨q1, q2, q3, q4⟩ := joinL hP' hD' hk1 hFc hP1 hD1
  exact kk H1 locs1 (q1.app hP1) (va_D_app q3 q2 (fun i j p q h1 h2 e => q4 j i q p h2 h1 e.symm)) hS1
theorem cal_X11_attends : Cal yX11_attends cX11_attends 3 (some .int) 2 := ⟨(gs5 136 rfl rfl), (gs1 1 rfl rfl), by decide +kernel, by decide +kernel, by decide +kernel⟩
theorem cal_X11_bear : Cal yX11_bear cX11_bear 2 (some .int) 1 := ⟨(gs5 45 rfl rfl), (gs1 1 rfl rfl), by decide +kernel, by decide +kernel, by decide +kernel⟩
theorem cal_X11_becomes : Cal yX11_becomes cX11_becomes 2 (some .int) 1 := ⟨(gs5 124 rfl rfl), (gs1 1 rfl rfl), by decide +kernel, by decide +kernel, by decide +kernel⟩
theorem cal_X11_best : Cal yX11_best cX11_best 2 (some .int) 1 := ⟨(gs5 157 rfl rfl), (gs1 1 rfl rfl), by decide +kernel, by decide +kernel, by decide +kernel⟩
theorem cal_X11_bestWages : Cal yX11_bestWages cX11_bestWages 2 (some .int) 1 := ⟨(gs5 175 rfl rfl), (gs1 1 rfl rfl), by decide +kernel, by decide +kernel, by decide +kernel⟩
theorem cal_X11_bottom : Cal yX11_bottom cX11_bottom 1 (some .long) 0 := ⟨(gs2 185 rfl rfl), (gs1 1 rfl rfl), by decide +kernel, by decide +kernel, by decide +kernel⟩
theorem cal_X11_centre : Cal yX11_centre cX11_centre 2 (some .int) 0 := ⟨(gs5 72 rfl rfl), (gs1 1 rfl rfl), by decide +kernel, by decide +kernel, by decide +kernel⟩
theorem cal_X11_city : Cal yX11_city cX11_city 3 (some .int) 1 := ⟨(gs3 42 rfl rfl), (gs1 1 rfl rfl), by decide +kernel, by decide +kernel, by decide +kernel⟩
theorem cal_X11_copyStanding : Cal yX11_copyStanding cX11_copyStanding 5 (some .int) 1 := ⟨(gs6 75 rfl rfl), (gs1 1 rfl rfl), by decide +kernel, by decide +kernel, by decide +kernel⟩
theorem cal_X11_cut : Cal yX11_cut cX11_cut 3 (some .int) 2 := ⟨(gs5 84 rfl rfl), (gs1 1 rfl rfl), by decide +kernel, by decide +kernel, by decide +kernel⟩
theorem cal_X11_explained : Cal yX11_explained cX11_explained 6 (some .int) 1 := ⟨(gs5 204 rfl rfl), (gs1 1 rfl rfl), by decide +kernel, by decide +kernel, by decide +kernel⟩
theorem cal_X11_extra : Cal yX11_extra cX11_extra 3 (some .int) 2 := ⟨(gs4 136 rfl rfl), (gs1 1 rfl rfl), by decide +kernel, by decide +kernel, by decide +kernel⟩
theorem cal_X11_falls : Cal yX11_falls cX11_falls 6 (some .boolean) 1 := ⟨(gs6 60 rfl rfl), (gs1 1 rfl rfl), by decide +kernel, by decide +kernel, by decide +kernel⟩
theorem cal_X11_far : Cal yX11_far cX11_far 4 (some .int) 2 := ⟨(gs5 62 rfl rfl), (gs1 1 rfl rfl), by decide +kernel, by decide +kernel, by decide +kernel⟩
theorem cal_X11_fault : Cal yX11_fault cX11_fault 2 (some .int) 1 := ⟨(gs4 107 rfl rfl), (gs1 1 rfl rfl), by decide +kernel, by decide +kernel, by decide +kernel⟩
theorem cal_X11_feed : Cal yX11_feed cX11_feed 6 (some .int) 5 := ⟨(gs3 29 rfl rfl), (gs1 1 rfl rfl), by decide +kernel, by decide +kernel, by decide +kernel⟩
theorem cal_X11_fewest : Cal yX11_fewest cX11_fewest 2 (some .int) 0 := ⟨(gs5 180 rfl rfl), (gs1 1 rfl rfl), by decide +kernel, by decide +kernel, by decide +kernel⟩
theorem cal_X11_fewestSet : Cal yX11_fewestSet cX11_fewestSet 2 (some .int) 0 := ⟨(gs5 200 rfl rfl), (gs1 1 rfl rfl), by decide +kernel, by decide +kernel, by decide +kernel⟩
theorem cal_X11_game : Cal yX11_game cX11_game 3 (some .int) 2 := ⟨(gs6 27 rfl rfl), (gs1 1 rfl rfl), by decide +kernel, by decide +kernel, by decide +kernel⟩
theorem cal_X11_goal : Cal yX11_goal cX11_goal 3 (some .int) 1 := ⟨(gs5 97 rfl rfl), (gs1 1 rfl rfl), by decide +kernel, by decide +kernel, by decide +kernel⟩
theorem cal_X11_guard : Cal yX11_guard cX11_guard 2 (some .int) 0 := ⟨(gs6 7 rfl rfl), (gs1 1 rfl rfl), by decide +kernel, by decide +kernel, by decide +kernel⟩
theorem cal_X11_guardLeft : Cal yX11_guardLeft cX11_guardLeft 2 (some .int) 0 := ⟨(gs6 22 rfl rfl), (gs1 1 rfl rfl), by decide +kernel, by decide +kernel, by decide +kernel⟩
theorem cal_X11_happening : Cal yX11_happening cX11_happening 3 (some .int) 2 := ⟨(gs4 149 rfl rfl), (gs1 1 rfl rfl), by decide +kernel, by decide +kernel, by decide +kernel⟩
theorem cal_X11_hour : Cal yX11_hour cX11_hour 3 (some .int) 1 := ⟨(gs4 192 rfl rfl), (gs1 1 rfl rfl), by decide +kernel, by decide +kernel, by decide +kernel⟩
theorem cal_X11_lawFirst : Cal yX11_lawFirst cX11_lawFirst 6 (some .int) 2 := ⟨(gs6 3 rfl rfl), (gs1 1 rfl rfl), by decide +kernel, by decide +kernel, by decide +kernel⟩
theorem cal_X11_laws : Cal yX11_laws cX11_laws 7 (some .int) 2 := ⟨(gs5 231 rfl rfl), (gs1 1 rfl rfl), by decide +kernel, by decide +kernel, by decide +kernel⟩
theorem cal_X11_live : Cal yX11_live cX11_live 4 (some .int) 1 := ⟨(gs6 79 rfl rfl), (gs1 1 rfl rfl), by decide +kernel, by decide +kernel, by decide +kernel⟩
theorem cal_X11_lived : Cal yX11_lived cX11_lived 2 (some .int) 1 := ⟨(gs6 128 rfl rfl), (gs1 1 rfl rfl), by decide +kernel, by decide +kernel, by decide +kernel⟩
theorem cal_X11_mark : Cal yX11_mark cX11_mark 2 (some .int) 0 := ⟨(gs6 136 rfl rfl), (gs1 1 rfl rfl), by decide +kernel, by decide +kernel, by decide +kernel⟩
theorem cal_X11_mean : Cal yX11_mean cX11_mean 6 (some .boolean) 2 := ⟨(gs6 132 rfl rfl), (gs1 1 rfl rfl), by decide +kernel, by decide +kernel, by decide +kernel⟩
theorem cal_X11_moveOf : Cal yX11_moveOf cX11_moveOf 3 (some .int) 2 := ⟨(gs6 52 rfl rfl), (gs1 1 rfl rfl), by decide +kernel, by decide +kernel, by decide +kernel⟩
theorem cal_X11_order : Cal yX11_order cX11_order 4 (some .boolean) 3 := ⟨(gs5 13 rfl rfl), (gs1 1 rfl rfl), by decide +kernel, by decide +kernel, by decide +kernel⟩
theorem cal_X11_overIn : Cal yX11_overIn cX11_overIn 2 (some .int) 1 := ⟨(gs5 120 rfl rfl), (gs1 1 rfl rfl), by decide +kernel, by decide +kernel, by decide +kernel⟩
theorem cal_X11_plan : Cal yX11_plan cX11_plan 4 (some .int) 3 := ⟨(gs5 39 rfl rfl), (gs1 1 rfl rfl), by decide +kernel, by decide +kernel, by decide +kernel⟩
theorem cal_X11_post : Cal yX11_post cX11_post 3 (some .boolean) 2 := ⟨(gs5 50 rfl rfl), (gs1 1 rfl rfl), by decide +kernel, by decide +kernel, by decide +kernel⟩
theorem cal_X11_pour : Cal yX11_pour cX11_pour 6 (some .boolean) 5 := ⟨(gs3 13 rfl rfl), (gs1 1 rfl rfl), by decide +kernel, by decide +kernel, by decide +kernel⟩
theorem cal_X11_put : Cal yX11_put cX11_put 3 (some .int) 2 := ⟨(gs5 25 rfl rfl), (gs1 1 rfl rfl), by decide +kernel, by decide +kernel, by decide +kernel⟩
theorem cal_X11_raise : Cal yX11_raise cX11_raise 3 (some .boolean) 2 := ⟨(gs5 33 rfl rfl), (gs1 1 rfl rfl), by decide +kernel, by decide +kernel, by decide +kernel⟩
theorem cal_X11_read : Cal yX11_read cX11_read 4 (some .long) 2 := ⟨(gs3 0 rfl rfl), (gs1 1 rfl rfl), by decide +kernel, by decide +kernel, by decide +kernel⟩
theorem cal_X11_road : Cal yX11_road cX11_road 4 (some .int) 2 := ⟨(gs4 187 rfl rfl), (gs1 1 rfl rfl), by decide +kernel, by decide +kernel, by decide +kernel⟩
theorem cal_X11_rule : Cal yX11_rule cX11_rule 3 (some .boolean) 2 := ⟨(gs5 58 rfl rfl), (gs1 1 rfl rfl), by decide +kernel, by decide +kernel, by decide +kernel⟩
theorem cal_X11_scare : Cal yX11_scare cX11_scare 3 (some .boolean) 2 := ⟨(gs5 54 rfl rfl), (gs1 1 rfl rfl), by decide +kernel, by decide +kernel, by decide +kernel⟩
theorem cal_X11_standing : Cal yX11_standing cX11_standing 2 (some .int) 1 := ⟨(gs4 179 rfl rfl), (gs1 1 rfl rfl), by decide +kernel, by decide +kernel, by decide +kernel⟩
theorem cal_X11_standingIn : Cal yX11_standingIn cX11_standingIn 3 (some .int) 2 := ⟨(gs5 116 rfl rfl), (gs1 1 rfl rfl), by decide +kernel, by decide +kernel, by decide +kernel⟩
theorem cal_X11_status : Cal yX11_status cX11_status 1 (some .int) 0 := ⟨(gs2 177 rfl rfl), (gs1 1 rfl rfl), by decide +kernel, by decide +kernel, by decide +kernel⟩
theorem cal_X11_sure : Cal yX11_sure cX11_sure 6 (some .int) 1 := ⟨(gs5 227 rfl rfl), (gs1 1 rfl rfl), by decide +kernel, by decide +kernel, by decide +kernel⟩
theorem cal_X11_told : Cal yX11_told cX11_told 2 (some .int) 1 := ⟨(gs4 111 rfl rfl), (gs1 1 rfl rfl), by decide +kernel, by decide +kernel, by decide +kernel⟩
theorem cal_X11_top : Cal yX11_top cX11_top 1 (some .long) 0 := ⟨(gs2 181 rfl rfl), (gs1 1 rfl rfl), by decide +kernel, by decide +kernel, by decide +kernel⟩
theorem cal_X11_tray : Cal yX11_tray cX11_tray 4 (some .boolean) 3 := ⟨(gs2 189 rfl rfl), (gs1 1 rfl rfl), by decide +kernel, by decide +kernel, by decide +kernel⟩
theorem cal_X11_undo : Cal yX11_undo cX11_undo 2 (some .int) 0 := ⟨(gs6 140 rfl rfl), (gs1 1 rfl rfl), by decide +kernel, by decide +kernel, by decide +kernel⟩
theorem cal_X11_wagesIn : Cal yX11_wagesIn cX11_wagesIn 3 (some .int) 2 := ⟨(gs5 128 rfl rfl), (gs1 1 rfl rfl), by decide +kernel, by decide +kernel, by decide +kernel⟩
theorem cal_X11_warnedIn : Cal yX11_warnedIn cX11_warnedIn 3 (some .int) 2 := ⟨(gs5 132 rfl rfl), (gs1 1 rfl rfl), by decide +kernel, by decide +kernel, by decide +kernel⟩
theorem cal_X11_watcher : Cal yX11_watcher cX11_watcher 3 (some .int) 2 := ⟨(gs4 171 rfl rfl), (gs1 1 rfl rfl), by decide +kernel, by decide +kernel, by decide +kernel⟩
theorem cal_X11_way : Cal yX11_way cX11_way 4 (some .int) 2 := ⟨(gs5 67 rfl rfl), (gs1 1 rfl rfl), by decide +kernel, by decide +kernel, by decide +kernel⟩
theorem cal_X11_weeks : Cal yX11_weeks cX11_weeks 3 (some .int) 1 := ⟨(gs4 64 rfl rfl), (gs1 1 rfl rfl), by decide +kernel, by decide +kernel, by decide +kernel⟩
theorem cal_X11_whereIn : Cal yX11_whereIn cX11_whereIn 3 (some .int) 2 := ⟨(gs5 105 rfl rfl), (gs1 1 rfl rfl), by decide +kernel, by decide +kernel, by decide +kernel⟩
theorem cal_X11_write : Cal yX11_write cX11_write 6 (some .boolean) 3 := ⟨(gs2 213 rfl rfl), (gs1 1 rfl rfl), by decide +kernel, by decide +kernel, by decide +kernel⟩
theorem cal_X12_attends : Cal yX12_attends cX12_attends 3 (some .int) 2 := ⟨(gs9 12 rfl rfl), (gs1 13 rfl rfl), by decide +kernel, by decide +kernel, by decide +kernel⟩
theorem cal_X12_bear : Cal yX12_bear cX12_bear 4 (some .int) 1 := ⟨(gs8 185 rfl rfl), (gs1 13 rfl rfl), by decide +kernel, by decide +kernel, by decide +kernel⟩
theorem cal_X12_becomes : Cal yX12_becomes cX12_becomes 2 (some .int) 1 := ⟨(gs9 0 rfl rfl), (gs1 13 rfl rfl), by decide +kernel, by decide +kernel, by decide +kernel⟩
theorem cal_X12_best : Cal yX12_best cX12_best 2 (some .int) 1 := ⟨(gs9 24 rfl rfl), (gs1 13 rfl rfl), by decide +kernel, by decide +kernel, by decide +kernel⟩
theorem cal_X12_bestWages : Cal yX12_bestWages cX12_bestWages 2 (some .int) 1 := ⟨(gs9 36 rfl rfl), (gs1 13 rfl rfl), by decide +kernel, by decide +kernel, by decide +kernel⟩
theorem cal_X12_bottom : Cal yX12_bottom cX12_bottom 1 (some .long) 0 := ⟨(gs7 41 rfl rfl), (gs1 13 rfl rfl), by decide +kernel, by decide +kernel, by decide +kernel⟩
theorem cal_X12_centre : Cal yX12_centre cX12_centre 6 (some .int) 0 := ⟨(gs8 103 rfl rfl), (gs1 13 rfl rfl), by decide +kernel, by decide +kernel, by decide +kernel⟩
theorem cal_X12_city : Cal yX12_city cX12_city 4 (some .int) 1 := ⟨(gs7 88 rfl rfl), (gs1 13 rfl rfl), by decide +kernel, by decide +kernel, by decide +kernel⟩
theorem cal_X12_copyStanding : Cal yX12_copyStanding cX12_copyStanding 3 (some .int) 1 := ⟨(gs9 147 rfl rfl), (gs1 13 rfl rfl), by decide +kernel, by decide +kernel, by decide +kernel⟩
theorem cal_X12_cut : Cal yX12_cut cX12_cut 5 (some .int) 2 := ⟨(gs8 107 rfl rfl), (gs1 13 rfl rfl), by decide +kernel, by decide +kernel, by decide +kernel⟩
theorem cal_X12_explained : Cal yX12_explained cX12_explained 5 (some .int) 1 := ⟨(gs9 64 rfl rfl), (gs1 13 rfl rfl), by decide +kernel, by decide +kernel, by decide +kernel⟩
theorem cal_X12_extra : Cal yX12_extra cX12_extra 3 (some .int) 2 := ⟨(gs8 31 rfl rfl), (gs1 13 rfl rfl), by decide +kernel, by decide +kernel, by decide +kernel⟩
theorem cal_X12_falls : Cal yX12_falls cX12_falls 8 (some .boolean) 1 := ⟨(gs9 139 rfl rfl), (gs1 13 rfl rfl), by decide +kernel, by decide +kernel, by decide +kernel⟩
theorem cal_X12_far : Cal yX12_far cX12_far 4 (some .int) 2 := ⟨(gs8 83 rfl rfl), (gs1 13 rfl rfl), by decide +kernel, by decide +kernel, by decide +kernel⟩
theorem cal_X12_fault : Cal yX12_fault cX12_fault 2 (some .int) 1 := ⟨(gs7 84 rfl rfl), (gs1 13 rfl rfl), by decide +kernel, by decide +kernel, by decide +kernel⟩
theorem cal_X12_feed : Cal yX12_feed cX12_feed 6 (some .int) 5 := ⟨(gs7 76 rfl rfl), (gs1 13 rfl rfl), by decide +kernel, by decide +kernel, by decide +kernel⟩
theorem cal_X12_fewest : Cal yX12_fewest cX12_fewest 2 (some .int) 0 := ⟨(gs9 40 rfl rfl), (gs1 13 rfl rfl), by decide +kernel, by decide +kernel, by decide +kernel⟩
theorem cal_X12_fewestSet : Cal yX12_fewestSet cX12_fewestSet 1 (some .int) 0 := ⟨(gs9 60 rfl rfl), (gs1 13 rfl rfl), by decide +kernel, by decide +kernel, by decide +kernel⟩
theorem cal_X12_game : Cal yX12_game cX12_game 3 (some .int) 2 := ⟨(gs9 118 rfl rfl), (gs1 13 rfl rfl), by decide +kernel, by decide +kernel, by decide +kernel⟩
theorem cal_X12_goal : Cal yX12_goal cX12_goal 2 (some .int) 1 := ⟨(gs8 204 rfl rfl), (gs1 13 rfl rfl), by decide +kernel, by decide +kernel, by decide +kernel⟩
theorem cal_X12_guard : Cal yX12_guard cX12_guard 1 (some .int) 0 := ⟨(gs9 101 rfl rfl), (gs1 13 rfl rfl), by decide +kernel, by decide +kernel, by decide +kernel⟩
theorem cal_X12_guardLeft : Cal yX12_guardLeft cX12_guardLeft 2 (some .int) 0 := ⟨(gs9 114 rfl rfl), (gs1 13 rfl rfl), by decide +kernel, by decide +kernel, by decide +kernel⟩
theorem cal_X12_happening : Cal yX12_happening cX12_happening 3 (some .int) 2 := ⟨(gs8 39 rfl rfl), (gs1 13 rfl rfl), by decide +kernel, by decide +kernel, by decide +kernel⟩
theorem cal_X12_hour : Cal yX12_hour cX12_hour 2 (some .int) 1 := ⟨(gs8 119 rfl rfl), (gs1 13 rfl rfl), by decide +kernel, by decide +kernel, by decide +kernel⟩
theorem cal_X12_lawFirst : Cal yX12_lawFirst cX12_lawFirst 5 (some .int) 2 := ⟨(gs9 97 rfl rfl), (gs1 13 rfl rfl), by decide +kernel, by decide +kernel, by decide +kernel⟩
theorem cal_X12_laws : Cal yX12_laws cX12_laws 6 (some .int) 2 := ⟨(gs9 84 rfl rfl), (gs1 13 rfl rfl), by decide +kernel, by decide +kernel, by decide +kernel⟩
theorem cal_X12_live : Cal yX12_live cX12_live 3 (some .int) 1 := ⟨(gs9 151 rfl rfl), (gs1 13 rfl rfl), by decide +kernel, by decide +kernel, by decide +kernel⟩
theorem cal_X12_lived : Cal yX12_lived cX12_lived 2 (some .int) 1 := ⟨(gs9 193 rfl rfl), (gs1 13 rfl rfl), by decide +kernel, by decide +kernel, by decide +kernel⟩
theorem cal_X12_mark : Cal yX12_mark cX12_mark 1 (some .int) 0 := ⟨(gs9 201 rfl rfl), (gs1 13 rfl rfl), by decide +kernel, by decide +kernel, by decide +kernel⟩
theorem cal_X12_mean : Cal yX12_mean cX12_mean 6 (some .boolean) 2 := ⟨(gs9 197 rfl rfl), (gs1 13 rfl rfl), by decide +kernel, by decide +kernel, by decide +kernel⟩
theorem cal_X12_moveOf : Cal yX12_moveOf cX12_moveOf 3 (some .int) 2 := ⟨(gs9 135 rfl rfl), (gs1 13 rfl rfl), by decide +kernel, by decide +kernel, by decide +kernel⟩
theorem cal_X12_order : Cal yX12_order cX12_order 4 (some .boolean) 3 := ⟨(gs8 163 rfl rfl), (gs1 13 rfl rfl), by decide +kernel, by decide +kernel, by decide +kernel⟩
theorem cal_X12_overIn : Cal yX12_overIn cX12_overIn 2 (some .int) 1 := ⟨(gs8 232 rfl rfl), (gs1 13 rfl rfl), by decide +kernel, by decide +kernel, by decide +kernel⟩
theorem cal_X12_plan : Cal yX12_plan cX12_plan 5 (some .int) 3 := ⟨(gs8 180 rfl rfl), (gs1 13 rfl rfl), by decide +kernel, by decide +kernel, by decide +kernel⟩
theorem cal_X12_post : Cal yX12_post cX12_post 3 (some .boolean) 2 := ⟨(gs8 189 rfl rfl), (gs1 13 rfl rfl), by decide +kernel, by decide +kernel, by decide +kernel⟩
theorem cal_X12_pour : Cal yX12_pour cX12_pour 8 (some .boolean) 5 := ⟨(gs7 72 rfl rfl), (gs1 13 rfl rfl), by decide +kernel, by decide +kernel, by decide +kernel⟩
theorem cal_X12_put : Cal yX12_put cX12_put 3 (some .int) 2 := ⟨(gs8 167 rfl rfl), (gs1 13 rfl rfl), by decide +kernel, by decide +kernel, by decide +kernel⟩
theorem cal_X12_raise : Cal yX12_raise cX12_raise 3 (some .boolean) 2 := ⟨(gs8 175 rfl rfl), (gs1 13 rfl rfl), by decide +kernel, by decide +kernel, by decide +kernel⟩
theorem cal_X12_read : Cal yX12_read cX12_read 3 (some .long) 2 := ⟨(gs7 67 rfl rfl), (gs1 13 rfl rfl), by decide +kernel, by decide +kernel, by decide +kernel⟩
theorem cal_X12_road : Cal yX12_road cX12_road 4 (some .int) 2 := ⟨(gs8 74 rfl rfl), (gs1 13 rfl rfl), by decide +kernel, by decide +kernel, by decide +kernel⟩
theorem cal_X12_rule : Cal yX12_rule cX12_rule 3 (some .boolean) 2 := ⟨(gs8 198 rfl rfl), (gs1 13 rfl rfl), by decide +kernel, by decide +kernel, by decide +kernel⟩
theorem cal_X12_scare : Cal yX12_scare cX12_scare 3 (some .boolean) 2 := ⟨(gs8 193 rfl rfl), (gs1 13 rfl rfl), by decide +kernel, by decide +kernel, by decide +kernel⟩
theorem cal_X12_standing : Cal yX12_standing cX12_standing 2 (some .int) 1 := ⟨(gs8 66 rfl rfl), (gs1 13 rfl rfl), by decide +kernel, by decide +kernel, by decide +kernel⟩
theorem cal_X12_standingIn : Cal yX12_standingIn cX12_standingIn 4 (some .int) 2 := ⟨(gs8 228 rfl rfl), (gs1 13 rfl rfl), by decide +kernel, by decide +kernel, by decide +kernel⟩
theorem cal_X12_status : Cal yX12_status cX12_status 1 (some .int) 0 := ⟨(gs7 33 rfl rfl), (gs1 13 rfl rfl), by decide +kernel, by decide +kernel, by decide +kernel⟩
theorem cal_X12_sure : Cal yX12_sure cX12_sure 5 (some .int) 1 := ⟨(gs9 80 rfl rfl), (gs1 13 rfl rfl), by decide +kernel, by decide +kernel, by decide +kernel⟩
theorem cal_X12_told : Cal yX12_told cX12_told 2 (some .int) 1 := ⟨(gs8 3 rfl rfl), (gs1 13 rfl rfl), by decide +kernel, by decide +kernel, by decide +kernel⟩
theorem cal_X12_top : Cal yX12_top cX12_top 1 (some .long) 0 := ⟨(gs7 37 rfl rfl), (gs1 13 rfl rfl), by decide +kernel, by decide +kernel, by decide +kernel⟩
theorem cal_X12_tray : Cal yX12_tray cX12_tray 5 (some .boolean) 3 := ⟨(gs7 45 rfl rfl), (gs1 13 rfl rfl), by decide +kernel, by decide +kernel, by decide +kernel⟩
theorem cal_X12_undo : Cal yX12_undo cX12_undo 1 (some .int) 0 := ⟨(gs9 209 rfl rfl), (gs1 13 rfl rfl), by decide +kernel, by decide +kernel, by decide +kernel⟩
theorem cal_X12_wagesIn : Cal yX12_wagesIn cX12_wagesIn 3 (some .int) 2 := ⟨(gs9 4 rfl rfl), (gs1 13 rfl rfl), by decide +kernel, by decide +kernel, by decide +kernel⟩
theorem cal_X12_warnedIn : Cal yX12_warnedIn cX12_warnedIn 3 (some .int) 2 := ⟨(gs9 8 rfl rfl), (gs1 13 rfl rfl), by decide +kernel, by decide +kernel, by decide +kernel⟩
theorem cal_X12_watcher : Cal yX12_watcher cX12_watcher 3 (some .int) 2 := ⟨(gs8 54 rfl rfl), (gs1 13 rfl rfl), by decide +kernel, by decide +kernel, by decide +kernel⟩
theorem cal_X12_way : Cal yX12_way cX12_way 3 (some .int) 2 := ⟨(gs8 91 rfl rfl), (gs1 13 rfl rfl), by decide +kernel, by decide +kernel, by decide +kernel⟩
theorem cal_X12_weeks : Cal yX12_weeks cX12_weeks 4 (some .int) 1 := ⟨(gs7 219 rfl rfl), (gs1 13 rfl rfl), by decide +kernel, by decide +kernel, by decide +kernel⟩
theorem cal_X12_whereIn : Cal yX12_whereIn cX12_whereIn 3 (some .int) 2 := ⟨(gs8 208 rfl rfl), (gs1 13 rfl rfl), by decide +kernel, by decide +kernel, by decide +kernel⟩
theorem cal_X12_write : Cal yX12_write cX12_write 6 (some .boolean) 3 := ⟨(gs7 56 rfl rfl), (gs1 13 rfl rfl), by decide +kernel, by decide +kernel, by decide +kernel⟩
theorem cav_X11_attends : CalV yX11_attends := ⟨(gs5 134 rfl rfl), (gs5 135 rfl rfl)⟩
theorem cav_X11_bear : CalV yX11_bear := ⟨(gs5 43 rfl rfl), (gs5 44 rfl rfl)⟩
theorem cav_X11_becomes : CalV yX11_becomes := ⟨(gs5 122 rfl rfl), (gs5 123 rfl rfl)⟩
theorem cav_X11_best : CalV yX11_best := ⟨(gs5 155 rfl rfl), (gs5 156 rfl rfl)⟩
theorem cav_X11_bestWages : CalV yX11_bestWages := ⟨(gs5 173 rfl rfl), (gs5 174 rfl rfl)⟩
theorem cav_X11_bottom : CalV yX11_bottom := ⟨(gs2 183 rfl rfl), (gs2 184 rfl rfl)⟩
theorem cav_X11_centre : CalV yX11_centre := ⟨(gs5 70 rfl rfl), (gs5 71 rfl rfl)⟩
theorem cav_X11_city : CalV yX11_city := ⟨(gs3 40 rfl rfl), (gs3 41 rfl rfl)⟩
theorem cav_X11_copyStanding : CalV yX11_copyStanding := ⟨(gs6 73 rfl rfl), (gs6 74 rfl rfl)⟩
theorem cav_X11_cut : CalV yX11_cut := ⟨(gs5 82 rfl rfl), (gs5 83 rfl rfl)⟩
theorem cav_X11_explained : CalV yX11_explained := ⟨(gs5 202 rfl rfl), (gs5 203 rfl rfl)⟩
theorem cav_X11_extra : CalV yX11_extra := ⟨(gs4 134 rfl rfl), (gs4 135 rfl rfl)⟩
theorem cav_X11_falls : CalV yX11_falls := ⟨(gs6 58 rfl rfl), (gs6 59 rfl rfl)⟩
theorem cav_X11_far : CalV yX11_far := ⟨(gs5 60 rfl rfl), (gs5 61 rfl rfl)⟩
theorem cav_X11_fault : CalV yX11_fault := ⟨(gs4 105 rfl rfl), (gs4 106 rfl rfl)⟩
theorem cav_X11_feed : CalV yX11_feed := ⟨(gs3 27 rfl rfl), (gs3 28 rfl rfl)⟩
theorem cav_X11_fewest : CalV yX11_fewest := ⟨(gs5 178 rfl rfl), (gs5 179 rfl rfl)⟩
theorem cav_X11_fewestSet : CalV yX11_fewestSet := ⟨(gs5 198 rfl rfl), (gs5 199 rfl rfl)⟩
theorem cav_X11_game : CalV yX11_game := ⟨(gs6 25 rfl rfl), (gs6 26 rfl rfl)⟩
theorem cav_X11_goal : CalV yX11_goal := ⟨(gs5 95 rfl rfl), (gs5 96 rfl rfl)⟩
theorem cav_X11_guard : CalV yX11_guard := ⟨(gs6 5 rfl rfl), (gs6 6 rfl rfl)⟩
theorem cav_X11_guardLeft : CalV yX11_guardLeft := ⟨(gs6 20 rfl rfl), (gs6 21 rfl rfl)⟩
theorem cav_X11_happening : CalV yX11_happening := ⟨(gs4 147 rfl rfl), (gs4 148 rfl rfl)⟩
theorem cav_X11_hour : CalV yX11_hour := ⟨(gs4 190 rfl rfl), (gs4 191 rfl rfl)⟩
theorem cav_X11_lawFirst : CalV yX11_lawFirst := ⟨(gs6 1 rfl rfl), (gs6 2 rfl rfl)⟩
theorem cav_X11_laws : CalV yX11_laws := ⟨(gs5 229 rfl rfl), (gs5 230 rfl rfl)⟩
theorem cav_X11_live : CalV yX11_live := ⟨(gs6 77 rfl rfl), (gs6 78 rfl rfl)⟩
theorem cav_X11_lived : CalV yX11_lived := ⟨(gs6 126 rfl rfl), (gs6 127 rfl rfl)⟩
theorem cav_X11_mark : CalV yX11_mark := ⟨(gs6 134 rfl rfl), (gs6 135 rfl rfl)⟩
theorem cav_X11_mean : CalV yX11_mean := ⟨(gs6 130 rfl rfl), (gs6 131 rfl rfl)⟩
theorem cav_X11_moveOf : CalV yX11_moveOf := ⟨(gs6 50 rfl rfl), (gs6 51 rfl rfl)⟩
theorem cav_X11_order : CalV yX11_order := ⟨(gs5 11 rfl rfl), (gs5 12 rfl rfl)⟩
theorem cav_X11_overIn : CalV yX11_overIn := ⟨(gs5 118 rfl rfl), (gs5 119 rfl rfl)⟩
theorem cav_X11_plan : CalV yX11_plan := ⟨(gs5 37 rfl rfl), (gs5 38 rfl rfl)⟩
theorem cav_X11_post : CalV yX11_post := ⟨(gs5 48 rfl rfl), (gs5 49 rfl rfl)⟩
theorem cav_X11_pour : CalV yX11_pour := ⟨(gs3 11 rfl rfl), (gs3 12 rfl rfl)⟩
theorem cav_X11_put : CalV yX11_put := ⟨(gs5 23 rfl rfl), (gs5 24 rfl rfl)⟩
theorem cav_X11_raise : CalV yX11_raise := ⟨(gs5 31 rfl rfl), (gs5 32 rfl rfl)⟩
theorem cav_X11_read : CalV yX11_read := ⟨(gs2 238 rfl rfl), (gs2 239 rfl rfl)⟩
theorem cav_X11_road : CalV yX11_road := ⟨(gs4 185 rfl rfl), (gs4 186 rfl rfl)⟩
theorem cav_X11_rule : CalV yX11_rule := ⟨(gs5 56 rfl rfl), (gs5 57 rfl rfl)⟩
theorem cav_X11_scare : CalV yX11_scare := ⟨(gs5 52 rfl rfl), (gs5 53 rfl rfl)⟩
theorem cav_X11_standing : CalV yX11_standing := ⟨(gs4 177 rfl rfl), (gs4 178 rfl rfl)⟩
theorem cav_X11_standingIn : CalV yX11_standingIn := ⟨(gs5 114 rfl rfl), (gs5 115 rfl rfl)⟩
theorem cav_X11_status : CalV yX11_status := ⟨(gs2 175 rfl rfl), (gs2 176 rfl rfl)⟩
theorem cav_X11_sure : CalV yX11_sure := ⟨(gs5 225 rfl rfl), (gs5 226 rfl rfl)⟩
theorem cav_X11_told : CalV yX11_told := ⟨(gs4 109 rfl rfl), (gs4 110 rfl rfl)⟩
theorem cav_X11_top : CalV yX11_top := ⟨(gs2 179 rfl rfl), (gs2 180 rfl rfl)⟩
theorem cav_X11_tray : CalV yX11_tray := ⟨(gs2 187 rfl rfl), (gs2 188 rfl rfl)⟩
theorem cav_X11_undo : CalV yX11_undo := ⟨(gs6 138 rfl rfl), (gs6 139 rfl rfl)⟩
theorem cav_X11_wagesIn : CalV yX11_wagesIn := ⟨(gs5 126 rfl rfl), (gs5 127 rfl rfl)⟩
theorem cav_X11_warnedIn : CalV yX11_warnedIn := ⟨(gs5 130 rfl rfl), (gs5 131 rfl rfl)⟩
theorem cav_X11_watcher : CalV yX11_watcher := ⟨(gs4 169 rfl rfl), (gs4 170 rfl rfl)⟩
theorem cav_X11_way : CalV yX11_way := ⟨(gs5 65 rfl rfl), (gs5 66 rfl rfl)⟩
theorem cav_X11_weeks : CalV yX11_weeks := ⟨(gs4 62 rfl rfl), (gs4 63 rfl rfl)⟩
theorem cav_X11_whereIn : CalV yX11_whereIn := ⟨(gs5 103 rfl rfl), (gs5 104 rfl rfl)⟩
theorem cav_X11_write : CalV yX11_write := ⟨(gs2 211 rfl rfl), (gs2 212 rfl rfl)⟩
theorem cav_X12_attends : CalV yX12_attends := ⟨(gs9 10 rfl rfl), (gs9 11 rfl rfl)⟩
theorem cav_X12_bear : CalV yX12_bear := ⟨(gs8 183 rfl rfl), (gs8 184 rfl rfl)⟩
theorem cav_X12_becomes : CalV yX12_becomes := ⟨(gs8 238 rfl rfl), (gs8 239 rfl rfl)⟩
theorem cav_X12_best : CalV yX12_best := ⟨(gs9 22 rfl rfl), (gs9 23 rfl rfl)⟩
theorem cav_X12_bestWages : CalV yX12_bestWages := ⟨(gs9 34 rfl rfl), (gs9 35 rfl rfl)⟩
theorem cav_X12_bottom : CalV yX12_bottom := ⟨(gs7 39 rfl rfl), (gs7 40 rfl rfl)⟩
theorem cav_X12_centre : CalV yX12_centre := ⟨(gs8 101 rfl rfl), (gs8 102 rfl rfl)⟩
theorem cav_X12_city : CalV yX12_city := ⟨(gs7 86 rfl rfl), (gs7 87 rfl rfl)⟩
theorem cav_X12_copyStanding : CalV yX12_copyStanding := ⟨(gs9 145 rfl rfl), (gs9 146 rfl rfl)⟩
theorem cav_X12_cut : CalV yX12_cut := ⟨(gs8 105 rfl rfl), (gs8 106 rfl rfl)⟩
theorem cav_X12_explained : CalV yX12_explained := ⟨(gs9 62 rfl rfl), (gs9 63 rfl rfl)⟩
theorem cav_X12_extra : CalV yX12_extra := ⟨(gs8 29 rfl rfl), (gs8 30 rfl rfl)⟩
theorem cav_X12_falls : CalV yX12_falls := ⟨(gs9 137 rfl rfl), (gs9 138 rfl rfl)⟩
theorem cav_X12_far : CalV yX12_far := ⟨(gs8 81 rfl rfl), (gs8 82 rfl rfl)⟩
theorem cav_X12_fault : CalV yX12_fault := ⟨(gs7 82 rfl rfl), (gs7 83 rfl rfl)⟩
theorem cav_X12_feed : CalV yX12_feed := ⟨(gs7 74 rfl rfl), (gs7 75 rfl rfl)⟩
theorem cav_X12_fewest : CalV yX12_fewest := ⟨(gs9 38 rfl rfl), (gs9 39 rfl rfl)⟩
theorem cav_X12_fewestSet : CalV yX12_fewestSet := ⟨(gs9 58 rfl rfl), (gs9 59 rfl rfl)⟩
theorem cav_X12_game : CalV yX12_game := ⟨(gs9 116 rfl rfl), (gs9 117 rfl rfl)⟩
theorem cav_X12_goal : CalV yX12_goal := ⟨(gs8 202 rfl rfl), (gs8 203 rfl rfl)⟩
theorem cav_X12_guard : CalV yX12_guard := ⟨(gs9 99 rfl rfl), (gs9 100 rfl rfl)⟩
theorem cav_X12_guardLeft : CalV yX12_guardLeft := ⟨(gs9 112 rfl rfl), (gs9 113 rfl rfl)⟩
theorem cav_X12_happening : CalV yX12_happening := ⟨(gs8 37 rfl rfl), (gs8 38 rfl rfl)⟩
theorem cav_X12_hour : CalV yX12_hour := ⟨(gs8 117 rfl rfl), (gs8 118 rfl rfl)⟩
theorem cav_X12_lawFirst : CalV yX12_lawFirst := ⟨(gs9 95 rfl rfl), (gs9 96 rfl rfl)⟩
theorem cav_X12_laws : CalV yX12_laws := ⟨(gs9 82 rfl rfl), (gs9 83 rfl rfl)⟩
theorem cav_X12_live : CalV yX12_live := ⟨(gs9 149 rfl rfl), (gs9 150 rfl rfl)⟩
theorem cav_X12_lived : CalV yX12_lived := ⟨(gs9 191 rfl rfl), (gs9 192 rfl rfl)⟩
theorem cav_X12_mark : CalV yX12_mark := ⟨(gs9 199 rfl rfl), (gs9 200 rfl rfl)⟩
theorem cav_X12_mean : CalV yX12_mean := ⟨(gs9 195 rfl rfl), (gs9 196 rfl rfl)⟩
theorem cav_X12_moveOf : CalV yX12_moveOf := ⟨(gs9 133 rfl rfl), (gs9 134 rfl rfl)⟩
theorem cav_X12_order : CalV yX12_order := ⟨(gs8 161 rfl rfl), (gs8 162 rfl rfl)⟩
theorem cav_X12_overIn : CalV yX12_overIn := ⟨(gs8 230 rfl rfl), (gs8 231 rfl rfl)⟩
theorem cav_X12_plan : CalV yX12_plan := ⟨(gs8 178 rfl rfl), (gs8 179 rfl rfl)⟩
theorem cav_X12_post : CalV yX12_post := ⟨(gs8 187 rfl rfl), (gs8 188 rfl rfl)⟩
theorem cav_X12_pour : CalV yX12_pour := ⟨(gs7 70 rfl rfl), (gs7 71 rfl rfl)⟩
theorem cav_X12_put : CalV yX12_put := ⟨(gs8 165 rfl rfl), (gs8 166 rfl rfl)⟩
theorem cav_X12_raise : CalV yX12_raise := ⟨(gs8 173 rfl rfl), (gs8 174 rfl rfl)⟩
theorem cav_X12_read : CalV yX12_read := ⟨(gs7 65 rfl rfl), (gs7 66 rfl rfl)⟩
theorem cav_X12_road : CalV yX12_road := ⟨(gs8 72 rfl rfl), (gs8 73 rfl rfl)⟩
theorem cav_X12_rule : CalV yX12_rule := ⟨(gs8 196 rfl rfl), (gs8 197 rfl rfl)⟩
theorem cav_X12_scare : CalV yX12_scare := ⟨(gs8 191 rfl rfl), (gs8 192 rfl rfl)⟩
theorem cav_X12_standing : CalV yX12_standing := ⟨(gs8 64 rfl rfl), (gs8 65 rfl rfl)⟩
theorem cav_X12_standingIn : CalV yX12_standingIn := ⟨(gs8 226 rfl rfl), (gs8 227 rfl rfl)⟩
theorem cav_X12_status : CalV yX12_status := ⟨(gs7 31 rfl rfl), (gs7 32 rfl rfl)⟩
theorem cav_X12_sure : CalV yX12_sure := ⟨(gs9 78 rfl rfl), (gs9 79 rfl rfl)⟩
theorem cav_X12_told : CalV yX12_told := ⟨(gs8 1 rfl rfl), (gs8 2 rfl rfl)⟩
theorem cav_X12_top : CalV yX12_top := ⟨(gs7 35 rfl rfl), (gs7 36 rfl rfl)⟩
theorem cav_X12_tray : CalV yX12_tray := ⟨(gs7 43 rfl rfl), (gs7 44 rfl rfl)⟩
theorem cav_X12_undo : CalV yX12_undo := ⟨(gs9 207 rfl rfl), (gs9 208 rfl rfl)⟩
theorem cav_X12_wagesIn : CalV yX12_wagesIn := ⟨(gs9 2 rfl rfl), (gs9 3 rfl rfl)⟩
theorem cav_X12_warnedIn : CalV yX12_warnedIn := ⟨(gs9 6 rfl rfl), (gs9 7 rfl rfl)⟩
theorem cav_X12_watcher : CalV yX12_watcher := ⟨(gs8 52 rfl rfl), (gs8 53 rfl rfl)⟩
theorem cav_X12_way : CalV yX12_way := ⟨(gs8 89 rfl rfl), (gs8 90 rfl rfl)⟩
theorem cav_X12_weeks : CalV yX12_weeks := ⟨(gs7 217 rfl rfl), (gs7 218 rfl rfl)⟩
theorem cav_X12_whereIn : CalV yX12_whereIn := ⟨(gs8 206 rfl rfl), (gs8 207 rfl rfl)⟩
theorem cav_X12_write : CalV yX12_write := ⟨(gs7 54 rfl rfl), (gs7 55 rfl rfl)⟩
theorem lk_L_100 : Cond.methodLink RL 100 yX12_order ∈ gtbl := (gs8 160 rfl rfl)
theorem lk_L_101 : Cond.methodLink RL 101 yX11_put ∈ gtbl := (gs5 22 rfl rfl)
theorem lk_L_104 : Cond.methodLink RL 104 yX12_put ∈ gtbl := (gs8 164 rfl rfl)
theorem lk_L_105 : Cond.methodLink RL 105 yX11_raise ∈ gtbl := (gs5 30 rfl rfl)
theorem lk_L_109 : Cond.methodLink RL 109 yX12_raise ∈ gtbl := (gs8 172 rfl rfl)
theorem lk_L_110 : Cond.methodLink RL 110 yX11_plan ∈ gtbl := (gs5 36 rfl rfl)
theorem lk_L_114 : Cond.methodLink RL 114 yX12_plan ∈ gtbl := (gs8 177 rfl rfl)
theorem lk_L_115 : Cond.methodLink RL 115 yX11_bear ∈ gtbl := (gs5 42 rfl rfl)
theorem lk_L_118 : Cond.methodLink RL 118 yX12_bear ∈ gtbl := (gs8 182 rfl rfl)
theorem lk_L_119 : Cond.methodLink RL 119 yX11_post ∈ gtbl := (gs5 47 rfl rfl)
theorem lk_L_122 : Cond.methodLink RL 122 yX12_post ∈ gtbl := (gs8 186 rfl rfl)
theorem lk_L_123 : Cond.methodLink RL 123 yX11_scare ∈ gtbl := (gs5 51 rfl rfl)
theorem lk_L_126 : Cond.methodLink RL 126 yX12_scare ∈ gtbl := (gs8 190 rfl rfl)
theorem lk_L_127 : Cond.methodLink RL 127 yX11_rule ∈ gtbl := (gs5 55 rfl rfl)
theorem lk_L_13 : Cond.methodLink RL 13 yX11_status ∈ gtbl := (gs2 174 rfl rfl)
theorem lk_L_130 : Cond.methodLink RL 130 yX12_rule ∈ gtbl := (gs8 195 rfl rfl)
theorem lk_L_131 : Cond.methodLink RL 131 yX11_far ∈ gtbl := (gs5 59 rfl rfl)
theorem lk_L_134 : Cond.methodLink RL 134 yX12_far ∈ gtbl := (gs8 80 rfl rfl)
theorem lk_L_135 : Cond.methodLink RL 135 yX11_way ∈ gtbl := (gs5 64 rfl rfl)
theorem lk_L_138 : Cond.methodLink RL 138 yX12_way ∈ gtbl := (gs8 88 rfl rfl)
theorem lk_L_139 : Cond.methodLink RL 139 yX11_centre ∈ gtbl := (gs5 69 rfl rfl)
theorem lk_L_142 : Cond.methodLink RL 142 yX12_centre ∈ gtbl := (gs8 100 rfl rfl)
theorem lk_L_143 : Cond.methodLink RL 143 yX11_cut ∈ gtbl := (gs5 81 rfl rfl)
theorem lk_L_146 : Cond.methodLink RL 146 yX12_cut ∈ gtbl := (gs8 104 rfl rfl)
theorem lk_L_147 : Cond.methodLink RL 147 yX11_goal ∈ gtbl := (gs5 94 rfl rfl)
theorem lk_L_150 : Cond.methodLink RL 150 yX12_goal ∈ gtbl := (gs8 201 rfl rfl)
theorem lk_L_151 : Cond.methodLink RL 151 yX11_whereIn ∈ gtbl := (gs5 102 rfl rfl)
theorem lk_L_154 : Cond.methodLink RL 154 yX12_whereIn ∈ gtbl := (gs8 205 rfl rfl)
theorem lk_L_155 : Cond.methodLink RL 155 yX11_standingIn ∈ gtbl := (gs5 113 rfl rfl)
theorem lk_L_158 : Cond.methodLink RL 158 yX12_standingIn ∈ gtbl := (gs8 225 rfl rfl)
theorem lk_L_159 : Cond.methodLink RL 159 yX11_overIn ∈ gtbl := (gs5 117 rfl rfl)
theorem lk_L_162 : Cond.methodLink RL 162 yX12_overIn ∈ gtbl := (gs8 229 rfl rfl)
theorem lk_L_163 : Cond.methodLink RL 163 yX11_becomes ∈ gtbl := (gs5 121 rfl rfl)
theorem lk_L_166 : Cond.methodLink RL 166 yX12_becomes ∈ gtbl := (gs8 237 rfl rfl)
theorem lk_L_167 : Cond.methodLink RL 167 yX11_wagesIn ∈ gtbl := (gs5 125 rfl rfl)
theorem lk_L_17 : Cond.methodLink RL 17 yX12_status ∈ gtbl := (gs7 30 rfl rfl)
theorem lk_L_170 : Cond.methodLink RL 170 yX12_wagesIn ∈ gtbl := (gs9 1 rfl rfl)
theorem lk_L_171 : Cond.methodLink RL 171 yX11_warnedIn ∈ gtbl := (gs5 129 rfl rfl)
theorem lk_L_174 : Cond.methodLink RL 174 yX12_warnedIn ∈ gtbl := (gs9 5 rfl rfl)
theorem lk_L_175 : Cond.methodLink RL 175 yX11_attends ∈ gtbl := (gs5 133 rfl rfl)
theorem lk_L_178 : Cond.methodLink RL 178 yX12_attends ∈ gtbl := (gs9 9 rfl rfl)
theorem lk_L_179 : Cond.methodLink RL 179 yX11_best ∈ gtbl := (gs5 154 rfl rfl)
theorem lk_L_18 : Cond.methodLink RL 18 yX11_top ∈ gtbl := (gs2 178 rfl rfl)
theorem lk_L_182 : Cond.methodLink RL 182 yX12_best ∈ gtbl := (gs9 21 rfl rfl)
theorem lk_L_183 : Cond.methodLink RL 183 yX11_bestWages ∈ gtbl := (gs5 172 rfl rfl)
theorem lk_L_186 : Cond.methodLink RL 186 yX12_bestWages ∈ gtbl := (gs9 33 rfl rfl)
theorem lk_L_187 : Cond.methodLink RL 187 yX11_fewest ∈ gtbl := (gs5 177 rfl rfl)
theorem lk_L_190 : Cond.methodLink RL 190 yX12_fewest ∈ gtbl := (gs9 37 rfl rfl)
theorem lk_L_191 : Cond.methodLink RL 191 yX11_fewestSet ∈ gtbl := (gs5 197 rfl rfl)
theorem lk_L_194 : Cond.methodLink RL 194 yX12_fewestSet ∈ gtbl := (gs9 57 rfl rfl)
theorem lk_L_195 : Cond.methodLink RL 195 yX11_explained ∈ gtbl := (gs5 201 rfl rfl)
theorem lk_L_198 : Cond.methodLink RL 198 yX12_explained ∈ gtbl := (gs9 61 rfl rfl)
theorem lk_L_199 : Cond.methodLink RL 199 yX11_sure ∈ gtbl := (gs5 224 rfl rfl)
theorem lk_L_202 : Cond.methodLink RL 202 yX12_sure ∈ gtbl := (gs9 77 rfl rfl)
theorem lk_L_203 : Cond.methodLink RL 203 yX11_laws ∈ gtbl := (gs5 228 rfl rfl)
theorem lk_L_206 : Cond.methodLink RL 206 yX12_laws ∈ gtbl := (gs9 81 rfl rfl)
theorem lk_L_207 : Cond.methodLink RL 207 yX11_lawFirst ∈ gtbl := (gs6 0 rfl rfl)
theorem lk_L_210 : Cond.methodLink RL 210 yX12_lawFirst ∈ gtbl := (gs9 94 rfl rfl)
theorem lk_L_211 : Cond.methodLink RL 211 yX11_guard ∈ gtbl := (gs6 4 rfl rfl)
theorem lk_L_214 : Cond.methodLink RL 214 yX12_guard ∈ gtbl := (gs9 98 rfl rfl)
theorem lk_L_215 : Cond.methodLink RL 215 yX11_guardLeft ∈ gtbl := (gs6 19 rfl rfl)
theorem lk_L_218 : Cond.methodLink RL 218 yX12_guardLeft ∈ gtbl := (gs9 111 rfl rfl)
theorem lk_L_219 : Cond.methodLink RL 219 yX11_game ∈ gtbl := (gs6 24 rfl rfl)
theorem lk_L_22 : Cond.methodLink RL 22 yX12_top ∈ gtbl := (gs7 34 rfl rfl)
theorem lk_L_222 : Cond.methodLink RL 222 yX12_game ∈ gtbl := (gs9 115 rfl rfl)
theorem lk_L_223 : Cond.methodLink RL 223 yX11_moveOf ∈ gtbl := (gs6 49 rfl rfl)
theorem lk_L_226 : Cond.methodLink RL 226 yX12_moveOf ∈ gtbl := (gs9 132 rfl rfl)
theorem lk_L_227 : Cond.methodLink RL 227 yX11_falls ∈ gtbl := (gs6 57 rfl rfl)
theorem lk_L_23 : Cond.methodLink RL 23 yX11_bottom ∈ gtbl := (gs2 182 rfl rfl)
theorem lk_L_231 : Cond.methodLink RL 231 yX12_falls ∈ gtbl := (gs9 136 rfl rfl)
theorem lk_L_232 : Cond.methodLink RL 232 yX11_copyStanding ∈ gtbl := (gs6 72 rfl rfl)
theorem lk_L_235 : Cond.methodLink RL 235 yX12_copyStanding ∈ gtbl := (gs9 144 rfl rfl)
theorem lk_L_236 : Cond.methodLink RL 236 yX11_live ∈ gtbl := (gs6 76 rfl rfl)
theorem lk_L_239 : Cond.methodLink RL 239 yX12_live ∈ gtbl := (gs9 148 rfl rfl)
theorem lk_L_240 : Cond.methodLink RL 240 yX11_lived ∈ gtbl := (gs6 125 rfl rfl)
theorem lk_L_243 : Cond.methodLink RL 243 yX12_lived ∈ gtbl := (gs9 190 rfl rfl)
theorem lk_L_244 : Cond.methodLink RL 244 yX11_mean ∈ gtbl := (gs6 129 rfl rfl)
theorem lk_L_247 : Cond.methodLink RL 247 yX12_mean ∈ gtbl := (gs9 194 rfl rfl)
theorem lk_L_248 : Cond.methodLink RL 248 yX11_mark ∈ gtbl := (gs6 133 rfl rfl)
theorem lk_L_251 : Cond.methodLink RL 251 yX12_mark ∈ gtbl := (gs9 198 rfl rfl)
theorem lk_L_252 : Cond.methodLink RL 252 yX11_undo ∈ gtbl := (gs6 137 rfl rfl)
theorem lk_L_255 : Cond.methodLink RL 255 yX12_undo ∈ gtbl := (gs9 206 rfl rfl)
theorem lk_L_26 : Cond.methodLink RL 26 yX12_bottom ∈ gtbl := (gs7 38 rfl rfl)
theorem lk_L_27 : Cond.methodLink RL 27 yX11_tray ∈ gtbl := (gs2 186 rfl rfl)
theorem lk_L_31 : Cond.methodLink RL 31 yX12_tray ∈ gtbl := (gs7 42 rfl rfl)
theorem lk_L_34 : Cond.methodLink RL 34 yX11_write ∈ gtbl := (gs2 210 rfl rfl)
theorem lk_L_38 : Cond.methodLink RL 38 yX12_write ∈ gtbl := (gs7 53 rfl rfl)
theorem lk_L_39 : Cond.methodLink RL 39 yX11_read ∈ gtbl := (gs2 237 rfl rfl)
theorem lk_L_43 : Cond.methodLink RL 43 yX12_read ∈ gtbl := (gs7 64 rfl rfl)
theorem lk_L_44 : Cond.methodLink RL 44 yX11_pour ∈ gtbl := (gs3 10 rfl rfl)
theorem lk_L_48 : Cond.methodLink RL 48 yX12_pour ∈ gtbl := (gs7 69 rfl rfl)
theorem lk_L_49 : Cond.methodLink RL 49 yX11_feed ∈ gtbl := (gs3 26 rfl rfl)
theorem lk_L_53 : Cond.methodLink RL 53 yX12_feed ∈ gtbl := (gs7 73 rfl rfl)
theorem lk_L_54 : Cond.methodLink RL 54 yX11_city ∈ gtbl := (gs3 39 rfl rfl)
theorem lk_L_58 : Cond.methodLink RL 58 yX12_city ∈ gtbl := (gs7 85 rfl rfl)
theorem lk_L_59 : Cond.methodLink RL 59 yX11_weeks ∈ gtbl := (gs4 61 rfl rfl)
theorem lk_L_62 : Cond.methodLink RL 62 yX12_weeks ∈ gtbl := (gs7 216 rfl rfl)
theorem lk_L_63 : Cond.methodLink RL 63 yX11_fault ∈ gtbl := (gs4 104 rfl rfl)
theorem lk_L_66 : Cond.methodLink RL 66 yX12_fault ∈ gtbl := (gs7 81 rfl rfl)
theorem lk_L_67 : Cond.methodLink RL 67 yX11_told ∈ gtbl := (gs4 108 rfl rfl)
theorem lk_L_70 : Cond.methodLink RL 70 yX12_told ∈ gtbl := (gs8 0 rfl rfl)
theorem lk_L_71 : Cond.methodLink RL 71 yX11_extra ∈ gtbl := (gs4 133 rfl rfl)
theorem lk_L_75 : Cond.methodLink RL 75 yX12_extra ∈ gtbl := (gs8 28 rfl rfl)
theorem lk_L_76 : Cond.methodLink RL 76 yX11_happening ∈ gtbl := (gs4 146 rfl rfl)
theorem lk_L_79 : Cond.methodLink RL 79 yX12_happening ∈ gtbl := (gs8 36 rfl rfl)
theorem lk_L_80 : Cond.methodLink RL 80 yX11_watcher ∈ gtbl := (gs4 168 rfl rfl)
theorem lk_L_83 : Cond.methodLink RL 83 yX12_watcher ∈ gtbl := (gs8 51 rfl rfl)
theorem lk_L_84 : Cond.methodLink RL 84 yX11_standing ∈ gtbl := (gs4 176 rfl rfl)
theorem lk_L_87 : Cond.methodLink RL 87 yX12_standing ∈ gtbl := (gs8 63 rfl rfl)
theorem lk_L_88 : Cond.methodLink RL 88 yX11_road ∈ gtbl := (gs4 184 rfl rfl)
theorem lk_L_91 : Cond.methodLink RL 91 yX12_road ∈ gtbl := (gs8 71 rfl rfl)
theorem lk_L_92 : Cond.methodLink RL 92 yX11_hour ∈ gtbl := (gs4 189 rfl rfl)
theorem lk_L_95 : Cond.methodLink RL 95 yX12_hour ∈ gtbl := (gs8 116 rfl rfl)
theorem lk_L_96 : Cond.methodLink RL 96 yX11_order ∈ gtbl := (gs5 10 rfl rfl)
