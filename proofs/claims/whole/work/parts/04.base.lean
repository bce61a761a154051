theorem gs1 {w : Cond} (i : Nat) (h : tables_1_1[i]? = some w) (g : goodWord w = true) : w ∈ gtbl := by
  have h := List.mem_of_getElem? h
  exact List.mem_filter.mpr ⟨List.mem_append_right _ (List.mem_append_left _ h), g⟩
theorem gs2 {w : Cond} (i : Nat) (h : tables_1_2[i]? = some w) (g : goodWord w = true) : w ∈ gtbl := by
  have h := List.mem_of_getElem? h
  exact List.mem_filter.mpr ⟨List.mem_append_right _ (List.mem_append_right _ (List.mem_append_left _ h)), g⟩
theorem gs3 {w : Cond} (i : Nat) (h : tables_1_3[i]? = some w) (g : goodWord w = true) : w ∈ gtbl := by
  have h := List.mem_of_getElem? h
  exact List.mem_filter.mpr ⟨List.mem_append_right _ (List.mem_append_right _ (List.mem_append_right _ (List.mem_append_left _ h))), g⟩
theorem gs4 {w : Cond} (i : Nat) (h : tables_1_4[i]? = some w) (g : goodWord w = true) : w ∈ gtbl := by
  have h := List.mem_of_getElem? h
  exact List.mem_filter.mpr ⟨List.mem_append_right _ (List.mem_append_right _ (List.mem_append_right _ (List.mem_append_right _ (List.mem_append_left _ h)))), g⟩
theorem gs5 {w : Cond} (i : Nat) (h : tables_1_5[i]? = some w) (g : goodWord w = true) : w ∈ gtbl := by
  have h := List.mem_of_getElem? h
  exact List.mem_filter.mpr ⟨List.mem_append_right _ (List.mem_append_right _ (List.mem_append_right _ (List.mem_append_right _ (List.mem_append_right _ (List.mem_append_left _ h))))), g⟩
theorem gs6 {w : Cond} (i : Nat) (h : tables_1_6[i]? = some w) (g : goodWord w = true) : w ∈ gtbl := by
  have h := List.mem_of_getElem? h
  exact List.mem_filter.mpr ⟨List.mem_append_right _ (List.mem_append_right _ (List.mem_append_right _ (List.mem_append_right _ (List.mem_append_right _ (List.mem_append_right _ (List.mem_append_left _ h)))))), g⟩
theorem gs7 {w : Cond} (i : Nat) (h : tables_1_7[i]? = some w) (g : goodWord w = true) : w ∈ gtbl := by
  have h := List.mem_of_getElem? h
  exact List.mem_filter.mpr ⟨List.mem_append_right _ (List.mem_append_right _ (List.mem_append_right _ (List.mem_append_right _ (List.mem_append_right _ (List.mem_append_right _ (List.mem_append_right _ (List.mem_append_left _ h))))))), g⟩
theorem gs8 {w : Cond} (i : Nat) (h : tables_1_8[i]? = some w) (g : goodWord w = true) : w ∈ gtbl := by
  have h := List.mem_of_getElem? h
  exact List.mem_filter.mpr ⟨List.mem_append_right _ (List.mem_append_right _ (List.mem_append_right _ (List.mem_append_right _ (List.mem_append_right _ (List.mem_append_right _ (List.mem_append_right _ (List.mem_append_right _ (List.mem_append_left _ h)))))))), g⟩
theorem gs9 {w : Cond} (i : Nat) (h : tables_1_9[i]? = some w) (g : goodWord w = true) : w ∈ gtbl := by
  have h := List.mem_of_getElem? h
  exact List.mem_filter.mpr ⟨List.mem_append_right _ (List.mem_append_right _ (List.mem_append_right _ (List.mem_append_right _ (List.mem_append_right _ (List.mem_append_right _ (List.mem_append_right _ (List.mem_append_right _ (List.mem_append_right _ h)))))))), g⟩
theorem gp1 {y : MethodName} {n : Nat} (i : Nat) (h : lw_privs_1[i]? = some (y, n)) : Cond.selects y.cls y y ∈ gtbl := by
  have h := List.mem_of_getElem? h
  exact List.mem_filter.mpr ⟨List.mem_append_left _ (List.mem_map.mpr ⟨(y, n), (List.mem_append_left _ h), rfl⟩), rfl⟩
theorem gp2 {y : MethodName} {n : Nat} (i : Nat) (h : lw_privs_2[i]? = some (y, n)) : Cond.selects y.cls y y ∈ gtbl := by
  have h := List.mem_of_getElem? h
  exact List.mem_filter.mpr ⟨List.mem_append_left _ (List.mem_map.mpr ⟨(y, n), (List.mem_append_right _ (List.mem_append_left _ h)), rfl⟩), rfl⟩
theorem gp3 {y : MethodName} {n : Nat} (i : Nat) (h : lw_privs_3[i]? = some (y, n)) : Cond.selects y.cls y y ∈ gtbl := by
  have h := List.mem_of_getElem? h
  exact List.mem_filter.mpr ⟨List.mem_append_left _ (List.mem_map.mpr ⟨(y, n), (List.mem_append_right _ (List.mem_append_right _ (List.mem_append_left _ h))), rfl⟩), rfl⟩
theorem gp4 {y : MethodName} {n : Nat} (i : Nat) (h : lw_privs_4[i]? = some (y, n)) : Cond.selects y.cls y y ∈ gtbl := by
  have h := List.mem_of_getElem? h
  exact List.mem_filter.mpr ⟨List.mem_append_left _ (List.mem_map.mpr ⟨(y, n), (List.mem_append_right _ (List.mem_append_right _ (List.mem_append_right _ (List.mem_append_left _ h)))), rfl⟩), rfl⟩
theorem gp5 {y : MethodName} {n : Nat} (i : Nat) (h : lw_privs_5[i]? = some (y, n)) : Cond.selects y.cls y y ∈ gtbl := by
  have h := List.mem_of_getElem? h
  exact List.mem_filter.mpr ⟨List.mem_append_left _ (List.mem_map.mpr ⟨(y, n), (List.mem_append_right _ (List.mem_append_right _ (List.mem_append_right _ (List.mem_append_right _ (List.mem_append_left _ h))))), rfl⟩), rfl⟩
theorem gp6 {y : MethodName} {n : Nat} (i : Nat) (h : lw_privs_6[i]? = some (y, n)) : Cond.selects y.cls y y ∈ gtbl := by
  have h := List.mem_of_getElem? h
  exact List.mem_filter.mpr ⟨List.mem_append_left _ (List.mem_map.mpr ⟨(y, n), (List.mem_append_right _ (List.mem_append_right _ (List.mem_append_right _ (List.mem_append_right _ (List.mem_append_right _ (List.mem_append_left _ h)))))), rfl⟩), rfl⟩
theorem gp7 {y : MethodName} {n : Nat} (i : Nat) (h : lw_privs_7[i]? = some (y, n)) : Cond.selects y.cls y y ∈ gtbl := by
  have h := List.mem_of_getElem? h
  exact List.mem_filter.mpr ⟨List.mem_append_left _ (List.mem_map.mpr ⟨(y, n), (List.mem_append_right _ (List.mem_append_right _ (List.mem_append_right _ (List.mem_append_right _ (List.mem_append_right _ (List.mem_append_right _ (List.mem_append_left _ h))))))), rfl⟩), rfl⟩
theorem gp8 {y : MethodName} {n : Nat} (i : Nat) (h : lw_privs_8[i]? = some (y, n)) : Cond.selects y.cls y y ∈ gtbl := by
  have h := List.mem_of_getElem? h
  exact List.mem_filter.mpr ⟨List.mem_append_left _ (List.mem_map.mpr ⟨(y, n), (List.mem_append_right _ (List.mem_append_right _ (List.mem_append_right _ (List.mem_append_right _ (List.mem_append_right _ (List.mem_append_right _ (List.mem_append_right _ (List.mem_append_left _ h)))))))), rfl⟩), rfl⟩
theorem gp9 {y : MethodName} {n : Nat} (i : Nat) (h : lw_privs_9[i]? = some (y, n)) : Cond.selects y.cls y y ∈ gtbl := by
  have h := List.mem_of_getElem? h
  exact List.mem_filter.mpr ⟨List.mem_append_left _ (List.mem_map.mpr ⟨(y, n), (List.mem_append_right _ (List.mem_append_right _ (List.mem_append_right _ (List.mem_append_right _ (List.mem_append_right _ (List.mem_append_right _ (List.mem_append_right _ (List.mem_append_right _ (List.mem_append_left _ h))))))))), rfl⟩), rfl⟩
theorem gp10 {y : MethodName} {n : Nat} (i : Nat) (h : lw_privs_10[i]? = some (y, n)) : Cond.selects y.cls y y ∈ gtbl := by
  have h := List.mem_of_getElem? h
  exact List.mem_filter.mpr ⟨List.mem_append_left _ (List.mem_map.mpr ⟨(y, n), (List.mem_append_right _ (List.mem_append_right _ (List.mem_append_right _ (List.mem_append_right _ (List.mem_append_right _ (List.mem_append_right _ (List.mem_append_right _ (List.mem_append_right _ (List.mem_append_right _ h))))))))), rfl⟩), rfl⟩
/-! ===== BASE: loops as a function, contracts of one shape, rows for calls and ends ===== -/
def iter {σ ε : Type} (b : σ → Option (σ ⊕ ε)) : Nat → σ → Option ε
  | 0, _ => none
  | k + 1, s => match b s with
    | none => none
    | some (.inl s') => iter b k s'
    | some (.inr e) => some e
theorem iter_W {σ ε : Type} {b : σ → Option (σ ⊕ ε)} {P : σ → Prop} {G : ε → Prop}
    (hb : ∀ (st : σ) (r : σ ⊕ ε), b st = some r → (∀ s', r = .inl s' → P s') → (∀ e, r = .inr e → G e) → P st) :
    ∀ (k : Nat) (st : σ) (ex : ε), iter b k st = some ex → G ex → P st := by
  intro k
  induction k with
  | zero => intro st ex h; cases h
  | succ k ih =>
    intro st ex h hG
    unfold iter at h
    cases hr : b st with
    | none => rw [hr] at h; cases h
    | some r =>
      rw [hr] at h
      refine hb st r hr ?_ ?_
      · intro s' e; subst e; exact ih s' ex h hG
      · intro e' e; subst e; cases h; exact hG
theorem bd {α β : Type} {o : Option α} {f : α → Option β} {r : β} (h : o.bind f = some r) : ∃ u, o = some u ∧ f u = some r := by
  cases o with
  | none => cases h
  | some u => exact ⟨u, rfl, h⟩
theorem it_t {c : Prop} [Decidable c] {α : Sort _} {a b r : α} (h : c) (hf : ite c a b = r) : a = r := by rw [if_pos h] at hf; exact hf
theorem it_f {c : Prop} [Decidable c] {α : Sort _} {a b r : α} (h : ¬ c) (hf : ite c a b = r) : b = r := by rw [if_neg h] at hf; exact hf
theorem ck {c : Prop} [Decidable c] {α : Type} {a : Option α} {r : α} (hf : (if c then a else none) = some r) : c ∧ a = some r := by
  by_cases h : c
  · exact ⟨h, it_t h hf⟩
  · cases it_f h hf
def ix (i : Int32) (n : Nat) : Bool := decide (0 ≤ i) && decide (i.toNatClampNeg < n)
theorem ix_in {i : Int32} {n : Nat} (h : ix i n = true) : vp_in i n := by
  simp only [ix, Bool.and_eq_true, decide_eq_true_eq] at h
  rintro (q | q)
  · exact absurd h.1 (Int32.not_le.mpr q)
  · exact absurd h.2 (Nat.not_lt.mpr q)
def jshl (x y : Int32) : Int32 := x <<< (y &&& 31)
def jshr (x y : Int32) : Int32 := x >>> (y &&& 31)
def jushr (x y : Int32) : Int32 := (x.toUInt32 >>> (y.toUInt32 &&& Int32.toUInt32 31)).toInt32
def jrem (x y : Int32) : Int32 := x - x / y * y
def jrem64 (x y : Int64) : Int64 := x - x / y * y
def jshl64 (x : Int64) (y : Int32) : Int64 := x <<< (y.toInt64 &&& 63)
def jbyte (x : Int32) : Int32 := x.toInt8.toInt32
def jshort (x : Int32) : Int32 := x.toInt16.toInt32
def jchar (x : Int32) : Int32 := (x.toUInt32 % 65536).toInt32
def jat {α : Type} (f : Nat → α) (i : Int32) : α := f i.toNatClampNeg
def jput (f : Nat → Int32) (i x : Int32) : Nat → Int32 := upd f i.toNatClampNeg x
def jputL (f : Nat → Int64) (i : Int32) (x : Int64) : Nat → Int64 := vp_updL f i.toNatClampNeg x
def jputB (f : Nat → Int32) (i x : Int32) : Nat → Int32 := upd f i.toNatClampNeg (vp_nar .byte x)
def jputZ (f : Nat → Int32) (i x : Int32) : Nat → Int32 := upd f i.toNatClampNeg (vp_nar .boolean x)
theorem se_l {α β γ : Type} {f : α → γ} {g : β → γ} {a : α} {r : γ} (hf : Sum.elim f g (Sum.inl a) = r) : f a = r := hf
theorem se_r {α β γ : Type} {f : α → γ} {g : β → γ} {a : β} {r : γ} (hf : Sum.elim f g (Sum.inr a) = r) : g a = r := hf
def cpok (sp dp n : Int32) (n0 n1 : Nat) : Bool := decide (¬ sp < 0) && (decide (¬ dp < 0) && (decide (¬ n < 0) && (decide (sp.toNatClampNeg + n.toNatClampNeg ≤ n0) && decide (dp.toNatClampNeg + n.toNatClampNeg ≤ n1))))
def jcpy (f g : Nat → Int32) (sp dp n : Int32) : Nat → Int32 := va_cpy f g sp.toNatClampNeg dp.toNatClampNeg n.toNatClampNeg
def jcpyL (f g : Nat → Int64) (sp dp n : Int32) : Nat → Int64 := va_cpy f g sp.toNatClampNeg dp.toNatClampNeg n.toNatClampNeg
theorem cpok_s {sp dp n : Int32} {n0 n1 : Nat} (h : cpok sp dp n n0 n1 = true) : ¬ sp < 0 ∧ ¬ dp < 0 ∧ ¬ n < 0 ∧ sp.toNatClampNeg + n.toNatClampNeg ≤ n0 ∧ dp.toNatClampNeg + n.toNatClampNeg ≤ n1 := by
  simpa only [cpok, Bool.and_eq_true, decide_eq_true_eq] using h
def jmax (x y : Int32) : Int32 := if x < y then y else x
def jmin (x y : Int32) : Int32 := if y < x then y else x
def mk3 (a b c : Nat) : Nat → Option Nat := va_up (va_up (va_up (fun _ => none) 0 (some a)) 1 (some b)) 2 (some c)
abbrev vS : Type := (Nat → Int32) × (Nat → Int64) × (Nat → Nat → Int32) × (Nat → Nat → Int64)
def mkS (a : List Int32) (b : List Int64) (c : List (Nat → Int32)) (d : List (Nat → Int64)) : vS := (fun k => a.getD k 0, fun k => b.getD k 0, fun k => c.getD k (fun _ => 0), fun k => d.getD k (fun _ => 0))
def isZ (v : Int32) : Bool := decide (v = 0) || decide (v = 1)
theorem isZ_n {v : Int32} (h : isZ v = true) : narrow .boolean (.int v) = .int v := by
  simp only [isZ, Bool.or_eq_true, decide_eq_true_eq] at h
  rcases h with rfl | rfl <;> rfl
theorem isZ_f {v : Int32} (h : isZ v = true) : fits .boolean (.int v) = true := by
  simp only [isZ, Bool.or_eq_true, decide_eq_true_eq] at h
  rcases h with rfl | rfl <;> rfl
/-! contracts -/
abbrev vE : Type := va_G × ClassId × ClassId × ClassId × ClassId × ClassId × (Nat → Nat) × (Nat → Nat)
abbrev tyE (E : vE) : List (ClassId × FieldType) := [(E.2.1, .int), (E.2.2.1, .long), (E.2.2.2.1, .byte), (E.2.2.2.2.1, .boolean), (E.2.2.2.2.2.1, .object "ExtraCaste$City")]
def rmd (d : Nat) : Room := { frames := d, cells := 0, slots := 0, locals := 64 * d }
def tx0 : String := "wage delay odds corner road takes extra at happening hour great watcher fears roster order put any when is stands over warned loop end stop "
def tx1 : String := " wage delay odds corner road extra happening watcher roster takes at hour great fears order put any when loop end stop is stands over warned "
def bys : List (List Int32) := [[119, 97, 103, 101, 32, 100, 101, 108, 97, 121, 32, 111, 100, 100, 115, 32, 99, 111, 114, 110, 101, 114, 32, 114, 111, 97, 100, 32, 116, 97, 107, 101, 115, 32, 101, 120, 116, 114, 97, 32, 97, 116, 32, 104, 97, 112, 112, 101, 110, 105, 110, 103, 32, 104, 111, 117, 114, 32, 103, 114, 101, 97, 116, 32, 119, 97, 116, 99, 104, 101, 114, 32, 102, 101, 97, 114, 115, 32, 114, 111, 115, 116, 101, 114, 32, 111, 114, 100, 101, 114, 32, 112, 117, 116, 32, 97, 110, 121, 32, 119, 104, 101, 110, 32, 105, 115, 32, 115, 116, 97, 110, 100, 115, 32, 111, 118, 101, 114, 32, 119, 97, 114, 110, 101, 100, 32, 108, 111, 111, 112, 32, 101, 110, 100, 32, 115, 116, 111, 112, 32], [32, 119, 97, 103, 101, 32, 100, 101, 108, 97, 121, 32, 111, 100, 100, 115, 32, 99, 111, 114, 110, 101, 114, 32, 114, 111, 97, 100, 32, 101, 120, 116, 114, 97, 32, 104, 97, 112, 112, 101, 110, 105, 110, 103, 32, 119, 97, 116, 99, 104, 101, 114, 32, 114, 111, 115, 116, 101, 114, 32, 116, 97, 107, 101, 115, 32, 97, 116, 32, 104, 111, 117, 114, 32, 103, 114, 101, 97, 116, 32, 102, 101, 97, 114, 115, 32, 111, 114, 100, 101, 114, 32, 112, 117, 116, 32, 97, 110, 121, 32, 119, 104, 101, 110, 32, 108, 111, 111, 112, 32, 101, 110, 100, 32, 115, 116, 111, 112, 32, 105, 115, 32, 115, 116, 97, 110, 100, 115, 32, 111, 118, 101, 114, 32, 119, 97, 114, 110, 101, 100, 32]]
def lns : List Nat := [140, 141]
def nkl : List (String × Nat × MethodName) := [(RX0, 11, yX6_init), (RX0, 20, yX3_init), (RX11, 25, yX8_init), (RX11, 55, yX4_init), (RX11, 62, yX5_init), (RX11, 69, yX2_init)]
def NX (U : State) : Prop := va_AO "ExtraCaste$City" U ∧ ∀ q ∈ nkl, va_Nw (.methodLinkNest q.1 q.2.1 q.2.2 "ExtraCaste") U
theorem NX.warm {s U : State} (hW : s.WarmedH U.vm) (h : NX s) : NX U := ⟨va_AO.moved hW.alike h.1, fun q hq => va_Nw.warmM hW (h.2 q hq)⟩
theorem NX.same {u U : State} (hv : U.vm = u.vm) (h : NX u) : NX U := ⟨va_AO.moved (by rw [hv]; exact Vm.Alike.refl u.vm) h.1, fun q hq => va_Nw.same rfl hv.symm (h.2 q hq)⟩
/-- the two texts, and what the JDK's text members read -/
def SX (E : vE) (A : Nat → Prop) (U : State) (H : Heap) : Prop :=
  vk_S 2 lns bys E.2.2.2.2.2.2.1 E.2.2.2.2.2.2.2 A U H ∧ va_Z "java/lang/String" "COMPACT_STRINGS" "Z" (.int 1) A U H ∧ va_Zq "jdk/internal/util/Preconditions" "SIOOBE_FORMATTER" "Ljava/util/function/BiFunction;" A U H ∧ vk_R RX8 84 tx0 (E.2.2.2.2.2.2.1 0) U ∧ vk_R RX12 181 tx1 (E.2.2.2.2.2.2.1 1) U ∧ NX U
theorem SX.narrow {E : vE} {A B : Nat → Prop} {U : State} {H : Heap} (h : SX E A U H) (hAB : ∀ q, B q → A q) : SX E B U H := by
  obtain ⟨h1, h2, h3, h4⟩ := h
  exact ⟨h1.narrow hAB, h2.narrow hAB, h3.narrow hAB, h4⟩
theorem SX.kept {E : vE} {A : Nat → Prop} {U : State} {H H1 : Heap} (h : SX E A U H) (hq : ∀ a : Nat, a < H.size → ¬ A a → H1[a]? = H[a]?) : SX E A U H1 := by
  obtain ⟨h1, h2, h3, h4⟩ := h
  exact ⟨h1.kept hq, h2.kept hq, h3.kept hq, h4⟩
theorem SX.warm {E : vE} {A : Nat → Prop} {s U : State} {H : Heap} (hW : s.WarmedH U.vm) (h : SX E A s H) : SX E A U H := by
  obtain ⟨h1, h2, h3, h4, h5, h6⟩ := h
  exact ⟨vk_S.moved hW.alike h1, va_Z.moved hW.alike h2, va_Zq.moved hW.alike h3, vk_R.warm hW h4, vk_R.warm hW h5, NX.warm hW h6⟩
theorem SX.same {E : vE} {A : Nat → Prop} {u U : State} {H : Heap} (hv : U.vm = u.vm) (h : SX E A u H) : SX E A U H := by
  obtain ⟨h1, h2, h3, h4, h5, h6⟩ := h
  have ha : u.vm.Alike U.vm := by rw [hv]; exact Vm.Alike.refl u.vm
  exact ⟨vk_S.moved ha h1, va_Z.moved ha h2, va_Zq.moved ha h3, vk_R.same hv h4, vk_R.same hv h5, NX.same hv h6⟩
def PreB (E : vE) (ws : va_W) (sz : Nat) (U : State) : Prop := U.heap.size = sz ∧ va_P E.1 vwCl ws U.heap ∧ va_K E.1 vwCl (tyE E) U ∧ va_D (fun _ => True) ws ∧ SX E (va_A ws sz) U U.heap
def PoB (E : vE) (A : Nat → Prop) (ws' : va_W) : Unit → State → Prop := fun _ t => va_P E.1 vwCl ws' t.heap ∧ va_K E.1 vwCl (tyE E) t ∧ va_D A ws'
def QcI (E : vE) (ws' : va_W) (v : Int32) (A : Nat → Prop) : Array Value → State → Outcome → State → Prop := va_Qi (fun (r : Int32) (_ : Unit) => r = v) (PoB E A ws') A
def QcL (E : vE) (ws' : va_W) (v : Int64) (A : Nat → Prop) : Array Value → State → Outcome → State → Prop := va_Ql (fun (r : Int64) (_ : Unit) => r = v) (PoB E A ws') A
def QcV (E : vE) (ws' : va_W) (A : Nat → Prop) : Array Value → State → Outcome → State → Prop := va_Qv (fun (_ : Unit) => True) (PoB E A ws') A
def CtI (l : Launch) (y : MethodName) (c : ByteArray) (n : Nat) (r : Option FieldType) (d : Nat) (E : vE) (av : List Value) (ws ws' : va_W) (v : Int32) : Prop :=
  ∀ sz : Nat, Met l y (.code y c n r :: gtbl) (rmd d) (va_Pc av (PreB E ws sz)) (QcI E ws' v (va_A ws sz)) 0 0 (va_A ws sz)
def CtL (l : Launch) (y : MethodName) (c : ByteArray) (n : Nat) (r : Option FieldType) (d : Nat) (E : vE) (av : List Value) (ws ws' : va_W) (v : Int64) : Prop :=
  ∀ sz : Nat, Met l y (.code y c n r :: gtbl) (rmd d) (va_Pc av (PreB E ws sz)) (QcL E ws' v (va_A ws sz)) 0 0 (va_A ws sz)
def CtV (l : Launch) (y : MethodName) (c : ByteArray) (n : Nat) (r : Option FieldType) (d : Nat) (E : vE) (av : List Value) (ws ws' : va_W) : Prop :=
  ∀ sz : Nat, Met l y (.code y c n r :: gtbl) (rmd d) (va_Pc av (PreB E ws sz)) (QcV E ws' (va_A ws sz)) 0 0 (va_A ws sz)
def Cx (p : Program) (s : State) (m : MethodId) (args : Array Value) (meth : Method) (c : Code) (cc : ByteArray) (own : String) (nL : Nat) (rt : Option FieldType) (E : vE) (A : Nat → Prop) : Prop :=
  CallFix p m c cc nL s args gtbl own ∧ meth.sig.returnType = rt ∧ meth.locks = false ∧ va_K E.1 vwCl (tyE E) s ∧ (∀ q : Nat, s.heap.size ≤ q → A q) ∧ SX E A s s.heap
theorem ctStart {l : Launch} {y : MethodName} {c : ByteArray} {n : Nat} {r : Option FieldType} {d : Nat} {E : vE} {av : List Value} {ws : va_W} {Q : (Nat → Prop) → Array Value → State → Outcome → State → Prop}
    (hy : plainName y.cls = true) (hn : (lg_sl av).length ≤ n)
    (body : ∀ (p : Program) (e : Env) (s : State) (m : MethodId) (below : List Frame) (meth : Method) (cd : Code) (A : Nat → Prop) (ls : Array Slot), Cx p s m av.toArray meth cd c y.cls n r E A → va_P E.1 vwCl ws s.heap → va_D A ws → va_S A s.heap s.heap [] → lv_has ls n (lv_args 0 av) →
      W p l e (rmd d) s m av.toArray below meth cd s.heap [] 0 0 (MQ below (Q A) av.toArray s 0 0 A) (F0 m 0 ls [])) :
    ∀ sz : Nat, Met l y (.code y c n r :: gtbl) (rmd d) (va_Pc av (PreB E ws sz)) (Q (va_A ws sz)) 0 0 (va_A ws sz) := by
  intro sz
  refine Met.ofW (cc := c) (maxL := n) (ret := r) hy rfl ?_
  intro p e s m args below meth cd s₁ B hml hv
  obtain ⟨rfl, hsz, hP, hK, hD0, hSX⟩ := hv
  have hts := atoms_spec (ws := .code y c n r :: gtbl) B.pre
  have hown : s.vm.findClass y.cls = some m.cls := findClass_of_methodNamed B.named
  subst hsz
  have hD := hD0.self (sz := s.heap.size)
  have hl := lv_entry av (n := n) hn
  rw [lg_entry_eq]
  exact body p e s m below meth cd (va_A ws s.heap.size) _ ⟨⟨B.exec, B.bytes, hml, hown, fun w h => hts w (List.mem_cons_of_mem _ h)⟩, B.returns, B.notSynchronized, hK, fun q h => Or.inr h, hSX⟩ hP hD va_S.rf hl
theorem ctI {l : Launch} {y : MethodName} {c : ByteArray} {n : Nat} {r : Option FieldType} {d : Nat} {E : vE} {av : List Value} {ws ws' : va_W} {v : Int32} (hy : plainName y.cls = true) (hn : (lg_sl av).length ≤ n)
    (body : ∀ (p : Program) (e : Env) (s : State) (m : MethodId) (below : List Frame) (meth : Method) (cd : Code) (A : Nat → Prop) (ls : Array Slot) (aa : Array Value) (QQ : State → Prop), QQ = MQ below (QcI E ws' v A) aa s 0 0 A → Cx p s m aa meth cd c y.cls n r E A → va_P E.1 vwCl ws s.heap → va_D A ws → va_S A s.heap s.heap [] → lv_has ls n (lv_args 0 av) →
      W p l e (rmd d) s m aa below meth cd s.heap [] 0 0 QQ (F0 m 0 ls [])) : CtI l y c n r d E av ws ws' v :=
  ctStart (Q := QcI E ws' v) hy hn (fun p e s m below meth cd A ls cx hP hD hS hl => body p e s m below meth cd A ls _ _ rfl cx hP hD hS hl)
theorem ctL {l : Launch} {y : MethodName} {c : ByteArray} {n : Nat} {r : Option FieldType} {d : Nat} {E : vE} {av : List Value} {ws ws' : va_W} {v : Int64} (hy : plainName y.cls = true) (hn : (lg_sl av).length ≤ n)
    (body : ∀ (p : Program) (e : Env) (s : State) (m : MethodId) (below : List Frame) (meth : Method) (cd : Code) (A : Nat → Prop) (ls : Array Slot) (aa : Array Value) (QQ : State → Prop), QQ = MQ below (QcL E ws' v A) aa s 0 0 A → Cx p s m aa meth cd c y.cls n r E A → va_P E.1 vwCl ws s.heap → va_D A ws → va_S A s.heap s.heap [] → lv_has ls n (lv_args 0 av) →
      W p l e (rmd d) s m aa below meth cd s.heap [] 0 0 QQ (F0 m 0 ls [])) : CtL l y c n r d E av ws ws' v :=
  ctStart (Q := QcL E ws' v) hy hn (fun p e s m below meth cd A ls cx hP hD hS hl => body p e s m below meth cd A ls _ _ rfl cx hP hD hS hl)
theorem ctV {l : Launch} {y : MethodName} {c : ByteArray} {n : Nat} {r : Option FieldType} {d : Nat} {E : vE} {av : List Value} {ws ws' : va_W} (hy : plainName y.cls = true) (hn : (lg_sl av).length ≤ n)
    (body : ∀ (p : Program) (e : Env) (s : State) (m : MethodId) (below : List Frame) (meth : Method) (cd : Code) (A : Nat → Prop) (ls : Array Slot) (aa : Array Value) (QQ : State → Prop), QQ = MQ below (QcV E ws' A) aa s 0 0 A → Cx p s m aa meth cd c y.cls n r E A → va_P E.1 vwCl ws s.heap → va_D A ws → va_S A s.heap s.heap [] → lv_has ls n (lv_args 0 av) →
      W p l e (rmd d) s m aa below meth cd s.heap [] 0 0 QQ (F0 m 0 ls [])) : CtV l y c n r d E av ws ws' :=
  ctStart (Q := QcV E ws') hy hn (fun p e s m below meth cd A ls cx hP hD hS hl => body p e s m below meth cd A ls _ _ rfl cx hP hD hS hl)
section Rows
variable {p : Program} {l : Launch} {e : Env} {R : Room} {s : State} {m : MethodId} {args : Array Value} {below : List Frame} {meth : Method} {c : Code} {H : Heap} {locs : List Loc} {Q : State → Prop}
variable {cc : ByteArray} {own : String} {nL pc : Nat} {E : vE} {A : Nat → Prop} {ls : Array Slot} {rest : List Value}
theorem retI {ws' : va_W} {v : Int32} (cx : Cx p s m args meth c cc own nL (some .int) E A) (hP : va_P E.1 vwCl ws' H) (hD : va_D A ws') (hS : va_S A s.heap H locs) (hdg : decode cc pc = .ok (.ireturn, 1)) :
    W p l e R s m args below meth c H locs 0 0 (MQ below (QcI E ws' v A) args s 0 0 A) (F0 m pc ls [.int v]) := by
  obtain ⟨⟨hx, hb, -, -, -⟩, hr, hlocks, hK, -, -⟩ := cx
  exact W.iret hx hb hr (fun t ht hW => ⟨⟨v, (), rfl, rfl, by rw [ht]; exact hP, va_K.moved hW.alike hK, hD⟩, hS.F ht⟩) hS.2.2 hdg hlocks
theorem retZ {ws' : va_W} {v : Int32} (cx : Cx p s m args meth c cc own nL (some .boolean) E A) (hz : isZ v = true) (hP : va_P E.1 vwCl ws' H) (hD : va_D A ws') (hS : va_S A s.heap H locs) (hdg : decode cc pc = .ok (.ireturn, 1)) :
    W p l e R s m args below meth c H locs 0 0 (MQ below (QcI E ws' v A) args s 0 0 A) (F0 m pc ls [.int v]) := by
  obtain ⟨⟨hx, hb, -, -, -⟩, hr, hlocks, hK, -, -⟩ := cx
  exact W.zret hx hb hr (isZ_n hz) (fun t ht hW => ⟨⟨v, (), rfl, rfl, by rw [ht]; exact hP, va_K.moved hW.alike hK, hD⟩, hS.F ht⟩) hS.2.2 hdg hlocks
theorem retT {ty : FieldType} {ws' : va_W} {v : Int32} (cx : Cx p s m args meth c cc own nL (some ty) E A) (hz : narrow ty (.int v) = .int v) (hP : va_P E.1 vwCl ws' H) (hD : va_D A ws') (hS : va_S A s.heap H locs) (hdg : decode cc pc = .ok (.ireturn, 1)) :
    W p l e R s m args below meth c H locs 0 0 (MQ below (QcI E ws' v A) args s 0 0 A) (F0 m pc ls [.int v]) := by
  obtain ⟨⟨hx, hb, -, -, -⟩, hr, hlocks, hK, -, -⟩ := cx
  exact W.zret hx hb hr hz (fun t ht hW => ⟨⟨v, (), rfl, rfl, by rw [ht]; exact hP, va_K.moved hW.alike hK, hD⟩, hS.F ht⟩) hS.2.2 hdg hlocks
theorem retL {ws' : va_W} {v : Int64} (cx : Cx p s m args meth c cc own nL (some .long) E A) (hP : va_P E.1 vwCl ws' H) (hD : va_D A ws') (hS : va_S A s.heap H locs) (hdg : decode cc pc = .ok (.lreturn, 1)) :
    W p l e R s m args below meth c H locs 0 0 (MQ below (QcL E ws' v A) args s 0 0 A) (F0 m pc ls [.long v]) := by
  obtain ⟨⟨hx, hb, -, -, -⟩, hr, hlocks, hK, -, -⟩ := cx
  exact W.lret hx hb hr (fun t ht hW => ⟨⟨v, (), rfl, rfl, by rw [ht]; exact hP, va_K.moved hW.alike hK, hD⟩, hS.F ht⟩) hS.2.2 hdg hlocks
theorem retV {ws' : va_W} (cx : Cx p s m args meth c cc own nL none E A) (hP : va_P E.1 vwCl ws' H) (hD : va_D A ws') (hS : va_S A s.heap H locs) (hdg : decode cc pc = .ok (.return_, 1)) :
    W p l e R s m args below meth c H locs 0 0 (MQ below (QcV E ws' A) args s 0 0 A) (F0 m pc ls []) := by
  obtain ⟨⟨hx, hb, -, -, -⟩, hr, hlocks, hK, -, -⟩ := cx
  exact W.vret hx hb hr (fun t ht hW => ⟨⟨(), rfl, trivial, by rw [ht]; exact hP, va_K.moved hW.alike hK, hD⟩, hS.F ht⟩) hS.2.2 hdg hlocks
/-- what is known of a method that is called: its words, its name -/
def Cal (y : MethodName) (c : ByteArray) (n : Nat) (r : Option FieldType) (k : Nat) : Prop :=
  Cond.code y c n r ∈ gtbl ∧ Cond.initialized y.cls ∈ gtbl ∧ y.cls ≠ "java/lang/invoke/MethodHandle" ∧ y.cls ≠ "java/lang/invoke/VarHandle" ∧ (parseMethodDescriptor y.desc).map (fun d => d.parameters.length) = some k
def CalV (y : MethodName) : Prop := Cond.instanceMethod y ∈ gtbl ∧ Cond.selects y.cls y y ∈ gtbl
theorem PreB_blind {av : List Value} {ws : va_W} {sz : Nat} : FrameBlind (va_Pc av (PreB E ws sz)) := fun a U g mk q => by
  obtain ⟨q0, q1, qP, qK, qD, qS⟩ := q
  exact ⟨q0, q1, qP, va_K.moved (u := U) (U := U.calling g mk a) (Vm.Alike.refl U.vm) qK, qD, SX.same (u := U) rfl qS⟩
theorem callB' {y : MethodName} {bytes : ByteArray} {maxL d n index : Nat} {ret : Option FieldType} {rt : Option FieldType} (cx : Cx p s m args meth c cc own nL rt E A) (hc : Cal y bytes maxL ret n) (hlk : Cond.methodLink own index y ∈ gtbl) (hR : d + 1 ≤ R.frames ∧ 8 + (maxL + 11) + 64 * d ≤ R.locals) :
    CallB R s args own index y bytes maxL ret (.code y bytes maxL ret :: gtbl) (rmd d) 0 0 n := by
  obtain ⟨⟨hx, hb, hml, hown, hts⟩, hr, hlocks, hK, hA, hX⟩ := cx
  obtain ⟨h1, h2, h3, h4, h5⟩ := hc
  exact callB_of n hts (gt_good h1) rfl rfl rfl (hts _ h2) (hts _ hlk) ⟨h3, h4, h5⟩ hR
def idx : List Nat → Nat → Option Nat
  | [], _ => none
  | a :: l, k => if a = k then some 0 else (idx l k).map (· + 1)
theorem idx_some : ∀ {l : List Nat} {k j : Nat}, idx l k = some j → l[j]? = some k
  | [], _, _, h => by simp [idx] at h
  | a :: l, k, j, h => by
    simp only [idx] at h
    by_cases e : a = k
    · rw [if_pos e] at h; cases h; simp [e]
    · rw [if_neg e] at h
      cases hj : idx l k with
      | none => rw [hj] at h; cases h
      | some i => rw [hj] at h; cases h; simpa using idx_some hj
theorem idx_none : ∀ {l : List Nat} {k : Nat}, idx l k = none → k ∉ l
  | [], _, _ => List.not_mem_nil
  | a :: l, k, h => by
    simp only [idx] at h
    by_cases e : a = k
    · rw [if_pos e] at h; cases h
    · rw [if_neg e] at h
      cases hj : idx l k with
      | none => exact fun hm => (List.mem_cons.mp hm).elim (fun z => e z.symm) (idx_none hj)
      | some i => rw [hj] at h; cases h
/-- the world with the callee's cells put in: by a list that says for each cell whose it is -/
def mix : va_W → List (Option Nat) → va_W → va_W
  | [], _, _ => []
  | ws, [], _ => ws
  | w :: ws, none :: ps, wc => w :: mix ws ps wc
  | w :: ws, some j :: ps, wc => ((wc[j]?).getD w) :: mix ws ps wc
theorem mix_get : ∀ (ws : va_W) (ps : List (Option Nat)) (wc : va_W) (k : Nat), (mix ws ps wc)[k]? = (ws[k]?).map (fun w => match ps[k]? with | some (some j) => (wc[j]?).getD w | _ => w)
  | [], _, _, _ => by simp [mix]
  | w :: ws, [], wc, k => by simp [mix]
  | w :: ws, none :: ps, wc, 0 => by simp [mix]
  | w :: ws, none :: ps, wc, k + 1 => by simpa [mix] using mix_get ws ps wc k
  | w :: ws, some j :: ps, wc, 0 => by simp [mix]
  | w :: ws, some j :: ps, wc, k + 1 => by simpa [mix] using mix_get ws ps wc k
def mixOk (n : Nat) (isC : List Nat) (ps : List (Option Nat)) : Bool := (List.range n).all fun k => ps[k]? == some (idx isC k)
theorem joinW {ws wc wc' : va_W} {H1 : Heap} (hP : va_P E.1 vwCl ws H) (hD : va_D A ws) (isC : List Nat) (hC : isC.map (fun i => ws[i]?) = wc.map some) (hfst : wc'.map Prod.fst = wc.map Prod.fst) {n : Nat} {ps : List (Option Nat)} (hn : ws.length = n) (hps : mixOk n isC ps = true)
    (hk : ∀ q : Nat, q < H.size → ¬ va_A wc H.size q → H1[q]? = H[q]?) (hP1 : va_P E.1 vwCl wc' H1) : va_P E.1 vwCl (mix ws ps wc') H1 ∧ va_D A (mix ws ps wc') := by
  have back : ∀ (j i : Nat), isC[j]? = some i → ∃ c, wc[j]? = some c ∧ ws[i]? = some c := by
    intro j i hj
    have h1 : (isC.map (fun i => ws[i]?))[j]? = some (ws[i]?) := by rw [List.getElem?_map, hj]; rfl
    rw [hC, List.getElem?_map] at h1
    cases hw : wc[j]? with
    | none => rw [hw] at h1; cases h1
    | some c => rw [hw] at h1; exact ⟨c, rfl, (Option.some.inj h1).symm⟩
  have new : ∀ (j : Nat) (c : Nat × va_E), wc[j]? = some c → ∃ c', wc'[j]? = some c' ∧ c'.1 = c.1 := by
    intro j c hj
    have h1 : (wc.map Prod.fst)[j]? = some c.1 := by rw [List.getElem?_map, hj]; rfl
    rw [← hfst, List.getElem?_map] at h1
    cases hw : wc'[j]? with
    | none => rw [hw] at h1; cases h1
    | some c' => rw [hw] at h1; exact ⟨c', rfl, Option.some.inj h1⟩
  have at' : ∀ (k : Nat) (q : Nat × va_E), (mix ws ps wc')[k]? = some q → (∃ j : Nat, isC[j]? = some k ∧ wc'[j]? = some q ∧ ∃ e, ws[k]? = some (q.1, e)) ∨ (k ∉ isC ∧ ws[k]? = some q) := by
    intro k q hq
    rw [mix_get] at hq
    cases hw : ws[k]? with
    | none => rw [hw] at hq; cases hq
    | some w =>
      rw [hw] at hq
      have hlt : k < n := by rw [← hn]; exact (List.getElem?_eq_some_iff.mp hw).1
      have hp : ps[k]? = some (idx isC k) := by
        have := List.all_eq_true.mp hps k (List.mem_range.mpr hlt)
        simpa using this
      rw [hp] at hq
      cases hi : idx isC k with
      | none =>
        rw [hi] at hq
        have hq : w = q := by simpa using hq
        exact Or.inr ⟨idx_none hi, by rw [hq]⟩
      | some j =>
        rw [hi] at hq
        have hj := idx_some hi
        obtain ⟨c, h1, h2⟩ := back j k hj
        obtain ⟨c', h3, h4⟩ := new j c h1
        have hq : c' = q := by simpa [h3] using hq
        subst hq
        rw [hw] at h2
        cases h2
        exact Or.inl ⟨j, hj, h3, w.2, by rw [h4]⟩
  have adr : ∀ (k : Nat) (q : Nat × va_E), (mix ws ps wc')[k]? = some q → ∃ e, ws[k]? = some (q.1, e) := by
    intro k q hq
    rcases at' k q hq with ⟨j, -, -, e, h⟩ | ⟨-, h⟩
    · exact ⟨e, h⟩
    · exact ⟨q.2, h⟩
  refine ⟨fun k q hq => ?_, fun i j p q hi hj e => ?_, fun k q hq => ?_⟩
  · rcases at' k q hq with ⟨j, h1, h2, -⟩ | ⟨hm, h⟩
    · exact hP1 j q h2
    · refine va_at.kept (hP k q h) (hk q.1 (va_at.lt (hP k q h)) ?_)
      rintro (⟨j, e, hj⟩ | z)
      · have h1 : (isC.map (fun i => ws[i]?))[j]? = some (some (q.1, e)) := by rw [hC, List.getElem?_map, hj]; rfl
        rw [List.getElem?_map] at h1
        cases hi : isC[j]? with
        | none => rw [hi] at h1; cases h1
        | some i =>
          rw [hi] at h1
          have := hD.1 i k _ _ (Option.some.inj h1) h rfl
          subst this
          exact hm (List.mem_of_getElem? hi)
      · have := va_at.lt (hP k q h); omega
  · obtain ⟨e1, h1⟩ := adr i p hi
    obtain ⟨e2, h2⟩ := adr j q hj
    exact hD.1 i j _ _ h1 h2 e
  · obtain ⟨e1, h1⟩ := adr k q hq
    exact hD.2 k (q.1, e1) h1
theorem subPD {ws wc : va_W} (hP : va_P E.1 vwCl ws H) (hD : va_D A ws) (isC : List Nat) (hC : isC.map (fun i => ws[i]?) = wc.map some) (hn : va_nd isC = true) : va_P E.1 vwCl wc H ∧ va_D A wc := by
  refine ⟨hP.sub isC ?_, hD.sub isC hn hC⟩
  have : isC.filterMap (fun i => ws[i]?) = (isC.map (fun i => ws[i]?)).filterMap id := by rw [List.filterMap_map]; rfl
  rw [this, hC, List.filterMap_map]
  simp
theorem keepW {ws wc : va_W} {H1 : Heap} (hP : va_P E.1 vwCl ws H) (hD : va_D A ws) (isC : List Nat) (hC : isC.map (fun i => ws[i]?) = wc.map some)
    (hk : ∀ q : Nat, q < H.size → ¬ va_A wc H.size q → H1[q]? = H[q]?) (hP1 : va_P E.1 vwCl wc H1) : va_P E.1 vwCl ws H1 := by
  intro k q hq
  by_cases h : ∃ (j : Nat) (e : va_E), wc[j]? = some (q.1, e)
  · obtain ⟨j, e, hj⟩ := h
    have h1 : (isC.map (fun i => ws[i]?))[j]? = some (some (q.1, e)) := by rw [hC, List.getElem?_map, hj]; rfl
    rw [List.getElem?_map] at h1
    cases hi : isC[j]? with
    | none => rw [hi] at h1; cases h1
    | some i =>
      rw [hi] at h1
      have h2 : ws[i]? = some (q.1, e) := Option.some.inj h1
      have h3 := hD.1 i k _ _ h2 hq rfl
      subst h3
      rw [hq] at h2
      rw [Option.some.inj h2]
      exact hP1 j _ hj
  · have hlt := va_at.lt (hP k q hq)
    refine va_at.kept (hP k q hq) (hk q.1 hlt ?_)
    rintro (z | z)
    · exact h z
    · omega
theorem swT {rt : Option FieldType} {dflt lo hi : Int} {offs : Array Int} {len tgt : Nat} {x : Int32} (k : Nat) {off : Int} (cx : Cx p s m args meth c cc own nL rt E A) (hdg : decode cc pc = .ok (.tableswitch dflt lo hi offs, len)) (hx : x.toInt = lo + k) (hk : lo + k ≤ hi) (ho : offs[k]? = some off) (ht : (pc : Int) + off = (tgt : Int))
    (kk : W p l e R s m args below meth c H locs 0 0 Q (F0 m tgt ls rest)) : W p l e R s m args below meth c H locs 0 0 Q (F0 m pc ls (.int x :: rest)) := by
  obtain ⟨⟨hx1, hb, -, -, -⟩, -, -, -, -, -⟩ := cx
  refine lv_tableIn hx1 hb hdg (by omega) (by omega) (off := off) ?_ ht kk
  rw [hx]
  have : (lo + (k : Int) - lo).toNat = k := by omega
  rw [this]; exact ho
theorem swD {rt : Option FieldType} {dflt lo hi : Int} {offs : Array Int} {len tgt : Nat} {x : Int32} (ex : List Int) (cx : Cx p s m args meth c cc own nL rt E A) (hdg : decode cc pc = .ok (.tableswitch dflt lo hi offs, len)) (hne : ∀ z ∈ ex, x.toInt ≠ z) (hall : ∀ j, j < (hi + 1 - lo).toNat → (lo + (j : Int)) ∈ ex ∨ offs[j]? = some dflt) (ht : (pc : Int) + dflt = (tgt : Int))
    (kk : W p l e R s m args below meth c H locs 0 0 Q (F0 m tgt ls rest)) : W p l e R s m args below meth c H locs 0 0 Q (F0 m pc ls (.int x :: rest)) := by
  obtain ⟨⟨hx1, hb, -, -, -⟩, -, -, -, -, -⟩ := cx
  by_cases h1 : x.toInt < lo
  · exact lv_tableOut hx1 hb hdg (Or.inl h1) ht kk
  by_cases h2 : hi < x.toInt
  · exact lv_tableOut hx1 hb hdg (Or.inr h2) ht kk
  refine lv_tableIn hx1 hb hdg h1 h2 (off := dflt) ?_ ht kk
  rcases hall (x.toInt - lo).toNat (by omega) with h | h
  · exact absurd (show x.toInt = lo + ((x.toInt - lo).toNat : Int) by omega) (hne _ h)
  · exact h
theorem ne_int {x y : Int32} {z : Int} (h : ¬ x = y) (e : y.toInt = z) : x.toInt ≠ z := fun q => h (Int32.toInt_inj.mp (q.trans e.symm))
section Arr
variable {rt : Option FieldType} {ws : va_W} {a q0 n : Nat} {i : Int32}
theorem r_iald (q0 : Nat) {f : Nat → Int32} (cx : Cx p s m args meth c cc own nL rt E A) (hP : va_P E.1 vwCl ws H) (ha : ws[q0]? = some (a, .inl (E.2.1, n, .inl f))) (hin : ix i n = true) (hdg : decode cc pc = .ok (.iaload, 1))
    (kk : W p l e R s m args below meth c H locs 0 0 Q (F0 m (pc + 1) ls (.int (jat f i) :: rest))) : W p l e R s m args below meth c H locs 0 0 Q (F0 m pc ls (.int i :: .ref a :: rest)) := by
  obtain ⟨⟨hx, hb, -, -, -⟩, -, -, hK, -, -⟩ := cx
  exact va_iald hx hb hK hP q0 0 ha rfl (ix_in hin) hdg kk
theorem r_lald (q0 : Nat) {f : Nat → Int64} (cx : Cx p s m args meth c cc own nL rt E A) (hP : va_P E.1 vwCl ws H) (ha : ws[q0]? = some (a, .inl (E.2.2.1, n, .inr (.inl f)))) (hin : ix i n = true) (hdg : decode cc pc = .ok (.laload, 1))
    (kk : W p l e R s m args below meth c H locs 0 0 Q (F0 m (pc + 1) ls (.long (jat f i) :: rest))) : W p l e R s m args below meth c H locs 0 0 Q (F0 m pc ls (.int i :: .ref a :: rest)) := by
  obtain ⟨⟨hx, hb, -, -, -⟩, -, -, hK, -, -⟩ := cx
  exact va_lald hx hb hK hP q0 1 ha rfl (ix_in hin) hdg kk
theorem r_bald (q0 : Nat) {f : Nat → Int32} (cx : Cx p s m args meth c cc own nL rt E A) (hP : va_P E.1 vwCl ws H) (ha : ws[q0]? = some (a, .inl (E.2.2.2.1, n, .inl f))) (hin : ix i n = true) (hdg : decode cc pc = .ok (.baload, 1))
    (kk : W p l e R s m args below meth c H locs 0 0 Q (F0 m (pc + 1) ls (.int (jat f i) :: rest))) : W p l e R s m args below meth c H locs 0 0 Q (F0 m pc ls (.int i :: .ref a :: rest)) := by
  obtain ⟨⟨hx, hb, -, -, -⟩, -, -, hK, -, -⟩ := cx
  exact va_bald hx hb hK hP q0 2 ha rfl (ix_in hin) hdg kk
theorem r_zald (q0 : Nat) {f : Nat → Int32} (cx : Cx p s m args meth c cc own nL rt E A) (hP : va_P E.1 vwCl ws H) (ha : ws[q0]? = some (a, .inl (E.2.2.2.2.1, n, .inl f))) (hin : ix i n = true) (hdg : decode cc pc = .ok (.baload, 1))
    (kk : W p l e R s m args below meth c H locs 0 0 Q (F0 m (pc + 1) ls (.int (jat f i) :: rest))) : W p l e R s m args below meth c H locs 0 0 Q (F0 m pc ls (.int i :: .ref a :: rest)) := by
  obtain ⟨⟨hx, hb, -, -, -⟩, -, -, hK, -, -⟩ := cx
  exact va_zald hx hb hK hP q0 3 ha rfl (ix_in hin) hdg kk
theorem r_iast (q0 : Nat) {f : Nat → Int32} {x : Int32} (cx : Cx p s m args meth c cc own nL rt E A) (hP : va_P E.1 vwCl ws H) (hD : va_D A ws) (hS : va_S A s.heap H locs) (ha : ws[q0]? = some (a, .inl (E.2.1, n, .inl f))) (hin : ix i n = true) (hdg : decode cc pc = .ok (.iastore, 1))
    (kk : ∀ (H1 : Heap) (locs1 : List Loc), va_P E.1 vwCl (ws.set q0 (a, .inl (E.2.1, n, .inl (jput f i x)))) H1 → va_D A (ws.set q0 (a, .inl (E.2.1, n, .inl (jput f i x)))) → va_S A s.heap H1 locs1 → W p l e R s m args below meth c H1 locs1 0 0 Q (F0 m (pc + 1) ls rest)) : W p l e R s m args below meth c H locs 0 0 Q (F0 m pc ls (.int x :: .int i :: .ref a :: rest)) := by
  obtain ⟨⟨hx, hb, -, -, -⟩, -, -, hK, -, -⟩ := cx
  exact va_iast hx hb hK hP hD hS q0 0 ha rfl (ix_in hin) hdg kk
theorem r_last (q0 : Nat) {f : Nat → Int64} {x : Int64} (cx : Cx p s m args meth c cc own nL rt E A) (hP : va_P E.1 vwCl ws H) (hD : va_D A ws) (hS : va_S A s.heap H locs) (ha : ws[q0]? = some (a, .inl (E.2.2.1, n, .inr (.inl f)))) (hin : ix i n = true) (hdg : decode cc pc = .ok (.lastore, 1))
    (kk : ∀ (H1 : Heap) (locs1 : List Loc), va_P E.1 vwCl (ws.set q0 (a, .inl (E.2.2.1, n, .inr (.inl (jputL f i x))))) H1 → va_D A (ws.set q0 (a, .inl (E.2.2.1, n, .inr (.inl (jputL f i x))))) → va_S A s.heap H1 locs1 → W p l e R s m args below meth c H1 locs1 0 0 Q (F0 m (pc + 1) ls rest)) : W p l e R s m args below meth c H locs 0 0 Q (F0 m pc ls (.long x :: .int i :: .ref a :: rest)) := by
  obtain ⟨⟨hx, hb, -, -, -⟩, -, -, hK, -, -⟩ := cx
  exact va_last hx hb hK hP hD hS q0 1 ha rfl (ix_in hin) hdg kk
theorem r_bast (q0 : Nat) {f : Nat → Int32} {x : Int32} (cx : Cx p s m args meth c cc own nL rt E A) (hP : va_P E.1 vwCl ws H) (hD : va_D A ws) (hS : va_S A s.heap H locs) (ha : ws[q0]? = some (a, .inl (E.2.2.2.1, n, .inl f))) (hin : ix i n = true) (hdg : decode cc pc = .ok (.bastore, 1))
    (kk : ∀ (H1 : Heap) (locs1 : List Loc), va_P E.1 vwCl (ws.set q0 (a, .inl (E.2.2.2.1, n, .inl (jputB f i x)))) H1 → va_D A (ws.set q0 (a, .inl (E.2.2.2.1, n, .inl (jputB f i x)))) → va_S A s.heap H1 locs1 → W p l e R s m args below meth c H1 locs1 0 0 Q (F0 m (pc + 1) ls rest)) : W p l e R s m args below meth c H locs 0 0 Q (F0 m pc ls (.int x :: .int i :: .ref a :: rest)) := by
  obtain ⟨⟨hx, hb, -, -, -⟩, -, -, hK, -, -⟩ := cx
  exact va_bast hx hb hK hP hD hS q0 2 ha rfl (ix_in hin) hdg kk
theorem r_zast (q0 : Nat) {f : Nat → Int32} {x : Int32} (cx : Cx p s m args meth c cc own nL rt E A) (hP : va_P E.1 vwCl ws H) (hD : va_D A ws) (hS : va_S A s.heap H locs) (ha : ws[q0]? = some (a, .inl (E.2.2.2.2.1, n, .inl f))) (hin : ix i n = true) (hdg : decode cc pc = .ok (.bastore, 1))
    (kk : ∀ (H1 : Heap) (locs1 : List Loc), va_P E.1 vwCl (ws.set q0 (a, .inl (E.2.2.2.2.1, n, .inl (jputZ f i x)))) H1 → va_D A (ws.set q0 (a, .inl (E.2.2.2.2.1, n, .inl (jputZ f i x)))) → va_S A s.heap H1 locs1 → W p l e R s m args below meth c H1 locs1 0 0 Q (F0 m (pc + 1) ls rest)) : W p l e R s m args below meth c H locs 0 0 Q (F0 m pc ls (.int x :: .int i :: .ref a :: rest)) := by
  obtain ⟨⟨hx, hb, -, -, -⟩, -, -, hK, -, -⟩ := cx
  exact va_zast hx hb hK hP hD hS q0 3 ha rfl (ix_in hin) hdg kk
theorem r_aald {f : Nat → Option Nat} {b : Nat} (q0 : Nat) (cx : Cx p s m args meth c cc own nL rt E A) (hP : va_P E.1 vwCl ws H) (ha : ws[q0]? = some (a, .inl (E.2.2.2.2.2.1, n, .inr (.inr (.inr (.inr f)))))) (hin : ix i n = true) (hv : f i.toNatClampNeg = some b) (hdg : decode cc pc = .ok (.aaload, 1))
    (kk : W p l e R s m args below meth c H locs 0 0 Q (F0 m (pc + 1) ls (.ref b :: rest))) : W p l e R s m args below meth c H locs 0 0 Q (F0 m pc ls (.int i :: .ref a :: rest)) := by
  obtain ⟨⟨hx, hb, -, -, -⟩, -, -, hK, -, -⟩ := cx
  refine va_aldq hx hb hK hP q0 4 ha rfl (ix_in hin) hdg ?_
  rw [hv]; exact kk
theorem r_ishl {x y : Int32} (hx : p.tables.exec = Jvm.exec) (hb : c.code = cc) (hdg : decode cc pc = .ok (.ishl, 1)) (k : W p l e R s m args below meth c H locs 0 0 Q (F0 m (pc + 1) ls (.int (jshl x y) :: rest))) : W p l e R s m args below meth c H locs 0 0 Q (F0 m pc ls (.int y :: .int x :: rest)) := lv_ishl hx hb hdg k
theorem r_ishr {x y : Int32} (hx : p.tables.exec = Jvm.exec) (hb : c.code = cc) (hdg : decode cc pc = .ok (.ishr, 1)) (k : W p l e R s m args below meth c H locs 0 0 Q (F0 m (pc + 1) ls (.int (jshr x y) :: rest))) : W p l e R s m args below meth c H locs 0 0 Q (F0 m pc ls (.int y :: .int x :: rest)) := lv_ishr hx hb hdg k
theorem r_irem {x y : Int32} (hx : p.tables.exec = Jvm.exec) (hb : c.code = cc) (hdg : decode cc pc = .ok (.irem, 1)) (hne : ¬ y = 0) (k : W p l e R s m args below meth c H locs 0 0 Q (F0 m (pc + 1) ls (.int (jrem x y) :: rest))) : W p l e R s m args below meth c H locs 0 0 Q (F0 m pc ls (.int y :: .int x :: rest)) := lv_irem hx hb hdg hne k
theorem r_lrem {x y : Int64} (hx : p.tables.exec = Jvm.exec) (hb : c.code = cc) (hdg : decode cc pc = .ok (.lrem, 1)) (hne : ¬ y = 0) (k : W p l e R s m args below meth c H locs 0 0 Q (F0 m (pc + 1) ls (.long (jrem64 x y) :: rest))) : W p l e R s m args below meth c H locs 0 0 Q (F0 m pc ls (.long y :: .long x :: rest)) := lv_lrem hx hb hdg hne k
theorem r_copyi {rt : Option FieldType} {ws : va_W} {a a0 n0 n1 : Nat} {index : Nat} {f g : Nat → Int32} {sp dp n : Int32} (q0 q1 : Nat) (cx : Cx p s m args meth c cc own nL rt E A) (hP : va_P E.1 vwCl ws H) (hD : va_D A ws) (hS : va_S A s.heap H locs) {lv : List (Nat × Value)} (hl : lv_has ls nL lv)
    (ha0 : ws[q0]? = some (a0, .inl (E.2.1, n0, .inl f))) (ha1 : ws[q1]? = some (a, .inl (E.2.1, n1, .inl g))) (hok : cpok sp dp n n0 n1 = true) (hlk : Cond.methodLink own index arraycopyName ∈ gtbl) (hw : Cond.native arraycopyName ∈ gtbl ∧ Cond.static arraycopyName ∈ gtbl ∧ Cond.initialized "java/lang/System" ∈ gtbl)
    (hfr : 1 ≤ R.frames) (hlo : (rest.map fun v => v.category).sum + (nativeFrameWords "java/lang/System" "arraycopy" 5 + 11) ≤ R.locals) (hdg : decode cc pc = .ok (.invokestatic index, 3))
    (kk : ∀ (H1 : Heap) (locs1 : List Loc), va_P E.1 vwCl (ws.set q1 (a, .inl (E.2.1, n1, .inl (jcpy f g sp dp n)))) H1 → va_D A (ws.set q1 (a, .inl (E.2.1, n1, .inl (jcpy f g sp dp n)))) → va_S A s.heap H1 locs1 → W p l e R s m args below meth c H1 locs1 0 0 Q (F0 m (pc + 3) ls rest)) : W p l e R s m args below meth c H locs 0 0 Q (F0 m pc ls (.int n :: .int dp :: .ref a :: .int sp :: .ref a0 :: rest)) := by
  obtain ⟨⟨hx, hb, hml, hown, hts⟩, -, -, hK, -, -⟩ := cx
  obtain ⟨h1, h2, h3, h4, h5⟩ := cpok_s hok
  exact va_copyi hx hb (hml.trans hl.1.symm) hown (hts _ hlk) (hts _ hw.1) (hts _ hw.2.1) (hts _ hw.2.2) hK hP hD hS q0 q1 0 0 ha0 ha1 rfl rfl rfl h1 h2 h3 h4 h5 (fun _ _ => rfl) hfr hlo hdg kk
theorem r_copyl {rt : Option FieldType} {ws : va_W} {a a0 n0 n1 : Nat} {index : Nat} {f g : Nat → Int64} {sp dp n : Int32} (q0 q1 : Nat) (cx : Cx p s m args meth c cc own nL rt E A) (hP : va_P E.1 vwCl ws H) (hD : va_D A ws) (hS : va_S A s.heap H locs) {lv : List (Nat × Value)} (hl : lv_has ls nL lv)
    (ha0 : ws[q0]? = some (a0, .inl (E.2.2.1, n0, .inr (.inl f)))) (ha1 : ws[q1]? = some (a, .inl (E.2.2.1, n1, .inr (.inl g)))) (hok : cpok sp dp n n0 n1 = true) (hlk : Cond.methodLink own index arraycopyName ∈ gtbl) (hw : Cond.native arraycopyName ∈ gtbl ∧ Cond.static arraycopyName ∈ gtbl ∧ Cond.initialized "java/lang/System" ∈ gtbl)
    (hfr : 1 ≤ R.frames) (hlo : (rest.map fun v => v.category).sum + (nativeFrameWords "java/lang/System" "arraycopy" 5 + 11) ≤ R.locals) (hdg : decode cc pc = .ok (.invokestatic index, 3))
    (kk : ∀ (H1 : Heap) (locs1 : List Loc), va_P E.1 vwCl (ws.set q1 (a, .inl (E.2.2.1, n1, .inr (.inl (jcpyL f g sp dp n))))) H1 → va_D A (ws.set q1 (a, .inl (E.2.2.1, n1, .inr (.inl (jcpyL f g sp dp n))))) → va_S A s.heap H1 locs1 → W p l e R s m args below meth c H1 locs1 0 0 Q (F0 m (pc + 3) ls rest)) : W p l e R s m args below meth c H locs 0 0 Q (F0 m pc ls (.int n :: .int dp :: .ref a :: .int sp :: .ref a0 :: rest)) := by
  obtain ⟨⟨hx, hb, hml, hown, hts⟩, -, -, hK, -, -⟩ := cx
  obtain ⟨h1, h2, h3, h4, h5⟩ := cpok_s hok
  exact va_copyl hx hb (hml.trans hl.1.symm) hown (hts _ hlk) (hts _ hw.1) (hts _ hw.2.1) (hts _ hw.2.2) hK hP hD hS q0 q1 1 1 ha0 ha1 rfl rfl rfl h1 h2 h3 h4 h5 (fun _ _ => rfl) hfr hlo hdg kk
theorem lkD {rt : Option FieldType} {dflt : Int} {ps : Array (Int × Int)} {len tgt : Nat} {x : Int32} (ex : List Int) (cx : Cx p s m args meth c cc own nL rt E A) (hdg : decode cc pc = .ok (.lookupswitch dflt ps, len)) (hp : (ps.toList.zip (ps.toList.drop 1)).all (fun (a, next) => a.1 < next.1) = true) (hne : ∀ z ∈ ex, x.toInt ≠ z) (hex : ex = ps.toList.map Prod.fst) (ht : (pc : Int) + dflt = (tgt : Int))
    (kk : W p l e R s m args below meth c H locs 0 0 Q (F0 m tgt ls rest)) : W p l e R s m args below meth c H locs 0 0 Q (F0 m pc ls (.int x :: rest)) := by
  obtain ⟨⟨hx1, hb, -, -, -⟩, -, -, -, -, -⟩ := cx
  refine lv_lookup hx1 hb hdg hp (off := dflt) ?_ ht kk
  subst hex
  generalize ps.toList = l at hne
  induction l with
  | nil => rfl
  | cons q t ih =>
    have h1 : x.toInt ≠ q.1 := hne _ (by simp)
    have h2 := ih (fun z hz => hne z (by simp only [List.map_cons, List.mem_cons]; exact Or.inr hz))
    have h3 : ¬ q.1 = x.toInt := fun z => h1 z.symm
    simp only [Op.lookupswitch.offset] at h2 ⊢
    simp_all
theorem r_mmax {rt : Option FieldType} {index : Nat} {x y : Int32} (cx : Cx p s m args meth c cc own nL rt E A) {lv : List (Nat × Value)} (hl : lv_has ls nL lv) (hlk : Cond.methodLink own index Lib.Math.max.name ∈ gtbl) (hw : Cond.static Lib.Math.max.name ∈ gtbl ∧ Cond.initialized "java/lang/Math" ∈ gtbl ∧ Cond.code Lib.Math.max.name Lib.Math.max.code 2 (some .int) ∈ gtbl)
    (hfr : 1 ≤ R.frames) (hlo : (rest.map fun v => v.category).sum + 13 ≤ R.locals) (hdg : decode cc pc = .ok (.invokestatic index, 3)) (kk : W p l e R s m args below meth c H locs 0 0 Q (F0 m (pc + 3) ls (.int (jmax x y) :: rest))) : W p l e R s m args below meth c H locs 0 0 Q (F0 m pc ls (.int y :: .int x :: rest)) := by
  obtain ⟨⟨hx, hb, hml, hown, hts⟩, -, -, -, -, -⟩ := cx
  exact va_mmax hx hb (hml.trans hl.1.symm) hown (hts _ hlk) (hts _ hw.1) (hts _ hw.2.1) (hts _ hw.2.2) hfr hlo (Nat.zero_le _) (Nat.zero_le _) hdg kk
theorem r_mmin {rt : Option FieldType} {index : Nat} {x y : Int32} (cx : Cx p s m args meth c cc own nL rt E A) {lv : List (Nat × Value)} (hl : lv_has ls nL lv) (hlk : Cond.methodLink own index Lib.Math.min.name ∈ gtbl) (hw : Cond.static Lib.Math.min.name ∈ gtbl ∧ Cond.initialized "java/lang/Math" ∈ gtbl ∧ Cond.code Lib.Math.min.name Lib.Math.min.code 2 (some .int) ∈ gtbl)
    (hfr : 1 ≤ R.frames) (hlo : (rest.map fun v => v.category).sum + 13 ≤ R.locals) (hdg : decode cc pc = .ok (.invokestatic index, 3)) (kk : W p l e R s m args below meth c H locs 0 0 Q (F0 m (pc + 3) ls (.int (jmin x y) :: rest))) : W p l e R s m args below meth c H locs 0 0 Q (F0 m pc ls (.int y :: .int x :: rest)) := by
  obtain ⟨⟨hx, hb, hml, hown, hts⟩, -, -, -, -, -⟩ := cx
  exact va_mmin hx hb (hml.trans hl.1.symm) hown (hts _ hlk) (hts _ hw.1) (hts _ hw.2.1) (hts _ hw.2.2) hfr hlo (Nat.zero_le _) (Nat.zero_le _) hdg kk
end Arr
section Calls
variable {y : MethodName} {bytes : ByteArray} {maxL d index n : Nat} {ret rt : Option FieldType} {b : Nat} {As st0 : List Value} {ws wc wc' wn : va_W}
theorem callVI {r : Int32} (hM : CtI l y bytes maxL ret d E (.ref b :: As) wc wc' r) (isC : List Nat) (hc : Cal y bytes maxL ret n) (hv : CalV y) (hlk : Cond.methodLink own index y ∈ gtbl) (cx : Cx p s m args meth c cc own nL rt E A) (hP : va_P E.1 vwCl ws H) (hD : va_D A ws) (hS : va_S A s.heap H locs) {lv : List (Nat × Value)} (hl : lv_has ls nL lv)
    (hdg : decode cc pc = .ok (.invokevirtual index, 3)) {ci : Nat} {fs : List Value} {T : u_T} {N : Nat} (he : wc[0]? = some (b, .inr (ci, fs))) (hcl : vwCl[ci]? = some (y.cls, T, N)) (hlen : As.length = n) (hst : st0 = As.reverse ++ .ref b :: rest) (hw : (rest.map fun v => v.category).sum ≤ 8) (hR : d + 1 ≤ R.frames ∧ 8 + (maxL + 11) + 64 * d ≤ R.locals)
    (hC : isC.map (fun i => ws[i]?) = wc.map some) (hcn : va_nd isC = true)  (hfst : wc'.map Prod.fst = wc.map Prod.fst) {n1 : Nat} (ps : List (Option Nat)) (hn1 : ws.length = n1) (hps : mixOk n1 isC ps = true) (hwn : mix ws ps wc' = wn)
    (kk : ∀ (H1 : Heap) (locs1 : List Loc), va_P E.1 vwCl wn H1 → va_D A wn → va_S A s.heap H1 locs1 → W p l e R s m args below meth c H1 locs1 0 0 Q (F0 m (pc + 3) ls (.int r :: rest))) : W p l e R s m args below meth c H locs 0 0 Q (F0 m pc ls st0) := by
  have hB := callB' (R := R) (d := d) (index := index) cx hc hlk hR
  obtain ⟨⟨hx, hb, hml, hown, hts⟩, hr, hlocks, hK, hA, hX⟩ := cx
  obtain ⟨hPc, hDc⟩ := subPD hP hD isC hC hcn
  have hFc := va_free (wc := wc) hD hS hA isC hC
  refine va_calli (va_runV (As := As) (rest := rest) (b := b) (C := y.cls) (cc := cc) (nL := nL) (n := n) ⟨hx, hb, hml, hown, hts⟩ (hM H.size) ⟨hB, hts _ hv.1, hts _ hv.2⟩ ⟨PreB_blind, va_recv hK hPc hcl he, fun U hU hW => ⟨rfl, by rw [hU], by rw [hU]; exact hPc, va_K.moved hW.alike hK, hDc.weaken (fun _ _ _ _ => trivial), by rw [hU]; exact SX.warm hW ((hX.kept hS.2.1).narrow hFc)⟩⟩ rfl hlen hl.1 hst (by show 2 * 0 + _ ≤ 8; omega) hdg ⟨Nat.zero_le _, Nat.zero_le _⟩) hS (fun q _ h => hFc q h) hFc (fun r1 u t H1 locs1 ht hvm hw1 hB1 hz1 hk1 hS1 => ?_)
  obtain ⟨hP1, hK1, hD1⟩ := hB1
  rw [ht] at hP1
  obtain ⟨hP', hD'⟩ := joinW hP hD isC hC hfst hn1 hps hk1 hP1
  rw [hwn] at hP' hD'
  subst hw1
  exact kk H1 locs1 hP' hD' hS1
theorem callVL {r : Int64} (hM : CtL l y bytes maxL ret d E (.ref b :: As) wc wc' r) (isC : List Nat) (hc : Cal y bytes maxL ret n) (hv : CalV y) (hlk : Cond.methodLink own index y ∈ gtbl) (cx : Cx p s m args meth c cc own nL rt E A) (hP : va_P E.1 vwCl ws H) (hD : va_D A ws) (hS : va_S A s.heap H locs) {lv : List (Nat × Value)} (hl : lv_has ls nL lv)
    (hdg : decode cc pc = .ok (.invokevirtual index, 3)) {ci : Nat} {fs : List Value} {T : u_T} {N : Nat} (he : wc[0]? = some (b, .inr (ci, fs))) (hcl : vwCl[ci]? = some (y.cls, T, N)) (hlen : As.length = n) (hst : st0 = As.reverse ++ .ref b :: rest) (hw : (rest.map fun v => v.category).sum ≤ 8) (hR : d + 1 ≤ R.frames ∧ 8 + (maxL + 11) + 64 * d ≤ R.locals)
    (hC : isC.map (fun i => ws[i]?) = wc.map some) (hcn : va_nd isC = true)  (hfst : wc'.map Prod.fst = wc.map Prod.fst) {n1 : Nat} (ps : List (Option Nat)) (hn1 : ws.length = n1) (hps : mixOk n1 isC ps = true) (hwn : mix ws ps wc' = wn)
    (kk : ∀ (H1 : Heap) (locs1 : List Loc), va_P E.1 vwCl wn H1 → va_D A wn → va_S A s.heap H1 locs1 → W p l e R s m args below meth c H1 locs1 0 0 Q (F0 m (pc + 3) ls (.long r :: rest))) : W p l e R s m args below meth c H locs 0 0 Q (F0 m pc ls st0) := by
  have hB := callB' (R := R) (d := d) (index := index) cx hc hlk hR
  obtain ⟨⟨hx, hb, hml, hown, hts⟩, hr, hlocks, hK, hA, hX⟩ := cx
  obtain ⟨hPc, hDc⟩ := subPD hP hD isC hC hcn
  have hFc := va_free (wc := wc) hD hS hA isC hC
  refine va_calll (va_runV (As := As) (rest := rest) (b := b) (C := y.cls) (cc := cc) (nL := nL) (n := n) ⟨hx, hb, hml, hown, hts⟩ (hM H.size) ⟨hB, hts _ hv.1, hts _ hv.2⟩ ⟨PreB_blind, va_recv hK hPc hcl he, fun U hU hW => ⟨rfl, by rw [hU], by rw [hU]; exact hPc, va_K.moved hW.alike hK, hDc.weaken (fun _ _ _ _ => trivial), by rw [hU]; exact SX.warm hW ((hX.kept hS.2.1).narrow hFc)⟩⟩ rfl hlen hl.1 hst (by show 2 * 0 + _ ≤ 8; omega) hdg ⟨Nat.zero_le _, Nat.zero_le _⟩) hS (fun q _ h => hFc q h) hFc (fun r1 u t H1 locs1 ht hvm hw1 hB1 hz1 hk1 hS1 => ?_)
  obtain ⟨hP1, hK1, hD1⟩ := hB1
  rw [ht] at hP1
  obtain ⟨hP', hD'⟩ := joinW hP hD isC hC hfst hn1 hps hk1 hP1
  rw [hwn] at hP' hD'
  subst hw1
  exact kk H1 locs1 hP' hD' hS1
theorem callVV (hM : CtV l y bytes maxL ret d E (.ref b :: As) wc wc') (isC : List Nat) (hc : Cal y bytes maxL ret n) (hv : CalV y) (hlk : Cond.methodLink own index y ∈ gtbl) (cx : Cx p s m args meth c cc own nL rt E A) (hP : va_P E.1 vwCl ws H) (hD : va_D A ws) (hS : va_S A s.heap H locs) {lv : List (Nat × Value)} (hl : lv_has ls nL lv)
    (hdg : decode cc pc = .ok (.invokevirtual index, 3)) {ci : Nat} {fs : List Value} {T : u_T} {N : Nat} (he : wc[0]? = some (b, .inr (ci, fs))) (hcl : vwCl[ci]? = some (y.cls, T, N)) (hlen : As.length = n) (hst : st0 = As.reverse ++ .ref b :: rest) (hw : (rest.map fun v => v.category).sum ≤ 8) (hR : d + 1 ≤ R.frames ∧ 8 + (maxL + 11) + 64 * d ≤ R.locals)
    (hC : isC.map (fun i => ws[i]?) = wc.map some) (hcn : va_nd isC = true)  (hfst : wc'.map Prod.fst = wc.map Prod.fst) {n1 : Nat} (ps : List (Option Nat)) (hn1 : ws.length = n1) (hps : mixOk n1 isC ps = true) (hwn : mix ws ps wc' = wn)
    (kk : ∀ (H1 : Heap) (locs1 : List Loc), va_P E.1 vwCl wn H1 → va_D A wn → va_S A s.heap H1 locs1 → W p l e R s m args below meth c H1 locs1 0 0 Q (F0 m (pc + 3) ls rest)) : W p l e R s m args below meth c H locs 0 0 Q (F0 m pc ls st0) := by
  have hB := callB' (R := R) (d := d) (index := index) cx hc hlk hR
  obtain ⟨⟨hx, hb, hml, hown, hts⟩, hr, hlocks, hK, hA, hX⟩ := cx
  obtain ⟨hPc, hDc⟩ := subPD hP hD isC hC hcn
  have hFc := va_free (wc := wc) hD hS hA isC hC
  refine va_callv (va_runV (As := As) (rest := rest) (b := b) (C := y.cls) (cc := cc) (nL := nL) (n := n) ⟨hx, hb, hml, hown, hts⟩ (hM H.size) ⟨hB, hts _ hv.1, hts _ hv.2⟩ ⟨PreB_blind, va_recv hK hPc hcl he, fun U hU hW => ⟨rfl, by rw [hU], by rw [hU]; exact hPc, va_K.moved hW.alike hK, hDc.weaken (fun _ _ _ _ => trivial), by rw [hU]; exact SX.warm hW ((hX.kept hS.2.1).narrow hFc)⟩⟩ rfl hlen hl.1 hst (by show 2 * 0 + _ ≤ 8; omega) hdg ⟨Nat.zero_le _, Nat.zero_le _⟩) hS (fun q _ h => hFc q h) hFc (fun u t H1 locs1 ht hvm hw1 hB1 hz1 hk1 hS1 => ?_)
  obtain ⟨hP1, hK1, hD1⟩ := hB1
  rw [ht] at hP1
  obtain ⟨hP', hD'⟩ := joinW hP hD isC hC hfst hn1 hps hk1 hP1
  rw [hwn] at hP' hD'
  exact kk H1 locs1 hP' hD' hS1
theorem callSI {r : Int32} (hM : CtI l y bytes maxL ret d E As wc wc' r) (isC : List Nat) (hc : Cal y bytes maxL ret n) (hv : Cond.static y ∈ gtbl) (hlk : Cond.methodLink own index y ∈ gtbl) (cx : Cx p s m args meth c cc own nL rt E A) (hP : va_P E.1 vwCl ws H) (hD : va_D A ws) (hS : va_S A s.heap H locs) {lv : List (Nat × Value)} (hl : lv_has ls nL lv)
    (hdg : decode cc pc = .ok (.invokestatic index, 3)) (hlen : As.length = n) (hst : st0 = As.reverse ++ rest) (hw : (rest.map fun v => v.category).sum ≤ 8) (hR : d + 1 ≤ R.frames ∧ 8 + (maxL + 11) + 64 * d ≤ R.locals)
    (hC : isC.map (fun i => ws[i]?) = wc.map some) (hcn : va_nd isC = true)  (hfst : wc'.map Prod.fst = wc.map Prod.fst) {n1 : Nat} (ps : List (Option Nat)) (hn1 : ws.length = n1) (hps : mixOk n1 isC ps = true) (hwn : mix ws ps wc' = wn)
    (kk : ∀ (H1 : Heap) (locs1 : List Loc), va_P E.1 vwCl wn H1 → va_D A wn → va_S A s.heap H1 locs1 → W p l e R s m args below meth c H1 locs1 0 0 Q (F0 m (pc + 3) ls (.int r :: rest))) : W p l e R s m args below meth c H locs 0 0 Q (F0 m pc ls st0) := by
  have hB := callB' (R := R) (d := d) (index := index) cx hc hlk hR
  obtain ⟨⟨hx, hb, hml, hown, hts⟩, hr, hlocks, hK, hA, hX⟩ := cx
  obtain ⟨hPc, hDc⟩ := subPD hP hD isC hC hcn
  have hFc := va_free (wc := wc) hD hS hA isC hC
  refine va_calli (va_runS (As := As) (rest := rest) (cc := cc) (nL := nL) (n := n) ⟨hx, hb, hml, hown, hts⟩ (hM H.size) ⟨hB, hts _ hv⟩ ⟨PreB_blind, fun U hU hW => ⟨rfl, by rw [hU], by rw [hU]; exact hPc, va_K.moved hW.alike hK, hDc.weaken (fun _ _ _ _ => trivial), by rw [hU]; exact SX.warm hW ((hX.kept hS.2.1).narrow hFc)⟩⟩ rfl hlen hl.1 hst (by show 2 * 0 + _ ≤ 8; omega) hdg ⟨Nat.zero_le _, Nat.zero_le _⟩) hS (fun q _ h => hFc q h) hFc (fun r1 u t H1 locs1 ht hvm hw1 hB1 hz1 hk1 hS1 => ?_)
  obtain ⟨hP1, hK1, hD1⟩ := hB1
  rw [ht] at hP1
  obtain ⟨hP', hD'⟩ := joinW hP hD isC hC hfst hn1 hps hk1 hP1
  rw [hwn] at hP' hD'
  subst hw1
  exact kk H1 locs1 hP' hD' hS1
theorem callSL {r : Int64} (hM : CtL l y bytes maxL ret d E As wc wc' r) (isC : List Nat) (hc : Cal y bytes maxL ret n) (hv : Cond.static y ∈ gtbl) (hlk : Cond.methodLink own index y ∈ gtbl) (cx : Cx p s m args meth c cc own nL rt E A) (hP : va_P E.1 vwCl ws H) (hD : va_D A ws) (hS : va_S A s.heap H locs) {lv : List (Nat × Value)} (hl : lv_has ls nL lv)
    (hdg : decode cc pc = .ok (.invokestatic index, 3)) (hlen : As.length = n) (hst : st0 = As.reverse ++ rest) (hw : (rest.map fun v => v.category).sum ≤ 8) (hR : d + 1 ≤ R.frames ∧ 8 + (maxL + 11) + 64 * d ≤ R.locals)
    (hC : isC.map (fun i => ws[i]?) = wc.map some) (hcn : va_nd isC = true)  (hfst : wc'.map Prod.fst = wc.map Prod.fst) {n1 : Nat} (ps : List (Option Nat)) (hn1 : ws.length = n1) (hps : mixOk n1 isC ps = true) (hwn : mix ws ps wc' = wn)
    (kk : ∀ (H1 : Heap) (locs1 : List Loc), va_P E.1 vwCl wn H1 → va_D A wn → va_S A s.heap H1 locs1 → W p l e R s m args below meth c H1 locs1 0 0 Q (F0 m (pc + 3) ls (.long r :: rest))) : W p l e R s m args below meth c H locs 0 0 Q (F0 m pc ls st0) := by
  have hB := callB' (R := R) (d := d) (index := index) cx hc hlk hR
  obtain ⟨⟨hx, hb, hml, hown, hts⟩, hr, hlocks, hK, hA, hX⟩ := cx
  obtain ⟨hPc, hDc⟩ := subPD hP hD isC hC hcn
  have hFc := va_free (wc := wc) hD hS hA isC hC
  refine va_calll (va_runS (As := As) (rest := rest) (cc := cc) (nL := nL) (n := n) ⟨hx, hb, hml, hown, hts⟩ (hM H.size) ⟨hB, hts _ hv⟩ ⟨PreB_blind, fun U hU hW => ⟨rfl, by rw [hU], by rw [hU]; exact hPc, va_K.moved hW.alike hK, hDc.weaken (fun _ _ _ _ => trivial), by rw [hU]; exact SX.warm hW ((hX.kept hS.2.1).narrow hFc)⟩⟩ rfl hlen hl.1 hst (by show 2 * 0 + _ ≤ 8; omega) hdg ⟨Nat.zero_le _, Nat.zero_le _⟩) hS (fun q _ h => hFc q h) hFc (fun r1 u t H1 locs1 ht hvm hw1 hB1 hz1 hk1 hS1 => ?_)
  obtain ⟨hP1, hK1, hD1⟩ := hB1
  rw [ht] at hP1
  obtain ⟨hP', hD'⟩ := joinW hP hD isC hC hfst hn1 hps hk1 hP1
  rw [hwn] at hP' hD'
  subst hw1
  exact kk H1 locs1 hP' hD' hS1
theorem keepVI {r : Int32} (hM : CtI l y bytes maxL ret d E (.ref b :: As) wc wc r) (isC : List Nat) (hc : Cal y bytes maxL ret n) (hv : CalV y) (hlk : Cond.methodLink own index y ∈ gtbl) (cx : Cx p s m args meth c cc own nL rt E A) (hP : va_P E.1 vwCl ws H) (hD : va_D A ws) (hS : va_S A s.heap H locs) {lv : List (Nat × Value)} (hl : lv_has ls nL lv)
    (hdg : decode cc pc = .ok (.invokevirtual index, 3)) {ci : Nat} {fs : List Value} {T : u_T} {N : Nat} (he : wc[0]? = some (b, .inr (ci, fs))) (hcl : vwCl[ci]? = some (y.cls, T, N)) (hlen : As.length = n) (hst : st0 = As.reverse ++ .ref b :: rest) (hw : (rest.map fun v => v.category).sum ≤ 8) (hR : d + 1 ≤ R.frames ∧ 8 + (maxL + 11) + 64 * d ≤ R.locals)
    (hC : isC.map (fun i => ws[i]?) = wc.map some) (hcn : va_nd isC = true)
    (kk : ∀ (H1 : Heap) (locs1 : List Loc), va_P E.1 vwCl ws H1 → va_S A s.heap H1 locs1 → W p l e R s m args below meth c H1 locs1 0 0 Q (F0 m (pc + 3) ls (.int r :: rest))) : W p l e R s m args below meth c H locs 0 0 Q (F0 m pc ls st0) := by
  have hB := callB' (R := R) (d := d) (index := index) cx hc hlk hR
  obtain ⟨⟨hx, hb, hml, hown, hts⟩, hr, hlocks, hK, hA, hX⟩ := cx
  obtain ⟨hPc, hDc⟩ := subPD hP hD isC hC hcn
  have hFc := va_free (wc := wc) hD hS hA isC hC
  refine va_calli (va_runV (As := As) (rest := rest) (b := b) (C := y.cls) (cc := cc) (nL := nL) (n := n) ⟨hx, hb, hml, hown, hts⟩ (hM H.size) ⟨hB, hts _ hv.1, hts _ hv.2⟩ ⟨PreB_blind, va_recv hK hPc hcl he, fun U hU hW => ⟨rfl, by rw [hU], by rw [hU]; exact hPc, va_K.moved hW.alike hK, hDc.weaken (fun _ _ _ _ => trivial), by rw [hU]; exact SX.warm hW ((hX.kept hS.2.1).narrow hFc)⟩⟩ rfl hlen hl.1 hst (by show 2 * 0 + _ ≤ 8; omega) hdg ⟨Nat.zero_le _, Nat.zero_le _⟩) hS (fun q _ h => hFc q h) hFc (fun r1 u t H1 locs1 ht hvm hw1 hB1 hz1 hk1 hS1 => ?_)
  obtain ⟨hP1, hK1, hD1⟩ := hB1
  rw [ht] at hP1
  have hP' := keepW hP hD isC hC hk1 hP1
  subst hw1
  exact kk H1 locs1 hP' hS1
theorem keepVL {r : Int64} (hM : CtL l y bytes maxL ret d E (.ref b :: As) wc wc r) (isC : List Nat) (hc : Cal y bytes maxL ret n) (hv : CalV y) (hlk : Cond.methodLink own index y ∈ gtbl) (cx : Cx p s m args meth c cc own nL rt E A) (hP : va_P E.1 vwCl ws H) (hD : va_D A ws) (hS : va_S A s.heap H locs) {lv : List (Nat × Value)} (hl : lv_has ls nL lv)
    (hdg : decode cc pc = .ok (.invokevirtual index, 3)) {ci : Nat} {fs : List Value} {T : u_T} {N : Nat} (he : wc[0]? = some (b, .inr (ci, fs))) (hcl : vwCl[ci]? = some (y.cls, T, N)) (hlen : As.length = n) (hst : st0 = As.reverse ++ .ref b :: rest) (hw : (rest.map fun v => v.category).sum ≤ 8) (hR : d + 1 ≤ R.frames ∧ 8 + (maxL + 11) + 64 * d ≤ R.locals)
    (hC : isC.map (fun i => ws[i]?) = wc.map some) (hcn : va_nd isC = true)
    (kk : ∀ (H1 : Heap) (locs1 : List Loc), va_P E.1 vwCl ws H1 → va_S A s.heap H1 locs1 → W p l e R s m args below meth c H1 locs1 0 0 Q (F0 m (pc + 3) ls (.long r :: rest))) : W p l e R s m args below meth c H locs 0 0 Q (F0 m pc ls st0) := by
  have hB := callB' (R := R) (d := d) (index := index) cx hc hlk hR
  obtain ⟨⟨hx, hb, hml, hown, hts⟩, hr, hlocks, hK, hA, hX⟩ := cx
  obtain ⟨hPc, hDc⟩ := subPD hP hD isC hC hcn
  have hFc := va_free (wc := wc) hD hS hA isC hC
  refine va_calll (va_runV (As := As) (rest := rest) (b := b) (C := y.cls) (cc := cc) (nL := nL) (n := n) ⟨hx, hb, hml, hown, hts⟩ (hM H.size) ⟨hB, hts _ hv.1, hts _ hv.2⟩ ⟨PreB_blind, va_recv hK hPc hcl he, fun U hU hW => ⟨rfl, by rw [hU], by rw [hU]; exact hPc, va_K.moved hW.alike hK, hDc.weaken (fun _ _ _ _ => trivial), by rw [hU]; exact SX.warm hW ((hX.kept hS.2.1).narrow hFc)⟩⟩ rfl hlen hl.1 hst (by show 2 * 0 + _ ≤ 8; omega) hdg ⟨Nat.zero_le _, Nat.zero_le _⟩) hS (fun q _ h => hFc q h) hFc (fun r1 u t H1 locs1 ht hvm hw1 hB1 hz1 hk1 hS1 => ?_)
  obtain ⟨hP1, hK1, hD1⟩ := hB1
  rw [ht] at hP1
  have hP' := keepW hP hD isC hC hk1 hP1
  subst hw1
  exact kk H1 locs1 hP' hS1
theorem keepVV (hM : CtV l y bytes maxL ret d E (.ref b :: As) wc wc) (isC : List Nat) (hc : Cal y bytes maxL ret n) (hv : CalV y) (hlk : Cond.methodLink own index y ∈ gtbl) (cx : Cx p s m args meth c cc own nL rt E A) (hP : va_P E.1 vwCl ws H) (hD : va_D A ws) (hS : va_S A s.heap H locs) {lv : List (Nat × Value)} (hl : lv_has ls nL lv)
    (hdg : decode cc pc = .ok (.invokevirtual index, 3)) {ci : Nat} {fs : List Value} {T : u_T} {N : Nat} (he : wc[0]? = some (b, .inr (ci, fs))) (hcl : vwCl[ci]? = some (y.cls, T, N)) (hlen : As.length = n) (hst : st0 = As.reverse ++ .ref b :: rest) (hw : (rest.map fun v => v.category).sum ≤ 8) (hR : d + 1 ≤ R.frames ∧ 8 + (maxL + 11) + 64 * d ≤ R.locals)
    (hC : isC.map (fun i => ws[i]?) = wc.map some) (hcn : va_nd isC = true)
    (kk : ∀ (H1 : Heap) (locs1 : List Loc), va_P E.1 vwCl ws H1 → va_S A s.heap H1 locs1 → W p l e R s m args below meth c H1 locs1 0 0 Q (F0 m (pc + 3) ls rest)) : W p l e R s m args below meth c H locs 0 0 Q (F0 m pc ls st0) := by
  have hB := callB' (R := R) (d := d) (index := index) cx hc hlk hR
  obtain ⟨⟨hx, hb, hml, hown, hts⟩, hr, hlocks, hK, hA, hX⟩ := cx
  obtain ⟨hPc, hDc⟩ := subPD hP hD isC hC hcn
  have hFc := va_free (wc := wc) hD hS hA isC hC
  refine va_callv (va_runV (As := As) (rest := rest) (b := b) (C := y.cls) (cc := cc) (nL := nL) (n := n) ⟨hx, hb, hml, hown, hts⟩ (hM H.size) ⟨hB, hts _ hv.1, hts _ hv.2⟩ ⟨PreB_blind, va_recv hK hPc hcl he, fun U hU hW => ⟨rfl, by rw [hU], by rw [hU]; exact hPc, va_K.moved hW.alike hK, hDc.weaken (fun _ _ _ _ => trivial), by rw [hU]; exact SX.warm hW ((hX.kept hS.2.1).narrow hFc)⟩⟩ rfl hlen hl.1 hst (by show 2 * 0 + _ ≤ 8; omega) hdg ⟨Nat.zero_le _, Nat.zero_le _⟩) hS (fun q _ h => hFc q h) hFc (fun u t H1 locs1 ht hvm hw1 hB1 hz1 hk1 hS1 => ?_)
  obtain ⟨hP1, hK1, hD1⟩ := hB1
  rw [ht] at hP1
  have hP' := keepW hP hD isC hC hk1 hP1
  exact kk H1 locs1 hP' hS1
theorem keepSI {r : Int32} (hM : CtI l y bytes maxL ret d E As wc wc r) (isC : List Nat) (hc : Cal y bytes maxL ret n) (hv : Cond.static y ∈ gtbl) (hlk : Cond.methodLink own index y ∈ gtbl) (cx : Cx p s m args meth c cc own nL rt E A) (hP : va_P E.1 vwCl ws H) (hD : va_D A ws) (hS : va_S A s.heap H locs) {lv : List (Nat × Value)} (hl : lv_has ls nL lv)
    (hdg : decode cc pc = .ok (.invokestatic index, 3)) (hlen : As.length = n) (hst : st0 = As.reverse ++ rest) (hw : (rest.map fun v => v.category).sum ≤ 8) (hR : d + 1 ≤ R.frames ∧ 8 + (maxL + 11) + 64 * d ≤ R.locals)
    (hC : isC.map (fun i => ws[i]?) = wc.map some) (hcn : va_nd isC = true)
    (kk : ∀ (H1 : Heap) (locs1 : List Loc), va_P E.1 vwCl ws H1 → va_S A s.heap H1 locs1 → W p l e R s m args below meth c H1 locs1 0 0 Q (F0 m (pc + 3) ls (.int r :: rest))) : W p l e R s m args below meth c H locs 0 0 Q (F0 m pc ls st0) := by
  have hB := callB' (R := R) (d := d) (index := index) cx hc hlk hR
  obtain ⟨⟨hx, hb, hml, hown, hts⟩, hr, hlocks, hK, hA, hX⟩ := cx
  obtain ⟨hPc, hDc⟩ := subPD hP hD isC hC hcn
  have hFc := va_free (wc := wc) hD hS hA isC hC
  refine va_calli (va_runS (As := As) (rest := rest) (cc := cc) (nL := nL) (n := n) ⟨hx, hb, hml, hown, hts⟩ (hM H.size) ⟨hB, hts _ hv⟩ ⟨PreB_blind, fun U hU hW => ⟨rfl, by rw [hU], by rw [hU]; exact hPc, va_K.moved hW.alike hK, hDc.weaken (fun _ _ _ _ => trivial), by rw [hU]; exact SX.warm hW ((hX.kept hS.2.1).narrow hFc)⟩⟩ rfl hlen hl.1 hst (by show 2 * 0 + _ ≤ 8; omega) hdg ⟨Nat.zero_le _, Nat.zero_le _⟩) hS (fun q _ h => hFc q h) hFc (fun r1 u t H1 locs1 ht hvm hw1 hB1 hz1 hk1 hS1 => ?_)
  obtain ⟨hP1, hK1, hD1⟩ := hB1
  rw [ht] at hP1
  have hP' := keepW hP hD isC hC hk1 hP1
  subst hw1
  exact kk H1 locs1 hP' hS1
theorem keepSL {r : Int64} (hM : CtL l y bytes maxL ret d E As wc wc r) (isC : List Nat) (hc : Cal y bytes maxL ret n) (hv : Cond.static y ∈ gtbl) (hlk : Cond.methodLink own index y ∈ gtbl) (cx : Cx p s m args meth c cc own nL rt E A) (hP : va_P E.1 vwCl ws H) (hD : va_D A ws) (hS : va_S A s.heap H locs) {lv : List (Nat × Value)} (hl : lv_has ls nL lv)
    (hdg : decode cc pc = .ok (.invokestatic index, 3)) (hlen : As.length = n) (hst : st0 = As.reverse ++ rest) (hw : (rest.map fun v => v.category).sum ≤ 8) (hR : d + 1 ≤ R.frames ∧ 8 + (maxL + 11) + 64 * d ≤ R.locals)
    (hC : isC.map (fun i => ws[i]?) = wc.map some) (hcn : va_nd isC = true)
    (kk : ∀ (H1 : Heap) (locs1 : List Loc), va_P E.1 vwCl ws H1 → va_S A s.heap H1 locs1 → W p l e R s m args below meth c H1 locs1 0 0 Q (F0 m (pc + 3) ls (.long r :: rest))) : W p l e R s m args below meth c H locs 0 0 Q (F0 m pc ls st0) := by
  have hB := callB' (R := R) (d := d) (index := index) cx hc hlk hR
  obtain ⟨⟨hx, hb, hml, hown, hts⟩, hr, hlocks, hK, hA, hX⟩ := cx
  obtain ⟨hPc, hDc⟩ := subPD hP hD isC hC hcn
  have hFc := va_free (wc := wc) hD hS hA isC hC
  refine va_calll (va_runS (As := As) (rest := rest) (cc := cc) (nL := nL) (n := n) ⟨hx, hb, hml, hown, hts⟩ (hM H.size) ⟨hB, hts _ hv⟩ ⟨PreB_blind, fun U hU hW => ⟨rfl, by rw [hU], by rw [hU]; exact hPc, va_K.moved hW.alike hK, hDc.weaken (fun _ _ _ _ => trivial), by rw [hU]; exact SX.warm hW ((hX.kept hS.2.1).narrow hFc)⟩⟩ rfl hlen hl.1 hst (by show 2 * 0 + _ ≤ 8; omega) hdg ⟨Nat.zero_le _, Nat.zero_le _⟩) hS (fun q _ h => hFc q h) hFc (fun r1 u t H1 locs1 ht hvm hw1 hB1 hz1 hk1 hS1 => ?_)
  obtain ⟨hP1, hK1, hD1⟩ := hB1
  rw [ht] at hP1
  have hP' := keepW hP hD isC hC hk1 hP1
  subst hw1
  exact kk H1 locs1 hP' hS1
theorem callSV (hM : CtV l y bytes maxL ret d E As wc wc') (isC : List Nat) (hc : Cal y bytes maxL ret n) (hv : Cond.static y ∈ gtbl) (hlk : Cond.methodLink own index y ∈ gtbl) (cx : Cx p s m args meth c cc own nL rt E A) (hP : va_P E.1 vwCl ws H) (hD : va_D A ws) (hS : va_S A s.heap H locs) {lv : List (Nat × Value)} (hl : lv_has ls nL lv)
    (hdg : decode cc pc = .ok (.invokestatic index, 3)) (hlen : As.length = n) (hst : st0 = As.reverse ++ rest) (hw : (rest.map fun v => v.category).sum ≤ 8) (hR : d + 1 ≤ R.frames ∧ 8 + (maxL + 11) + 64 * d ≤ R.locals)
    (hC : isC.map (fun i => ws[i]?) = wc.map some) (hcn : va_nd isC = true)  (hfst : wc'.map Prod.fst = wc.map Prod.fst) {n1 : Nat} (ps : List (Option Nat)) (hn1 : ws.length = n1) (hps : mixOk n1 isC ps = true) (hwn : mix ws ps wc' = wn)
    (kk : ∀ (H1 : Heap) (locs1 : List Loc), va_P E.1 vwCl wn H1 → va_D A wn → va_S A s.heap H1 locs1 → W p l e R s m args below meth c H1 locs1 0 0 Q (F0 m (pc + 3) ls rest)) : W p l e R s m args below meth c H locs 0 0 Q (F0 m pc ls st0) := by
  have hB := callB' (R := R) (d := d) (index := index) cx hc hlk hR
  obtain ⟨⟨hx, hb, hml, hown, hts⟩, hr, hlocks, hK, hA, hX⟩ := cx
  obtain ⟨hPc, hDc⟩ := subPD hP hD isC hC hcn
  have hFc := va_free (wc := wc) hD hS hA isC hC
  refine va_callv (va_runS (As := As) (rest := rest) (cc := cc) (nL := nL) (n := n) ⟨hx, hb, hml, hown, hts⟩ (hM H.size) ⟨hB, hts _ hv⟩ ⟨PreB_blind, fun U hU hW => ⟨rfl, by rw [hU], by rw [hU]; exact hPc, va_K.moved hW.alike hK, hDc.weaken (fun _ _ _ _ => trivial), by rw [hU]; exact SX.warm hW ((hX.kept hS.2.1).narrow hFc)⟩⟩ rfl hlen hl.1 hst (by show 2 * 0 + _ ≤ 8; omega) hdg ⟨Nat.zero_le _, Nat.zero_le _⟩) hS (fun q _ h => hFc q h) hFc (fun u t H1 locs1 ht hvm hw1 hB1 hz1 hk1 hS1 => ?_)
  obtain ⟨hP1, hK1, hD1⟩ := hB1
  rw [ht] at hP1
  obtain ⟨hP', hD'⟩ := joinW hP hD isC hC hfst hn1 hps hk1 hP1
  rw [hwn] at hP' hD'
  exact kk H1 locs1 hP' hD' hS1
theorem keepSV (hM : CtV l y bytes maxL ret d E As wc wc) (isC : List Nat) (hc : Cal y bytes maxL ret n) (hv : Cond.static y ∈ gtbl) (hlk : Cond.methodLink own index y ∈ gtbl) (cx : Cx p s m args meth c cc own nL rt E A) (hP : va_P E.1 vwCl ws H) (hD : va_D A ws) (hS : va_S A s.heap H locs) {lv : List (Nat × Value)} (hl : lv_has ls nL lv)
    (hdg : decode cc pc = .ok (.invokestatic index, 3)) (hlen : As.length = n) (hst : st0 = As.reverse ++ rest) (hw : (rest.map fun v => v.category).sum ≤ 8) (hR : d + 1 ≤ R.frames ∧ 8 + (maxL + 11) + 64 * d ≤ R.locals)
    (hC : isC.map (fun i => ws[i]?) = wc.map some) (hcn : va_nd isC = true)
    (kk : ∀ (H1 : Heap) (locs1 : List Loc), va_P E.1 vwCl ws H1 → va_S A s.heap H1 locs1 → W p l e R s m args below meth c H1 locs1 0 0 Q (F0 m (pc + 3) ls rest)) : W p l e R s m args below meth c H locs 0 0 Q (F0 m pc ls st0) := by
  have hB := callB' (R := R) (d := d) (index := index) cx hc hlk hR
  obtain ⟨⟨hx, hb, hml, hown, hts⟩, hr, hlocks, hK, hA, hX⟩ := cx
  obtain ⟨hPc, hDc⟩ := subPD hP hD isC hC hcn
  have hFc := va_free (wc := wc) hD hS hA isC hC
  refine va_callv (va_runS (As := As) (rest := rest) (cc := cc) (nL := nL) (n := n) ⟨hx, hb, hml, hown, hts⟩ (hM H.size) ⟨hB, hts _ hv⟩ ⟨PreB_blind, fun U hU hW => ⟨rfl, by rw [hU], by rw [hU]; exact hPc, va_K.moved hW.alike hK, hDc.weaken (fun _ _ _ _ => trivial), by rw [hU]; exact SX.warm hW ((hX.kept hS.2.1).narrow hFc)⟩⟩ rfl hlen hl.1 hst (by show 2 * 0 + _ ≤ 8; omega) hdg ⟨Nat.zero_le _, Nat.zero_le _⟩) hS (fun q _ h => hFc q h) hFc (fun u t H1 locs1 ht hvm hw1 hB1 hz1 hk1 hS1 => ?_)
  obtain ⟨hP1, hK1, hD1⟩ := hB1
  rw [ht] at hP1
  have hP' := keepW hP hD isC hC hk1 hP1
  exact kk H1 locs1 hP' hS1
theorem keepXI {r : Int32} (hM : CtI l y bytes maxL ret d E (.ref b :: As) wc wc r) (isC : List Nat) (hc : Cal y bytes maxL ret n) (hv : CalV y) (hlk : Cond.methodLink own index y ∈ gtbl) (cx : Cx p s m args meth c cc own nL rt E A) (hP : va_P E.1 vwCl ws H) (hD : va_D A ws) (hS : va_S A s.heap H locs) {lv : List (Nat × Value)} (hl : lv_has ls nL lv)
    (hdg : decode cc pc = .ok (.invokevirtual index, 3)) (hrec : ∃ cell : Cell, H[b]? = some cell ∧ cell.vm.isStatics = false ∧ s.vm.findClass y.cls = some cell.cls) (hlen : As.length = n) (hst : st0 = As.reverse ++ .ref b :: rest) (hw : (rest.map fun v => v.category).sum ≤ 8) (hR : d + 1 ≤ R.frames ∧ 8 + (maxL + 11) + 64 * d ≤ R.locals)
    (hC : isC.map (fun i => ws[i]?) = wc.map some) (hcn : va_nd isC = true)
    (kk : ∀ (H1 : Heap) (locs1 : List Loc), va_P E.1 vwCl ws H1 → va_S A s.heap H1 locs1 → W p l e R s m args below meth c H1 locs1 0 0 Q (F0 m (pc + 3) ls (.int r :: rest))) : W p l e R s m args below meth c H locs 0 0 Q (F0 m pc ls st0) := by
  have hB := callB' (R := R) (d := d) (index := index) cx hc hlk hR
  obtain ⟨⟨hx, hb, hml, hown, hts⟩, hr, hlocks, hK, hA, hX⟩ := cx
  obtain ⟨hPc, hDc⟩ := subPD hP hD isC hC hcn
  have hFc := va_free (wc := wc) hD hS hA isC hC
  refine va_calli (va_runV (As := As) (rest := rest) (b := b) (C := y.cls) (cc := cc) (nL := nL) (n := n) ⟨hx, hb, hml, hown, hts⟩ (hM H.size) ⟨hB, hts _ hv.1, hts _ hv.2⟩ ⟨PreB_blind, hrec, fun U hU hW => ⟨rfl, by rw [hU], by rw [hU]; exact hPc, va_K.moved hW.alike hK, hDc.weaken (fun _ _ _ _ => trivial), by rw [hU]; exact SX.warm hW ((hX.kept hS.2.1).narrow hFc)⟩⟩ rfl hlen hl.1 hst (by show 2 * 0 + _ ≤ 8; omega) hdg ⟨Nat.zero_le _, Nat.zero_le _⟩) hS (fun q _ h => hFc q h) hFc (fun r1 u t H1 locs1 ht hvm hw1 hB1 hz1 hk1 hS1 => ?_)
  obtain ⟨hP1, hK1, hD1⟩ := hB1
  rw [ht] at hP1
  have hP' := keepW hP hD isC hC hk1 hP1
  subst hw1
  exact kk H1 locs1 hP' hS1
end Calls
end Rows
