/-! THE LAYER: a state is a function (cell, place) -> int; the cells' references never change; every row of the kit, said over it. -/
-- the good words of the tables, the nest's words
def gw : List Cond := lw_tbl.filter goodWord
def isNest (w : Cond) : Bool := match w with
  | .fieldLinkNest .. => true
  | .methodLinkNest .. => true
  | .castable .. => true
  | .declares _ => true
  | _ => false
def nw : List Cond := lw_tbl.filter isNest
theorem gw_of {w : Cond} (h : w ∈ lw_tbl) (hg : goodWord w = true) : w ∈ gw := List.mem_filter.mpr ⟨h, hg⟩
theorem nw_of {w : Cond} (h : w ∈ lw_tbl) (hg : isNest w = true) : w ∈ nw := List.mem_filter.mpr ⟨h, hg⟩
/-- which of the thrown classes is none of the others: the catching rows ahead don't take it -/
def Ncz (U : State) : Prop := va_Nc "java/lang/IllegalStateException" "java/lang/IllegalArgumentException" U ∧ va_Nc "java/lang/UnsupportedOperationException" "java/lang/IllegalArgumentException" U ∧ va_Nc "java/lang/UnsupportedOperationException" "java/lang/IllegalStateException" U
def Nz (U : State) : Prop := (∀ w ∈ nw, va_Nw w U) ∧ Ncz U
theorem Ncz.move {s U : State} (hW : s.vm.Alike U.vm) (h : Ncz s) : Ncz U := ⟨h.1.moved hW, h.2.1.moved hW, h.2.2.moved hW⟩
theorem Nz.warm {s U : State} (hW : s.WarmedH U.vm) (h : Nz s) : Nz U := by
  refine ⟨?_, h.2.move hW.alike⟩
  intro w hw
  have h1 := h.1 w hw
  have h2 : isNest w = true := (List.mem_filter.mp hw).2
  cases w <;> first | exact va_Nw.warmF hW h1 | exact va_Nw.warmM hW h1 | exact va_tabs rfl (rfl : (s.setVm U.vm).vm = U.vm) ((Cond.castable_setVm (args := #[]) hW.alike _ _).trans h1) | exact va_tabs rfl (rfl : (s.setVm U.vm).vm = U.vm) ((Cond.declares_setVm (args := #[]) hW.alike _).trans h1) | (simp [isNest] at h2; done)
theorem Nz.same {u U : State} (hv : u.vm = U.vm) (h : Nz u) : Nz U := by
  refine ⟨?_, h.2.move (by rw [hv]; exact Vm.Alike.refl _)⟩
  intro w hw
  have h1 := h.1 w hw
  have h2 : isNest w = true := (List.mem_filter.mp hw).2
  cases w <;> first | exact va_Nw.same rfl hv h1 | (simp [isNest] at h2; done)
theorem gw_good {big : List Cond} (hb : ∀ w ∈ gw, w ∈ big) {y : MethodName} {cc : ByteArray} {n : Nat} {ret : Option FieldType} (h : Cond.code y cc n ret ∈ gw) : GoodIn big (Cond.code y cc n ret :: gw) := by
  intro w hw
  have h1 : w ∈ gw := by
    rcases List.mem_cons.mp hw with rfl | h1
    · exact h
    · exact h1
  exact ⟨hb w h1, good_of_word (List.mem_filter.mp h1).2⟩
-- the state
abbrev St : Type := Nat → Nat → Int32
def upr (σ : St) (i : Nat) (f : Nat → Int32) : St := fun j => if j = i then f else σ j
def up (σ : St) (i k : Nat) (v : Int32) : St := upr σ i (upd (σ i) k v)
def wd (rh : Nat → Nat) (rc : Nat → (Nat → Int32) → va_E) (n : Nat) (σ : St) : va_W := (List.range n).map (fun i => (rh i, rc i (σ i)))
theorem wd_at {rh : Nat → Nat} {rc : Nat → (Nat → Int32) → va_E} {n i : Nat} {σ : St} (h : i < n) : (wd rh rc n σ)[i]? = some (rh i, rc i (σ i)) := by
  simp [wd, h]
theorem wd_set {rh : Nat → Nat} {rc : Nat → (Nat → Int32) → va_E} {n i : Nat} {σ : St} (f : Nat → Int32) : (wd rh rc n σ).set i (rh i, rc i f) = wd rh rc n (upr σ i f) := by
  apply List.ext_getElem?
  intro j
  rw [List.getElem?_set]
  by_cases hj : i = j
  · subst hj
    by_cases hn : i < n
    · simp [wd, upr, hn]
    · simp [wd, hn]
  · have hj' : ¬ j = i := fun h => hj h.symm
    by_cases hn : j < n
    · simp [wd, upr, hj, hj', hn]
    · simp [wd, hj, hn]
theorem wd_A {rh : Nat → Nat} {rc : Nat → (Nat → Int32) → va_E} {n : Nat} {σ σ' : St} {sz q : Nat} (h : va_A (wd rh rc n σ) sz q) : va_A (wd rh rc n σ') sz q := by
  rcases h with ⟨k, e, h⟩ | h
  · refine Or.inl ⟨k, rc k (σ' k), ?_⟩
    by_cases hk : k < n
    · rw [wd_at hk] at h
      rw [wd_at hk]
      have h1 := Option.some.inj h
      rw [← (Prod.mk.inj h1).1]
    · simp [wd, hk] at h
  · exact Or.inr h
-- arithmetic as the machine does it
def ushr (x y : Int32) : Int32 := (x.toUInt32 >>> (y.toUInt32 &&& Int32.toUInt32 31)).toInt32
def shl (x y : Int32) : Int32 := x <<< (y &&& 31)
def sshr (x y : Int32) : Int32 := x >>> (y &&& 31)
-- two statics of Throwable that its constructor reads: where they lie, a reference in each, none of the world's cells
def Sx (n d : String) (A : Nat → Prop) (U : State) (H : Heap) : Prop := ∃ (c : ClassId) (k : Class) (i : Nat) (f : Field) (a : Nat) (cell : Cell) (v : Value), U.vm.findClass Bundle.tN = some c ∧ U.fieldFound? Bundle.tN n d = some (c, k, i, f) ∧ f.isStatic = true ∧ k.statics = some a ∧ H[a]? = some cell ∧ cell.vm.isStatics = true ∧ cell.cls = c ∧ f.slot < cell.slots.size ∧ k.staticTypes[f.slot]? = some f.type ∧ cell.slots[f.slot]? = some v ∧ v.isRef = true ∧ ¬ A a
theorem Sx.move {n d : String} {A B : Nat → Prop} {u U : State} {H H1 : Heap} (h : Sx n d A u H) (hvm : u.vm.Alike U.vm) (hq : ∀ a : Nat, a < H.size → ¬ A a → H1[a]? = H[a]?) (hB : ∀ q, B q → A q) : Sx n d B U H1 := by
  obtain ⟨c, k, i, f, a, cell, v, h1, h2, h3, h4, h5, h6, h7, h8, h9, h10, h11, h12⟩ := h
  obtain ⟨k', hi', he⟩ := State.fieldFound?_setVm hvm h2
  exact ⟨c, k', i, f, a, cell, v, by rw [hvm.findClass]; exact h1, hi', h3, by rw [he]; exact h4, by rw [hq a (Array.getElem?_eq_some_iff.mp h5).1 h12]; exact h5, h6, h7, h8, by rw [he]; exact h9, h10, h11, fun z => h12 (hB _ z)⟩
theorem Sx.lays {n d : String} {A : Nat → Prop} {s : State} {args : Array Value} (h : Sx n d A s s.heap) : (Cond.laysStatic Bundle.tN n d).before args s = true := by
  obtain ⟨c, k, i, f, a, cell, v, h1, h2, h3, h4, h5, h6, h7, h8, h9, -⟩ := h
  exact Cond.laysStatic_of h1 h2 h3 h4 h5 h6 h7 h8 h9
theorem Sx.ref {n d : String} {A : Nat → Prop} {s : State} {args : Array Value} (h : Sx n d A s s.heap) : (Cond.isRef (.static Bundle.tN n d)).before args s = true := by
  obtain ⟨c, k, i, f, a, cell, v, h1, h2, h3, h4, h5, h6, h7, h8, h9, h10, h11, -⟩ := h
  have he : (Term.static Bundle.tN n d).eval args s none [] s = some v := by
    simp [Term.eval, State.fieldNamed?, h2, h3, h4, h5, h6, h10]
  simp only [Cond.before, Cond.holds, Cond.value, he]
  cases v <;> simp_all [Value.isRef]
theorem Sx.of {n d : String} {A : Nat → Prop} {s : State} {args : Array Value} (hl : (Cond.laysStatic Bundle.tN n d).before args s = true) (hr : (Cond.isRef (.static Bundle.tN n d)).before args s = true) (hA : ∀ a : Nat, a < s.heap.size → ¬ A a) : Sx n d A s s.heap := by
  obtain ⟨c, k, i, f, a, cell, h1, h2, h3, h4, h5, h6, h7, h8, h9⟩ := Cond.laysStatic_spec hl
  have he : (Term.static Bundle.tN n d).eval args s none [] s = cell.slots[f.slot]? := by
    simp [Term.eval, State.fieldNamed?, h2, h3, h4, h5, h6]
  obtain ⟨v, hv⟩ : ∃ v, cell.slots[f.slot]? = some v := ⟨_, Array.getElem?_eq_getElem h8⟩
  rw [hv] at he
  have hr2 : v.isRef = true := by
    simp only [Cond.before, Cond.holds, Cond.value, he] at hr
    cases v <;> simp_all [Value.isRef]
  exact ⟨c, k, i, f, a, cell, v, h1, h2, h3, h4, h5, h6, h7, h8, h9, hv, hr2, hA a (Array.getElem?_eq_some_iff.mp h5).1⟩
def Sz (A : Nat → Prop) (U : State) (H : Heap) : Prop := Sx "UNASSIGNED_STACK" Bundle.steD A U H ∧ Sx "SUPPRESSED_SENTINEL" Bundle.listD A U H
theorem Sz.move {A B : Nat → Prop} {u U : State} {H H1 : Heap} (h : Sz A u H) (hvm : u.vm.Alike U.vm) (hq : ∀ a : Nat, a < H.size → ¬ A a → H1[a]? = H[a]?) (hB : ∀ q, B q → A q) : Sz B U H1 := ⟨h.1.move hvm hq hB, h.2.move hvm hq hB⟩
theorem wd_ns {D : va_G} {cl : List vw_C} {rh : Nat → Nat} {rc : Nat → (Nat → Int32) → va_E} {n : Nat} {σ : St} {H : Heap} (hP : va_P D cl (wd rh rc n σ) H) : ∀ q, va_A (wd rh rc n σ) H.size q → ∀ cell, H[q]? = some cell → cell.vm.isStatics = false := by
  intro q h cell hc
  rcases h with ⟨k, e, h⟩ | h
  · have h1 := hP k _ h
    cases e with
    | inl x =>
      have h2 : H[q]? = some (vp_cell x.1 x.2) := h1
      cases Option.some.inj (hc.symm.trans h2)
      obtain ⟨c0, n0, y⟩ := x
      rcases y with f | f | f | f | f <;> rfl
    | inr o =>
      obtain ⟨r, h2, cell2, g1, g2, g3, -⟩ := h1
      cases Option.some.inj (hc.symm.trans g1)
      rw [g3]; rfl
  · have h2 := (Array.getElem?_eq_some_iff.mp hc).1
    exact absurd h2 (Nat.not_lt.mpr h)
-- what holds in a method's body
def Cx (p : Program) (s : State) (m : MethodId) (args : Array Value) (meth : Method) (c : Code) (D : va_G) (tys : List (ClassId × FieldType)) (A : Nat → Prop) (cc : ByteArray) (nL : Nat) (own : String) : Prop :=
  p.tables.exec = Jvm.exec ∧ c.code = cc ∧ c.maxLocals = nL ∧ s.vm.findClass own = some m.cls ∧ (∀ w ∈ gw, w.before args s = true) ∧ va_K D vwCl tys s ∧ Nz s ∧ (∀ q, s.heap.size ≤ q → A q) ∧ meth.locks = false ∧ Sz A s s.heap ∧ ∀ q, A q → ∀ cell, s.heap[q]? = some cell → cell.vm.isStatics = false
def Vz (p : Program) (l : Launch) (e : Env) (R : Room) (s : State) (m : MethodId) (args : Array Value) (below : List Frame) (meth : Method) (c : Code) (D : va_G) (A : Nat → Prop) (nL : Nat) (rh : Nat → Nat) (rc : Nat → (Nat → Int32) → va_E) (n : Nat) (cells slots : Nat) (Q : State → Prop) (pc : Nat) (lv : List (Nat × Value)) (st : List Value) (σ : St) : Prop :=
  ∀ (H : Heap) (locs : List Loc) (ls : Array Slot), va_P D vwCl (wd rh rc n σ) H → va_D A (wd rh rc n σ) → va_S A s.heap H locs → lv_has ls nL lv → W p l e R s m args below meth c H locs cells slots Q (F0 m pc ls st)
section VZROWS
variable {p : Program} {l : Launch} {e : Env} {R : Room} {s : State} {m : MethodId} {args : Array Value} {below : List Frame} {meth : Method} {c : Code} {D : va_G} {tys : List (ClassId × FieldType)} {A : Nat → Prop} {cc : ByteArray} {nL : Nat} {own : String} {rh : Nat → Nat} {rc : Nat → (Nat → Int32) → va_E} {n : Nat} {cells slots : Nat} {Q : State → Prop} {pc : Nat} {lv lv' : List (Nat × Value)} {st : List Value} {σ : St}
theorem v_iconst (X : Cx p s m args meth c D tys A cc nL own) {k : Int} {v : Int32} (d : decode cc pc = .ok (.iconst k, 1)) (hv : Int32.ofInt k = v) (kk : Vz p l e R s m args below meth c D A nL rh rc n cells slots Q (pc + 1) lv (.int v :: st) σ) : Vz p l e R s m args below meth c D A nL rh rc n cells slots Q pc lv st σ :=
  fun H locs ls hP hD hS hl => lv_iconst X.1 X.2.1 d hv (kk H locs ls hP hD hS hl)
theorem v_bipush (X : Cx p s m args meth c D tys A cc nL own) {k : Int} {v : Int32} (d : decode cc pc = .ok (.bipush k, 2)) (hv : (Int8.ofInt k).toInt32 = v) (kk : Vz p l e R s m args below meth c D A nL rh rc n cells slots Q (pc + 2) lv (.int v :: st) σ) : Vz p l e R s m args below meth c D A nL rh rc n cells slots Q pc lv st σ :=
  fun H locs ls hP hD hS hl => lv_bipush X.1 X.2.1 d hv (kk H locs ls hP hD hS hl)
theorem v_sipush (X : Cx p s m args meth c D tys A cc nL own) {k : Int} {v : Int32} (d : decode cc pc = .ok (.sipush k, 3)) (hv : (Int16.ofInt k).toInt32 = v) (kk : Vz p l e R s m args below meth c D A nL rh rc n cells slots Q (pc + 3) lv (.int v :: st) σ) : Vz p l e R s m args below meth c D A nL rh rc n cells slots Q pc lv st σ :=
  fun H locs ls hP hD hS hl => lv_sipush X.1 X.2.1 d hv (kk H locs ls hP hD hS hl)
theorem v_ldc (X : Cx p s m args meth c D tys A cc nL own) {ix : Nat} {v : Int32} (hw : Cond.constant own ix v ∈ gw) (d : decode cc pc = .ok (.ldc ix, 2)) (kk : Vz p l e R s m args below meth c D A nL rh rc n cells slots Q (pc + 2) lv (.int v :: st) σ) : Vz p l e R s m args below meth c D A nL rh rc n cells slots Q pc lv st σ :=
  fun H locs ls hP hD hS hl => lv_ldc X.1 X.2.1 X.2.2.2.1 (X.2.2.2.2.1 _ hw) d (kk H locs ls hP hD hS hl)
theorem v_iload_n (X : Cx p s m args meth c D tys A cc nL own) {k : Fin 4} {i : Nat} {x : Int32} (q : Nat) (d : decode cc pc = .ok (.iload_n k, 1)) (hi : (k : Nat) = i) (hk : lv[q]? = some (i, .int x)) (kk : Vz p l e R s m args below meth c D A nL rh rc n cells slots Q (pc + 1) lv (.int x :: st) σ) : Vz p l e R s m args below meth c D A nL rh rc n cells slots Q pc lv st σ :=
  fun H locs ls hP hD hS hl => lv_iload_n X.1 X.2.1 d hi (lv_at hl q hk) (kk H locs ls hP hD hS hl)
theorem v_iload (X : Cx p s m args meth c D tys A cc nL own) {i : Nat} {x : Int32} (q : Nat) (d : decode cc pc = .ok (.iload i, 2)) (hk : lv[q]? = some (i, .int x)) (kk : Vz p l e R s m args below meth c D A nL rh rc n cells slots Q (pc + 2) lv (.int x :: st) σ) : Vz p l e R s m args below meth c D A nL rh rc n cells slots Q pc lv st σ :=
  fun H locs ls hP hD hS hl => lv_iload X.1 X.2.1 d (lv_at hl q hk) (kk H locs ls hP hD hS hl)
theorem v_aload_n (X : Cx p s m args meth c D tys A cc nL own) {k : Fin 4} {i : Nat} {x : Nat} (q : Nat) (d : decode cc pc = .ok (.aload_n k, 1)) (hi : (k : Nat) = i) (hk : lv[q]? = some (i, .ref x)) (kk : Vz p l e R s m args below meth c D A nL rh rc n cells slots Q (pc + 1) lv (.ref x :: st) σ) : Vz p l e R s m args below meth c D A nL rh rc n cells slots Q pc lv st σ :=
  fun H locs ls hP hD hS hl => lv_aload_n X.1 X.2.1 d hi (lv_at hl q hk) (kk H locs ls hP hD hS hl)
theorem v_aload (X : Cx p s m args meth c D tys A cc nL own) {i : Nat} {x : Nat} (q : Nat) (d : decode cc pc = .ok (.aload i, 2)) (hk : lv[q]? = some (i, .ref x)) (kk : Vz p l e R s m args below meth c D A nL rh rc n cells slots Q (pc + 2) lv (.ref x :: st) σ) : Vz p l e R s m args below meth c D A nL rh rc n cells slots Q pc lv st σ :=
  fun H locs ls hP hD hS hl => lv_aload X.1 X.2.1 d (lv_at hl q hk) (kk H locs ls hP hD hS hl)
theorem v_istore_n (X : Cx p s m args meth c D tys A cc nL own) {k : Fin 4} {i : Nat} {x : Int32} (d : decode cc pc = .ok (.istore_n k, 1)) (hi : (k : Nat) = i) (hn : i < nL) (hl' : (i, Value.int x) :: lv.filter (fun q => !(q.1 == i) && !(q.1 + 1 == i && q.2.category == 2)) = lv') (kk : Vz p l e R s m args below meth c D A nL rh rc n cells slots Q (pc + 1) lv' st σ) : Vz p l e R s m args below meth c D A nL rh rc n cells slots Q pc lv (.int x :: st) σ :=
  fun H locs ls hP hD hS hl => lv_istore_n X.1 X.2.1 d hi hl hn hl' (fun ls' hl2 => kk H locs ls' hP hD hS hl2)
theorem v_istore (X : Cx p s m args meth c D tys A cc nL own) {i : Nat} {x : Int32} (d : decode cc pc = .ok (.istore i, 2)) (hn : i < nL) (hl' : (i, Value.int x) :: lv.filter (fun q => !(q.1 == i) && !(q.1 + 1 == i && q.2.category == 2)) = lv') (kk : Vz p l e R s m args below meth c D A nL rh rc n cells slots Q (pc + 2) lv' st σ) : Vz p l e R s m args below meth c D A nL rh rc n cells slots Q pc lv (.int x :: st) σ :=
  fun H locs ls hP hD hS hl => lv_istore X.1 X.2.1 d hl hn hl' (fun ls' hl2 => kk H locs ls' hP hD hS hl2)
theorem v_astore_n (X : Cx p s m args meth c D tys A cc nL own) {k : Fin 4} {i : Nat} {x : Nat} (d : decode cc pc = .ok (.astore_n k, 1)) (hi : (k : Nat) = i) (hn : i < nL) (hl' : (i, Value.ref x) :: lv.filter (fun q => !(q.1 == i) && !(q.1 + 1 == i && q.2.category == 2)) = lv') (kk : Vz p l e R s m args below meth c D A nL rh rc n cells slots Q (pc + 1) lv' st σ) : Vz p l e R s m args below meth c D A nL rh rc n cells slots Q pc lv (.ref x :: st) σ :=
  fun H locs ls hP hD hS hl => lv_astore_n X.1 X.2.1 d hi hl hn hl' (fun ls' hl2 => kk H locs ls' hP hD hS hl2)
theorem v_astore (X : Cx p s m args meth c D tys A cc nL own) {i : Nat} {x : Nat} (d : decode cc pc = .ok (.astore i, 2)) (hn : i < nL) (hl' : (i, Value.ref x) :: lv.filter (fun q => !(q.1 == i) && !(q.1 + 1 == i && q.2.category == 2)) = lv') (kk : Vz p l e R s m args below meth c D A nL rh rc n cells slots Q (pc + 2) lv' st σ) : Vz p l e R s m args below meth c D A nL rh rc n cells slots Q pc lv (.ref x :: st) σ :=
  fun H locs ls hP hD hS hl => lv_astore X.1 X.2.1 d hl hn hl' (fun ls' hl2 => kk H locs ls' hP hD hS hl2)
theorem v_iinc (X : Cx p s m args meth c D tys A cc nL own) {i : Nat} {k : Int} {x v : Int32} (q : Nat) (d : decode cc pc = .ok (.iinc i k, 3)) (hk : lv[q]? = some (i, .int x)) (hv : x + Int32.ofInt k = v) (hn : i < nL) (hl' : (i, Value.int v) :: lv.filter (fun q => !(q.1 == i) && !(q.1 + 1 == i && q.2.category == 2)) = lv') (kk : Vz p l e R s m args below meth c D A nL rh rc n cells slots Q (pc + 3) lv' st σ) : Vz p l e R s m args below meth c D A nL rh rc n cells slots Q pc lv st σ :=
  fun H locs ls hP hD hS hl => lv_iinc X.1 X.2.1 d hl hk hv hn hl' (fun ls' hl2 => kk H locs ls' hP hD hS hl2)
theorem v_iadd (X : Cx p s m args meth c D tys A cc nL own) {x y : Int32} (d : decode cc pc = .ok (.iadd, 1)) (kk : Vz p l e R s m args below meth c D A nL rh rc n cells slots Q (pc + 1) lv (.int (x + y) :: st) σ) : Vz p l e R s m args below meth c D A nL rh rc n cells slots Q pc lv (.int y :: .int x :: st) σ :=
  fun H locs ls hP hD hS hl => lv_iadd X.1 X.2.1 d (kk H locs ls hP hD hS hl)
theorem v_isub (X : Cx p s m args meth c D tys A cc nL own) {x y : Int32} (d : decode cc pc = .ok (.isub, 1)) (kk : Vz p l e R s m args below meth c D A nL rh rc n cells slots Q (pc + 1) lv (.int (x - y) :: st) σ) : Vz p l e R s m args below meth c D A nL rh rc n cells slots Q pc lv (.int y :: .int x :: st) σ :=
  fun H locs ls hP hD hS hl => lv_isub X.1 X.2.1 d (kk H locs ls hP hD hS hl)
theorem v_imul (X : Cx p s m args meth c D tys A cc nL own) {x y : Int32} (d : decode cc pc = .ok (.imul, 1)) (kk : Vz p l e R s m args below meth c D A nL rh rc n cells slots Q (pc + 1) lv (.int (x * y) :: st) σ) : Vz p l e R s m args below meth c D A nL rh rc n cells slots Q pc lv (.int y :: .int x :: st) σ :=
  fun H locs ls hP hD hS hl => lv_imul X.1 X.2.1 d (kk H locs ls hP hD hS hl)
theorem v_iand (X : Cx p s m args meth c D tys A cc nL own) {x y : Int32} (d : decode cc pc = .ok (.iand, 1)) (kk : Vz p l e R s m args below meth c D A nL rh rc n cells slots Q (pc + 1) lv (.int (x &&& y) :: st) σ) : Vz p l e R s m args below meth c D A nL rh rc n cells slots Q pc lv (.int y :: .int x :: st) σ :=
  fun H locs ls hP hD hS hl => lv_iand X.1 X.2.1 d (kk H locs ls hP hD hS hl)
theorem v_ior (X : Cx p s m args meth c D tys A cc nL own) {x y : Int32} (d : decode cc pc = .ok (.ior, 1)) (kk : Vz p l e R s m args below meth c D A nL rh rc n cells slots Q (pc + 1) lv (.int (x ||| y) :: st) σ) : Vz p l e R s m args below meth c D A nL rh rc n cells slots Q pc lv (.int y :: .int x :: st) σ :=
  fun H locs ls hP hD hS hl => lv_ior X.1 X.2.1 d (kk H locs ls hP hD hS hl)
theorem v_ixor (X : Cx p s m args meth c D tys A cc nL own) {x y : Int32} (d : decode cc pc = .ok (.ixor, 1)) (kk : Vz p l e R s m args below meth c D A nL rh rc n cells slots Q (pc + 1) lv (.int (x ^^^ y) :: st) σ) : Vz p l e R s m args below meth c D A nL rh rc n cells slots Q pc lv (.int y :: .int x :: st) σ :=
  fun H locs ls hP hD hS hl => lv_ixor X.1 X.2.1 d (kk H locs ls hP hD hS hl)
theorem v_ishl (X : Cx p s m args meth c D tys A cc nL own) {x y : Int32} (d : decode cc pc = .ok (.ishl, 1)) (kk : Vz p l e R s m args below meth c D A nL rh rc n cells slots Q (pc + 1) lv (.int (shl x y) :: st) σ) : Vz p l e R s m args below meth c D A nL rh rc n cells slots Q pc lv (.int y :: .int x :: st) σ :=
  fun H locs ls hP hD hS hl => lv_ishl X.1 X.2.1 d (kk H locs ls hP hD hS hl)
theorem v_ishr (X : Cx p s m args meth c D tys A cc nL own) {x y : Int32} (d : decode cc pc = .ok (.ishr, 1)) (kk : Vz p l e R s m args below meth c D A nL rh rc n cells slots Q (pc + 1) lv (.int (sshr x y) :: st) σ) : Vz p l e R s m args below meth c D A nL rh rc n cells slots Q pc lv (.int y :: .int x :: st) σ :=
  fun H locs ls hP hD hS hl => lv_ishr X.1 X.2.1 d (kk H locs ls hP hD hS hl)
theorem v_iushr (X : Cx p s m args meth c D tys A cc nL own) {x y : Int32} (d : decode cc pc = .ok (.iushr, 1)) (kk : Vz p l e R s m args below meth c D A nL rh rc n cells slots Q (pc + 1) lv (.int (ushr x y) :: st) σ) : Vz p l e R s m args below meth c D A nL rh rc n cells slots Q pc lv (.int y :: .int x :: st) σ :=
  fun H locs ls hP hD hS hl => lv_iushr X.1 X.2.1 d rfl (kk H locs ls hP hD hS hl)
theorem v_idiv (X : Cx p s m args meth c D tys A cc nL own) {x y : Int32} (hne : ¬ y = 0) (d : decode cc pc = .ok (.idiv, 1)) (kk : Vz p l e R s m args below meth c D A nL rh rc n cells slots Q (pc + 1) lv (.int (x / y) :: st) σ) : Vz p l e R s m args below meth c D A nL rh rc n cells slots Q pc lv (.int y :: .int x :: st) σ :=
  fun H locs ls hP hD hS hl => lv_idiv X.1 X.2.1 d hne (kk H locs ls hP hD hS hl)
theorem v_irem (X : Cx p s m args meth c D tys A cc nL own) {x y : Int32} (hne : ¬ y = 0) (d : decode cc pc = .ok (.irem, 1)) (kk : Vz p l e R s m args below meth c D A nL rh rc n cells slots Q (pc + 1) lv (.int (x - x / y * y) :: st) σ) : Vz p l e R s m args below meth c D A nL rh rc n cells slots Q pc lv (.int y :: .int x :: st) σ :=
  fun H locs ls hP hD hS hl => lv_irem X.1 X.2.1 d hne (kk H locs ls hP hD hS hl)
theorem v_ineg (X : Cx p s m args meth c D tys A cc nL own) {x : Int32} (d : decode cc pc = .ok (.ineg, 1)) (kk : Vz p l e R s m args below meth c D A nL rh rc n cells slots Q (pc + 1) lv (.int (-x) :: st) σ) : Vz p l e R s m args below meth c D A nL rh rc n cells slots Q pc lv (.int x :: st) σ :=
  fun H locs ls hP hD hS hl => lv_ineg X.1 X.2.1 d (kk H locs ls hP hD hS hl)
theorem v_dup (X : Cx p s m args meth c D tys A cc nL own) {va : Value} (d : decode cc pc = .ok (.dup, 1)) (hv : va.category = 1) (kk : Vz p l e R s m args below meth c D A nL rh rc n cells slots Q (pc + 1) lv (va :: va :: st) σ) : Vz p l e R s m args below meth c D A nL rh rc n cells slots Q pc lv (va :: st) σ :=
  fun H locs ls hP hD hS hl => lv_dup X.1 X.2.1 d hv (kk H locs ls hP hD hS hl)
theorem v_dup2 (X : Cx p s m args meth c D tys A cc nL own) {va vb : Value} (d : decode cc pc = .ok (.dup2, 1)) (hv : va.category = 1) (hw : vb.category = 1) (kk : Vz p l e R s m args below meth c D A nL rh rc n cells slots Q (pc + 1) lv (va :: vb :: va :: vb :: st) σ) : Vz p l e R s m args below meth c D A nL rh rc n cells slots Q pc lv (va :: vb :: st) σ :=
  fun H locs ls hP hD hS hl => lv_dup2_11 X.1 X.2.1 d hv hw (kk H locs ls hP hD hS hl)
theorem v_dup_x1 (X : Cx p s m args meth c D tys A cc nL own) {va vb : Value} (d : decode cc pc = .ok (.dup_x1, 1)) (hv : va.category = 1) (hw : vb.category = 1) (kk : Vz p l e R s m args below meth c D A nL rh rc n cells slots Q (pc + 1) lv (va :: vb :: va :: st) σ) : Vz p l e R s m args below meth c D A nL rh rc n cells slots Q pc lv (va :: vb :: st) σ :=
  fun H locs ls hP hD hS hl => lv_dup_x1 X.1 X.2.1 d hv hw (kk H locs ls hP hD hS hl)
theorem v_dup_x2 (X : Cx p s m args meth c D tys A cc nL own) {va vb vd : Value} (d : decode cc pc = .ok (.dup_x2, 1)) (hv : va.category = 1) (hw : vb.category = 1) (hu : vd.category = 1) (kk : Vz p l e R s m args below meth c D A nL rh rc n cells slots Q (pc + 1) lv (va :: vb :: vd :: va :: st) σ) : Vz p l e R s m args below meth c D A nL rh rc n cells slots Q pc lv (va :: vb :: vd :: st) σ :=
  fun H locs ls hP hD hS hl => lv_dup_x2 X.1 X.2.1 d hv hw hu (kk H locs ls hP hD hS hl)
theorem v_pop (X : Cx p s m args meth c D tys A cc nL own) {va : Value} (d : decode cc pc = .ok (.pop, 1)) (hv : va.category = 1) (kk : Vz p l e R s m args below meth c D A nL rh rc n cells slots Q (pc + 1) lv st σ) : Vz p l e R s m args below meth c D A nL rh rc n cells slots Q pc lv (va :: st) σ :=
  fun H locs ls hP hD hS hl => lv_pop X.1 X.2.1 d hv (kk H locs ls hP hD hS hl)
theorem v_goto (X : Cx p s m args meth c D tys A cc nL own) {off : Int} {tgt : Nat} (d : decode cc pc = .ok (.goto off, 3)) (ht : (pc : Int) + off = (tgt : Int)) (kk : Vz p l e R s m args below meth c D A nL rh rc n cells slots Q tgt lv st σ) : Vz p l e R s m args below meth c D A nL rh rc n cells slots Q pc lv st σ :=
  fun H locs ls hP hD hS hl => lv_goto X.1 X.2.1 d ht (kk H locs ls hP hD hS hl)
theorem v_if_eq (X : Cx p s m args meth c D tys A cc nL own) {x : Int32} {off : Int} (tgt : Nat) (d : decode cc pc = .ok (.ifCond .eq off, 3)) (ht : (pc : Int) + off = (tgt : Int)) (kt : x = 0 → Vz p l e R s m args below meth c D A nL rh rc n cells slots Q tgt lv st σ) (kf : ¬ x = 0 → Vz p l e R s m args below meth c D A nL rh rc n cells slots Q (pc + 3) lv st σ) : Vz p l e R s m args below meth c D A nL rh rc n cells slots Q pc lv (.int x :: st) σ :=
  fun H locs ls hP hD hS hl => lv_if_eq X.1 X.2.1 d ht (fun h => kt h H locs ls hP hD hS hl) (fun h => kf h H locs ls hP hD hS hl)
theorem v_icmp_eq (X : Cx p s m args meth c D tys A cc nL own) {x y : Int32} {off : Int} (tgt : Nat) (d : decode cc pc = .ok (.if_icmp .eq off, 3)) (ht : (pc : Int) + off = (tgt : Int)) (kt : x = y → Vz p l e R s m args below meth c D A nL rh rc n cells slots Q tgt lv st σ) (kf : ¬ x = y → Vz p l e R s m args below meth c D A nL rh rc n cells slots Q (pc + 3) lv st σ) : Vz p l e R s m args below meth c D A nL rh rc n cells slots Q pc lv (.int y :: .int x :: st) σ :=
  fun H locs ls hP hD hS hl => lv_icmp_eq X.1 X.2.1 d ht (fun h => kt h H locs ls hP hD hS hl) (fun h => kf h H locs ls hP hD hS hl)
theorem v_if_ne (X : Cx p s m args meth c D tys A cc nL own) {x : Int32} {off : Int} (tgt : Nat) (d : decode cc pc = .ok (.ifCond .ne off, 3)) (ht : (pc : Int) + off = (tgt : Int)) (kt : ¬ x = 0 → Vz p l e R s m args below meth c D A nL rh rc n cells slots Q tgt lv st σ) (kf : x = 0 → Vz p l e R s m args below meth c D A nL rh rc n cells slots Q (pc + 3) lv st σ) : Vz p l e R s m args below meth c D A nL rh rc n cells slots Q pc lv (.int x :: st) σ :=
  fun H locs ls hP hD hS hl => lv_if_ne X.1 X.2.1 d ht (fun h => kt h H locs ls hP hD hS hl) (fun h => kf h H locs ls hP hD hS hl)
theorem v_icmp_ne (X : Cx p s m args meth c D tys A cc nL own) {x y : Int32} {off : Int} (tgt : Nat) (d : decode cc pc = .ok (.if_icmp .ne off, 3)) (ht : (pc : Int) + off = (tgt : Int)) (kt : ¬ x = y → Vz p l e R s m args below meth c D A nL rh rc n cells slots Q tgt lv st σ) (kf : x = y → Vz p l e R s m args below meth c D A nL rh rc n cells slots Q (pc + 3) lv st σ) : Vz p l e R s m args below meth c D A nL rh rc n cells slots Q pc lv (.int y :: .int x :: st) σ :=
  fun H locs ls hP hD hS hl => lv_icmp_ne X.1 X.2.1 d ht (fun h => kt h H locs ls hP hD hS hl) (fun h => kf h H locs ls hP hD hS hl)
theorem v_if_lt (X : Cx p s m args meth c D tys A cc nL own) {x : Int32} {off : Int} (tgt : Nat) (d : decode cc pc = .ok (.ifCond .lt off, 3)) (ht : (pc : Int) + off = (tgt : Int)) (kt : x < 0 → Vz p l e R s m args below meth c D A nL rh rc n cells slots Q tgt lv st σ) (kf : ¬ x < 0 → Vz p l e R s m args below meth c D A nL rh rc n cells slots Q (pc + 3) lv st σ) : Vz p l e R s m args below meth c D A nL rh rc n cells slots Q pc lv (.int x :: st) σ :=
  fun H locs ls hP hD hS hl => lv_if_lt X.1 X.2.1 d ht (fun h => kt h H locs ls hP hD hS hl) (fun h => kf h H locs ls hP hD hS hl)
theorem v_icmp_lt (X : Cx p s m args meth c D tys A cc nL own) {x y : Int32} {off : Int} (tgt : Nat) (d : decode cc pc = .ok (.if_icmp .lt off, 3)) (ht : (pc : Int) + off = (tgt : Int)) (kt : x < y → Vz p l e R s m args below meth c D A nL rh rc n cells slots Q tgt lv st σ) (kf : ¬ x < y → Vz p l e R s m args below meth c D A nL rh rc n cells slots Q (pc + 3) lv st σ) : Vz p l e R s m args below meth c D A nL rh rc n cells slots Q pc lv (.int y :: .int x :: st) σ :=
  fun H locs ls hP hD hS hl => lv_icmp_lt X.1 X.2.1 d ht (fun h => kt h H locs ls hP hD hS hl) (fun h => kf h H locs ls hP hD hS hl)
theorem v_if_ge (X : Cx p s m args meth c D tys A cc nL own) {x : Int32} {off : Int} (tgt : Nat) (d : decode cc pc = .ok (.ifCond .ge off, 3)) (ht : (pc : Int) + off = (tgt : Int)) (kt : 0 ≤ x → Vz p l e R s m args below meth c D A nL rh rc n cells slots Q tgt lv st σ) (kf : ¬ 0 ≤ x → Vz p l e R s m args below meth c D A nL rh rc n cells slots Q (pc + 3) lv st σ) : Vz p l e R s m args below meth c D A nL rh rc n cells slots Q pc lv (.int x :: st) σ :=
  fun H locs ls hP hD hS hl => lv_if_ge X.1 X.2.1 d ht (fun h => kt h H locs ls hP hD hS hl) (fun h => kf h H locs ls hP hD hS hl)
theorem v_icmp_ge (X : Cx p s m args meth c D tys A cc nL own) {x y : Int32} {off : Int} (tgt : Nat) (d : decode cc pc = .ok (.if_icmp .ge off, 3)) (ht : (pc : Int) + off = (tgt : Int)) (kt : y ≤ x → Vz p l e R s m args below meth c D A nL rh rc n cells slots Q tgt lv st σ) (kf : ¬ y ≤ x → Vz p l e R s m args below meth c D A nL rh rc n cells slots Q (pc + 3) lv st σ) : Vz p l e R s m args below meth c D A nL rh rc n cells slots Q pc lv (.int y :: .int x :: st) σ :=
  fun H locs ls hP hD hS hl => lv_icmp_ge X.1 X.2.1 d ht (fun h => kt h H locs ls hP hD hS hl) (fun h => kf h H locs ls hP hD hS hl)
theorem v_if_gt (X : Cx p s m args meth c D tys A cc nL own) {x : Int32} {off : Int} (tgt : Nat) (d : decode cc pc = .ok (.ifCond .gt off, 3)) (ht : (pc : Int) + off = (tgt : Int)) (kt : 0 < x → Vz p l e R s m args below meth c D A nL rh rc n cells slots Q tgt lv st σ) (kf : ¬ 0 < x → Vz p l e R s m args below meth c D A nL rh rc n cells slots Q (pc + 3) lv st σ) : Vz p l e R s m args below meth c D A nL rh rc n cells slots Q pc lv (.int x :: st) σ :=
  fun H locs ls hP hD hS hl => lv_if_gt X.1 X.2.1 d ht (fun h => kt h H locs ls hP hD hS hl) (fun h => kf h H locs ls hP hD hS hl)
theorem v_icmp_gt (X : Cx p s m args meth c D tys A cc nL own) {x y : Int32} {off : Int} (tgt : Nat) (d : decode cc pc = .ok (.if_icmp .gt off, 3)) (ht : (pc : Int) + off = (tgt : Int)) (kt : y < x → Vz p l e R s m args below meth c D A nL rh rc n cells slots Q tgt lv st σ) (kf : ¬ y < x → Vz p l e R s m args below meth c D A nL rh rc n cells slots Q (pc + 3) lv st σ) : Vz p l e R s m args below meth c D A nL rh rc n cells slots Q pc lv (.int y :: .int x :: st) σ :=
  fun H locs ls hP hD hS hl => lv_icmp_gt X.1 X.2.1 d ht (fun h => kt h H locs ls hP hD hS hl) (fun h => kf h H locs ls hP hD hS hl)
theorem v_if_le (X : Cx p s m args meth c D tys A cc nL own) {x : Int32} {off : Int} (tgt : Nat) (d : decode cc pc = .ok (.ifCond .le off, 3)) (ht : (pc : Int) + off = (tgt : Int)) (kt : x ≤ 0 → Vz p l e R s m args below meth c D A nL rh rc n cells slots Q tgt lv st σ) (kf : ¬ x ≤ 0 → Vz p l e R s m args below meth c D A nL rh rc n cells slots Q (pc + 3) lv st σ) : Vz p l e R s m args below meth c D A nL rh rc n cells slots Q pc lv (.int x :: st) σ :=
  fun H locs ls hP hD hS hl => lv_if_le X.1 X.2.1 d ht (fun h => kt h H locs ls hP hD hS hl) (fun h => kf h H locs ls hP hD hS hl)
theorem v_icmp_le (X : Cx p s m args meth c D tys A cc nL own) {x y : Int32} {off : Int} (tgt : Nat) (d : decode cc pc = .ok (.if_icmp .le off, 3)) (ht : (pc : Int) + off = (tgt : Int)) (kt : x ≤ y → Vz p l e R s m args below meth c D A nL rh rc n cells slots Q tgt lv st σ) (kf : ¬ x ≤ y → Vz p l e R s m args below meth c D A nL rh rc n cells slots Q (pc + 3) lv st σ) : Vz p l e R s m args below meth c D A nL rh rc n cells slots Q pc lv (.int y :: .int x :: st) σ :=
  fun H locs ls hP hD hS hl => lv_icmp_le X.1 X.2.1 d ht (fun h => kt h H locs ls hP hD hS hl) (fun h => kf h H locs ls hP hD hS hl)
theorem v_tswI (X : Cx p s m args meth c D tys A cc nL own) {dflt lo hi : Int} {offs : Array Int} {len : Nat} {x : Int32} {off : Int} (v : Int32) (tgt : Nat) (hx : x = v) (d : decode cc pc = .ok (.tableswitch dflt lo hi offs, len)) (h : (decide (lo ≤ v.toInt) && (decide (v.toInt ≤ hi) && decide (offs[(v.toInt - lo).toNat]? = some off))) = true) (ht : (pc : Int) + off = (tgt : Int)) (kk : Vz p l e R s m args below meth c D A nL rh rc n cells slots Q tgt lv st σ) : Vz p l e R s m args below meth c D A nL rh rc n cells slots Q pc lv (.int x :: st) σ := by
  subst hx
  simp only [Bool.and_eq_true, decide_eq_true_eq] at h
  exact fun H locs ls hP hD hS hl => lv_tableIn X.1 X.2.1 d (by omega) (by omega) h.2.2 ht (kk H locs ls hP hD hS hl)
theorem v_tswO (X : Cx p s m args meth c D tys A cc nL own) {dflt lo hi : Int} {offs : Array Int} {len : Nat} {x : Int32} (tgt : Nat) (d : decode cc pc = .ok (.tableswitch dflt lo hi offs, len)) (h : x.toInt < lo ∨ hi < x.toInt) (ht : (pc : Int) + dflt = (tgt : Int)) (kk : Vz p l e R s m args below meth c D A nL rh rc n cells slots Q tgt lv st σ) : Vz p l e R s m args below meth c D A nL rh rc n cells slots Q pc lv (.int x :: st) σ :=
  fun H locs ls hP hD hS hl => lv_tableOut X.1 X.2.1 d h ht (kk H locs ls hP hD hS hl)
theorem v_lsw (X : Cx p s m args meth c D tys A cc nL own) {dflt : Int} {ps : Array (Int × Int)} {len : Nat} {x : Int32} {off : Int} (tgt : Nat) (d : decode cc pc = .ok (.lookupswitch dflt ps, len)) (hp : (ps.toList.zip (ps.toList.drop 1)).all (fun (a, next) => a.1 < next.1) = true) (ho : Op.lookupswitch.offset ps.toList dflt x.toInt = off) (ht : (pc : Int) + off = (tgt : Int)) (kk : Vz p l e R s m args below meth c D A nL rh rc n cells slots Q tgt lv st σ) : Vz p l e R s m args below meth c D A nL rh rc n cells slots Q pc lv (.int x :: st) σ :=
  fun H locs ls hP hD hS hl => lv_lookup X.1 X.2.1 d hp ho ht (kk H locs ls hP hD hS hl)
theorem v_suff {pc2 : Nat} {lv2 : List (Nat × Value)} {st2 : List Value} {σ2 : St} (kk : Vz p l e R s m args below meth c D A nL rh rc n cells slots Q pc2 lv2 st2 σ2) (h : Vz p l e R s m args below meth c D A nL rh rc n cells slots Q pc2 lv2 st2 σ2 → Vz p l e R s m args below meth c D A nL rh rc n cells slots Q pc lv st σ) : Vz p l e R s m args below meth c D A nL rh rc n cells slots Q pc lv st σ := h kk
theorem v_lv (is : List Nat) (h : lv_pick lv is = lv') (kk : Vz p l e R s m args below meth c D A nL rh rc n cells slots Q pc lv' st σ) : Vz p l e R s m args below meth c D A nL rh rc n cells slots Q pc lv st σ :=
  fun H locs ls hP hD hS hl => kk H locs ls hP hD hS (lv_sub hl is h)
theorem v_getI (X : Cx p s m args meth c D tys A cc nL own) {ci i ix N k : Nat} {C ref : String} {T : u_T} {F : (Nat → Int32) → List Value} (hi : i < n) (hr : ∀ f, rc i f = .inr (ci, F f)) (hc : vwCl[ci]? = some (C, T, N)) (hin : ∀ w ∈ u_ws C T N, w ∈ gw) (hk : k < N) (hw : Cond.fieldLink own ix ref (T k).2.1 (T k).2.2.1 ∈ gw) (hsm : ref = (T k).1) (hv : ∀ f, (F f)[k]? = some (.int (f k))) (d : decode cc pc = .ok (.getfield ix, 3)) (kk : Vz p l e R s m args below meth c D A nL rh rc n cells slots Q (pc + 3) lv (.int (σ i k) :: st) σ) : Vz p l e R s m args below meth c D A nL rh rc n cells slots Q pc lv (.ref (rh i) :: st) σ :=
  fun H locs ls hP hD hS hl => va_get X.1 X.2.1 X.2.2.2.2.1 hin X.2.2.2.1 X.2.2.2.2.2.1 hP i (by rw [wd_at hi, hr]) hc k hk (X.2.2.2.2.1 _ hw) (fun _ h9 => by rw [hsm]; exact h9) (hv (σ i)) d (kk H locs ls hP hD hS hl)
theorem v_getR (X : Cx p s m args meth c D tys A cc nL own) {ci i ix N k : Nat} {C ref : String} {T : u_T} {F : (Nat → Int32) → List Value} {j : Nat} (hi : i < n) (hr : ∀ f, rc i f = .inr (ci, F f)) (hc : vwCl[ci]? = some (C, T, N)) (hin : ∀ w ∈ u_ws C T N, w ∈ gw) (hk : k < N) (hw : Cond.fieldLink own ix ref (T k).2.1 (T k).2.2.1 ∈ gw) (hsm : ref = (T k).1) (hv : ∀ f, (F f)[k]? = some (.ref (rh j))) (d : decode cc pc = .ok (.getfield ix, 3)) (kk : Vz p l e R s m args below meth c D A nL rh rc n cells slots Q (pc + 3) lv (.ref (rh j) :: st) σ) : Vz p l e R s m args below meth c D A nL rh rc n cells slots Q pc lv (.ref (rh i) :: st) σ :=
  fun H locs ls hP hD hS hl => va_get X.1 X.2.1 X.2.2.2.2.1 hin X.2.2.2.1 X.2.2.2.2.2.1 hP i (by rw [wd_at hi, hr]) hc k hk (X.2.2.2.2.1 _ hw) (fun _ h9 => by rw [hsm]; exact h9) (hv (σ i)) d (kk H locs ls hP hD hS hl)
theorem v_put (X : Cx p s m args meth c D tys A cc nL own) {ci i ix N k : Nat} {C ref : String} {T : u_T} {F : (Nat → Int32) → List Value} {x : Int32} {ty : FieldType} (hi : i < n) (hr : ∀ f, rc i f = .inr (ci, F f)) (hc : vwCl[ci]? = some (C, T, N)) (hin : ∀ w ∈ u_ws C T N, w ∈ gw) (hk : k < N) (ty0 : Nat → FieldType) (hty : ∀ k, k < N → parseFieldDescriptor (T k).2.2.1 = some (ty0 k)) (hnm : ∀ a, a < N → ∀ b, b < N → a ≠ b → (T a).2.1 ≠ (T b).2.1) (hw : Cond.fieldLink own ix ref (T k).2.1 (T k).2.2.1 ∈ gw) (hsm : ref = (T k).1) (hfin : (T k).2.2.2 = false) (hd : parseFieldDescriptor (T k).2.2.1 = some ty) (hn : narrow ty (.int x) = .int x) (hfit : fits ty (.int x) = true) (hl9 : ∀ f, k < (F f).length) (hF : ∀ (f : Nat → Int32) (y : Int32), F (upd f k y) = (F f).set k (.int y)) (d : decode cc pc = .ok (.putfield ix, 3)) (kk : Vz p l e R s m args below meth c D A nL rh rc n cells slots Q (pc + 3) lv st (up σ i k x)) : Vz p l e R s m args below meth c D A nL rh rc n cells slots Q pc lv (.int x :: .ref (rh i) :: st) σ := by
  intro H locs ls hP hD hS hl
  refine va_put X.1 X.2.1 X.2.2.2.2.1 hin ty0 hty hnm X.2.2.2.1 X.2.2.2.2.2.1 hP hD hS i (by rw [wd_at hi, hr]) hc k hk (X.2.2.2.2.1 _ hw) (fun _ h9 => by rw [hsm]; exact h9) hfin hd hn hfit (hl9 _) d (fun H1 locs1 hP1 hD1 hS1 => ?_)
  rw [← hF, ← hr, wd_set] at hP1 hD1
  exact kk H1 locs1 ls hP1 hD1 hS1 hl
theorem v_iald (X : Cx p s m args meth c D tys A cc nL own) {i N t0 : Nat} {cA : ClassId} {j : Int32} (hi : i < n) (hr : ∀ f, rc i f = .inl (cA, N, .inl f)) (ht : tys[t0]? = some (cA, .int)) (hin : vp_in j N) (d : decode cc pc = .ok (.iaload, 1)) (kk : Vz p l e R s m args below meth c D A nL rh rc n cells slots Q (pc + 1) lv (.int (σ i j.toNatClampNeg) :: st) σ) : Vz p l e R s m args below meth c D A nL rh rc n cells slots Q pc lv (.int j :: .ref (rh i) :: st) σ :=
  fun H locs ls hP hD hS hl => va_iald X.1 X.2.1 X.2.2.2.2.2.1 hP i t0 (by rw [wd_at hi, hr]) ht hin d (kk H locs ls hP hD hS hl)
theorem v_iast (X : Cx p s m args meth c D tys A cc nL own) {i N t0 : Nat} {cA : ClassId} {j x : Int32} (hi : i < n) (hr : ∀ f, rc i f = .inl (cA, N, .inl f)) (ht : tys[t0]? = some (cA, .int)) (hin : vp_in j N) (d : decode cc pc = .ok (.iastore, 1)) (kk : Vz p l e R s m args below meth c D A nL rh rc n cells slots Q (pc + 1) lv st (up σ i j.toNatClampNeg x)) : Vz p l e R s m args below meth c D A nL rh rc n cells slots Q pc lv (.int x :: .int j :: .ref (rh i) :: st) σ := by
  intro H locs ls hP hD hS hl
  refine va_iast X.1 X.2.1 X.2.2.2.2.2.1 hP hD hS i t0 (by rw [wd_at hi, hr]) ht hin d (fun H1 locs1 hP1 hD1 hS1 => ?_)
  rw [← hr, wd_set] at hP1 hD1
  exact kk H1 locs1 ls hP1 hD1 hS1 hl
theorem v_aald (X : Cx p s m args meth c D tys A cc nL own) {i N t0 : Nat} {cA : ClassId} {C : String} {g : Nat → Nat} {j : Int32} (hi : i < n) (hr : ∀ f, rc i f = .inl (cA, N, .inr (.inr (.inr (.inr (fun k => some (rh (g k)))))))) (ht : tys[t0]? = some (cA, .object C)) (hin : vp_in j N) (d : decode cc pc = .ok (.aaload, 1)) (kk : Vz p l e R s m args below meth c D A nL rh rc n cells slots Q (pc + 1) lv (.ref (rh (g j.toNatClampNeg)) :: st) σ) : Vz p l e R s m args below meth c D A nL rh rc n cells slots Q pc lv (.int j :: .ref (rh i) :: st) σ :=
  fun H locs ls hP hD hS hl => va_aldq (f := fun k => some (rh (g k))) X.1 X.2.1 X.2.2.2.2.2.1 hP i t0 (by rw [wd_at hi, hr]) ht hin d (kk H locs ls hP hD hS hl)
theorem v_copy (X : Cx p s m args meth c D tys A cc nL own) {i1 i2 N1 N2 t0 ix : Nat} {cA : ClassId} {sp dp k : Int32} (hi1 : i1 < n) (hr1 : ∀ f, rc i1 f = .inl (cA, N1, .inl f)) (hi2 : i2 < n) (hr2 : ∀ f, rc i2 f = .inl (cA, N2, .inl f)) (ht : tys[t0]? = some (cA, .int)) (hw1 : Cond.methodLink own ix arraycopyName ∈ gw) (hw2 : Cond.native arraycopyName ∈ gw) (hw3 : Cond.static arraycopyName ∈ gw) (hw4 : Cond.initialized "java/lang/System" ∈ gw)
    (h1 : ¬ sp < 0) (h2 : ¬ dp < 0) (h3 : ¬ k < 0) (h4 : sp.toNatClampNeg + k.toNatClampNeg ≤ N1) (h5 : dp.toNatClampNeg + k.toNatClampNeg ≤ N2) (hfr : 1 ≤ R.frames) (hlo : (st.map fun v => v.category).sum + (nativeFrameWords "java/lang/System" "arraycopy" 5 + 11) ≤ R.locals) (d : decode cc pc = .ok (.invokestatic ix, 3)) (kk : Vz p l e R s m args below meth c D A nL rh rc n cells slots Q (pc + 3) lv st (upr σ i2 (va_cpy (σ i1) (σ i2) sp.toNatClampNeg dp.toNatClampNeg k.toNatClampNeg))) : Vz p l e R s m args below meth c D A nL rh rc n cells slots Q pc lv (.int k :: .int dp :: .ref (rh i2) :: .int sp :: .ref (rh i1) :: st) σ := by
  intro H locs ls hP hD hS hl
  refine va_copyi X.1 X.2.1 (X.2.2.1.trans hl.1.symm) X.2.2.2.1 (X.2.2.2.2.1 _ hw1) (X.2.2.2.2.1 _ hw2) (X.2.2.2.2.1 _ hw3) (X.2.2.2.2.1 _ hw4) X.2.2.2.2.2.1 hP hD hS i1 i2 t0 t0 (by rw [wd_at hi1, hr1]) (by rw [wd_at hi2, hr2]) ht ht rfl h1 h2 h3 h4 h5 (fun _ _ => rfl) hfr hlo d (fun H1 locs1 hP1 hD1 hS1 => ?_)
  rw [← hr2, wd_set] at hP1 hD1
  exact kk H1 locs1 ls hP1 hD1 hS1 hl
end VZROWS
-- contracts: from the state σ to the state σ', with an answer
def Rz (d : Nat) : Room := { frames := d, cells := 0, slots := 0, locals := 30 * d }
def Rq (d k n : Nat) : Room := { frames := d, cells := k, slots := n, locals := 30 * d }
def Pz (D : va_G) (tys : List (ClassId × FieldType)) (rh : Nat → Nat) (rc : Nat → (Nat → Int32) → va_E) (n : Nat) (σ : St) (sz : Nat) (U : State) : Prop := U.heap.size = sz ∧ va_P D vwCl (wd rh rc n σ) U.heap ∧ va_K D vwCl tys U ∧ Nz U ∧ Sz (va_A (wd rh rc n σ) sz) U U.heap ∧ va_D (fun _ => True) (wd rh rc n σ)
def Bz (D : va_G) (rh : Nat → Nat) (rc : Nat → (Nat → Int32) → va_E) (n : Nat) (A : Nat → Prop) (u : St) (t : State) : Prop := va_P D vwCl (wd rh rc n u) t.heap ∧ va_D A (wd rh rc n u)
def CI (l : Launch) (D : va_G) (tys : List (ClassId × FieldType)) (rh : Nat → Nat) (rc : Nat → (Nat → Int32) → va_E) (n : Nat) (y : MethodName) (cc : ByteArray) (nL : Nat) (ty : FieldType) (d : Nat) (As : List Value) (σ : St) (r : Int32) (σ' : St) : Prop :=
  ∀ sz : Nat, Met l y (Cond.code y cc nL (some ty) :: gw) (Rz d) (va_Pc As (Pz D tys rh rc n σ sz)) (va_Qi (fun r' u => r' = r ∧ u = σ') (Bz D rh rc n (va_A (wd rh rc n σ) sz)) (va_A (wd rh rc n σ) sz)) 0 0 (va_A (wd rh rc n σ) sz)
def CV (l : Launch) (D : va_G) (tys : List (ClassId × FieldType)) (rh : Nat → Nat) (rc : Nat → (Nat → Int32) → va_E) (n : Nat) (y : MethodName) (cc : ByteArray) (nL : Nat) (d : Nat) (As : List Value) (σ : St) (σ' : St) : Prop :=
  ∀ sz : Nat, Met l y (Cond.code y cc nL none :: gw) (Rz d) (va_Pc As (Pz D tys rh rc n σ sz)) (va_Qv (fun u => u = σ') (Bz D rh rc n (va_A (wd rh rc n σ) sz)) (va_A (wd rh rc n σ) sz)) 0 0 (va_A (wd rh rc n σ) sz)
theorem Pz.blind {D : va_G} {tys : List (ClassId × FieldType)} {rh : Nat → Nat} {rc : Nat → (Nat → Int32) → va_E} {n : Nat} {σ : St} {sz : Nat} {As : List Value} : FrameBlind (va_Pc As (Pz D tys rh rc n σ sz)) := by
  intro a U g mk q
  obtain ⟨q0, q1, qP, qK, qN, qS, qD⟩ := q
  exact ⟨q0, q1, qP, va_K.moved (u := U) (U := U.calling g mk a) (Vm.Alike.refl U.vm) qK, Nz.same (u := U) (U := U.calling g mk a) rfl qN, Sz.move (u := U) (U := U.calling g mk a) (H := U.heap) qS (Vm.Alike.refl U.vm) (fun _ _ _ => rfl) (fun _ h => h), qD⟩

theorem CI.of {l : Launch} {D : va_G} {tys : List (ClassId × FieldType)} {rh : Nat → Nat} {rc : Nat → (Nat → Int32) → va_E} {n : Nat} {y : MethodName} {cc : ByteArray} {nL : Nat} {ty : FieldType} {dp : Nat} {As : List Value} {σ σ' : St} {r : Int32} (hy : plainName y.cls = true) (hL : (lg_sl As).length ≤ nL) (hn : narrow ty (.int r) = .int r) 
    (body : ∀ (p : Program) (e : Env) (s : State) (m : MethodId) (args : Array Value) (below : List Frame) (meth : Method) (c : Code) (A : Nat → Prop) (Q : State → Prop), Cx p s m args meth c D tys A cc nL y.cls →
      (∀ (pc : Nat) (lv : List (Nat × Value)), decode cc pc = .ok (.ireturn, 1) → Vz p l e (Rz dp) s m args below meth c D A nL rh rc n 0 0 Q pc lv [.int r] σ') → Vz p l e (Rz dp) s m args below meth c D A nL rh rc n 0 0 Q 0 (lv_args 0 As) [] σ) : CI l D tys rh rc n y cc nL ty dp As σ r σ' := by
  intro sz
  refine Met.ofW (cc := cc) (maxL := nL) (ret := (some ty)) hy rfl ?_
  intro p e s m args below meth c s₁ B hml hv
  obtain ⟨rfl, hsz, hP, hK, hN, hZ, hD0⟩ := hv
  subst hsz
  have hD := hD0.self (sz := s.heap.size)
  have X : Cx p s m As.toArray meth c D tys (va_A (wd rh rc n σ) s.heap.size) cc nL y.cls := ⟨B.exec, B.bytes, hml, findClass_of_methodNamed B.named, fun w h => atoms_spec (ws := Cond.code y cc nL (some ty) :: gw) B.pre w (List.mem_cons_of_mem _ h), hK, hN, fun q h => Or.inr h, B.notSynchronized, hZ, wd_ns hP⟩
  have hl := lv_entry As (n := nL) hL
  rw [lg_entry_eq]
  exact body p e s m As.toArray below meth c _ _ X (fun pc lv d9 H1 locs1 ls1 hP1 hD1 hS1 hl1 => W.zret X.1 X.2.1 B.returns hn (fun t ht hW => ⟨⟨r, σ', rfl, ⟨rfl, rfl⟩, by rw [ht]; exact hP1, hD1⟩, hS1.F ht⟩) hS1.2.2 d9 B.notSynchronized) s.heap [] _ hP hD va_S.rf hl
theorem CV.of {l : Launch} {D : va_G} {tys : List (ClassId × FieldType)} {rh : Nat → Nat} {rc : Nat → (Nat → Int32) → va_E} {n : Nat} {y : MethodName} {cc : ByteArray} {nL : Nat} {dp : Nat} {As : List Value} {σ σ' : St} (hy : plainName y.cls = true) (hL : (lg_sl As).length ≤ nL) 
    (body : ∀ (p : Program) (e : Env) (s : State) (m : MethodId) (args : Array Value) (below : List Frame) (meth : Method) (c : Code) (A : Nat → Prop) (Q : State → Prop), Cx p s m args meth c D tys A cc nL y.cls →
      (∀ (pc : Nat) (lv : List (Nat × Value)), decode cc pc = .ok (.return_, 1) → Vz p l e (Rz dp) s m args below meth c D A nL rh rc n 0 0 Q pc lv [] σ') → Vz p l e (Rz dp) s m args below meth c D A nL rh rc n 0 0 Q 0 (lv_args 0 As) [] σ) : CV l D tys rh rc n y cc nL dp As σ σ' := by
  intro sz
  refine Met.ofW (cc := cc) (maxL := nL) (ret := none) hy rfl ?_
  intro p e s m args below meth c s₁ B hml hv
  obtain ⟨rfl, hsz, hP, hK, hN, hZ, hD0⟩ := hv
  subst hsz
  have hD := hD0.self (sz := s.heap.size)
  have X : Cx p s m As.toArray meth c D tys (va_A (wd rh rc n σ) s.heap.size) cc nL y.cls := ⟨B.exec, B.bytes, hml, findClass_of_methodNamed B.named, fun w h => atoms_spec (ws := Cond.code y cc nL none :: gw) B.pre w (List.mem_cons_of_mem _ h), hK, hN, fun q h => Or.inr h, B.notSynchronized, hZ, wd_ns hP⟩
  have hl := lv_entry As (n := nL) hL
  rw [lg_entry_eq]
  exact body p e s m As.toArray below meth c _ _ X (fun pc lv d9 H1 locs1 ls1 hP1 hD1 hS1 hl1 => W.vret X.1 X.2.1 B.returns (fun t ht hW => ⟨⟨σ', rfl, rfl, by rw [ht]; exact hP1, hD1⟩, hS1.F ht⟩) hS1.2.2 d9 B.notSynchronized) s.heap [] _ hP hD va_S.rf hl
section VZCALLS
variable {p : Program} {l : Launch} {e : Env} {R : Room} {s : State} {m : MethodId} {args : Array Value} {below : List Frame} {meth : Method} {c : Code} {D : va_G} {tys : List (ClassId × FieldType)} {A : Nat → Prop} {cc : ByteArray} {nL : Nat} {own : String} {rh : Nat → Nat} {rc : Nat → (Nat → Int32) → va_E} {n : Nat} {cells slots : Nat} {Q : State → Prop} {pc : Nat} {lv lv' : List (Nat × Value)} {st : List Value} {σ σ' : St}
theorem vz_free {H : Heap} {locs : List Loc} (X : Cx p s m args meth c D tys A cc nL own) (hD : va_D A (wd rh rc n σ)) (hS : va_S A s.heap H locs) : ∀ q, va_A (wd rh rc n σ) H.size q → A q := by
  intro q h
  rcases h with ⟨k, e9, h⟩ | h
  · exact hD.2 k _ h
  · exact X.2.2.2.2.2.2.2.1 q (Nat.le_trans hS.1 h)
/-- what is the same for all calls of a method: its code is among the words, its class is initialized, how many arguments -/
def MF (y : MethodName) (cc : ByteArray) (nL : Nat) (ret : Option FieldType) (k : Nat) : Prop := Cond.code y cc nL ret ∈ gw ∧ Cond.initialized y.cls ∈ gw ∧ (y.cls ≠ "java/lang/invoke/MethodHandle" ∧ y.cls ≠ "java/lang/invoke/VarHandle" ∧ (parseMethodDescriptor y.desc).map (fun d => d.parameters.length) = some k)
theorem v_callS_CI (X : Cx p s m args meth c D tys A cc nL own) {y : MethodName} {bytes : ByteArray} {nL' dp ix kA : Nat} {ty : FieldType} {r : Int32} {rest : List Value} (As : List Value) (hC : CI l D tys rh rc n y bytes nL' ty dp As σ r σ') (hm : MF y bytes nL' (some ty) kA) (hst : Cond.static y ∈ gw) (hlk : Cond.methodLink own ix y ∈ gw) (hA : As.length = kA) (hR : (Rz dp).frames + 1 ≤ R.frames ∧ 8 + (nL' + 11) + (Rz dp).locals ≤ R.locals) (hrm : (rest.map fun v => v.category).sum ≤ 8) (hf : cells ≤ R.cells ∧ slots ≤ R.slots) (d : decode cc pc = .ok (.invokestatic ix, 3)) (kk : Vz p l e R s m args below meth c D A nL rh rc n cells slots Q (pc + 3) lv (.int r :: rest) σ') : Vz p l e R s m args below meth c D A nL rh rc n cells slots Q pc lv (As.reverse ++ rest) σ := by
  intro H locs ls hP hD hS hl
  have hFc := vz_free X hD hS
  refine va_calli (va_runS (As := As) (rest := rest) ⟨X.1, X.2.1, X.2.2.1, X.2.2.2.1, X.2.2.2.2.1⟩ (hC H.size) ⟨callB_of kA X.2.2.2.2.1 (gw_good (fun _ h => h) hm.1) rfl rfl rfl (X.2.2.2.2.1 _ hm.2.1) (X.2.2.2.2.1 _ hlk) hm.2.2 hR, X.2.2.2.2.1 _ hst⟩ ⟨Pz.blind, fun U hU hW => ⟨rfl, by rw [hU], by rw [hU]; exact hP, va_K.moved hW.alike X.2.2.2.2.2.1, Nz.warm hW X.2.2.2.2.2.2.1, Sz.move X.2.2.2.2.2.2.2.2.2.1 hW.alike (fun a9 h8 h9 => by rw [hU]; exact hS.2.1 a9 h8 h9) hFc, hD.weaken (fun _ _ _ _ => trivial)⟩⟩ rfl hA hl.1 rfl (lv_room hrm) d hf) hS (fun q _ h => hFc q h) hFc (fun r9 u t H1 locs1 ht hvm hw hB hz1 hk1 hS1 => ?_)
  obtain ⟨rfl, rfl⟩ := hw
  obtain ⟨hP1, hD1⟩ := hB
  rw [ht] at hP1
  exact kk H1 locs1 ls hP1 (hD1.weaken (fun _ _ _ h => hFc _ h)) hS1 hl
theorem v_callSN_CI (X : Cx p s m args meth c D tys A cc nL own) {y : MethodName} {bytes : ByteArray} {nL' dp ix kA : Nat} {ty : FieldType} {r : Int32} {host : String} {rest : List Value} (As : List Value) (hC : CI l D tys rh rc n y bytes nL' ty dp As σ r σ') (hm : MF y bytes nL' (some ty) kA) (hst : Cond.static y ∈ gw) (hlk : Cond.methodLinkNest own ix y host ∈ nw) (hA : As.length = kA) (hR : (Rz dp).frames + 1 ≤ R.frames ∧ 8 + (nL' + 11) + (Rz dp).locals ≤ R.locals) (hrm : (rest.map fun v => v.category).sum ≤ 8) (hf : cells ≤ R.cells ∧ slots ≤ R.slots) (d : decode cc pc = .ok (.invokestatic ix, 3)) (kk : Vz p l e R s m args below meth c D A nL rh rc n cells slots Q (pc + 3) lv (.int r :: rest) σ') : Vz p l e R s m args below meth c D A nL rh rc n cells slots Q pc lv (As.reverse ++ rest) σ := by
  intro H locs ls hP hD hS hl
  have hFc := vz_free X hD hS
  refine va_calli (va_runSN (As := As) (rest := rest) ⟨X.1, X.2.1, X.2.2.1, X.2.2.2.1, X.2.2.2.2.1⟩ (hC H.size) ⟨va_cnB kA X.2.2.2.2.1 (gw_good (fun _ h => h) hm.1) rfl rfl rfl (X.2.2.2.2.2.2.1.1 _ hlk) (X.2.2.2.2.1 _ hm.2.1) hm.2.2 hR, X.2.2.2.2.1 _ hst, trivial⟩ ⟨Pz.blind, fun U hU hW => ⟨rfl, by rw [hU], by rw [hU]; exact hP, va_K.moved hW.alike X.2.2.2.2.2.1, Nz.warm hW X.2.2.2.2.2.2.1, Sz.move X.2.2.2.2.2.2.2.2.2.1 hW.alike (fun a9 h8 h9 => by rw [hU]; exact hS.2.1 a9 h8 h9) hFc, hD.weaken (fun _ _ _ _ => trivial)⟩⟩ rfl hA hl.1 rfl (lv_room hrm) d hf) hS (fun q _ h => hFc q h) hFc (fun r9 u t H1 locs1 ht hvm hw hB hz1 hk1 hS1 => ?_)
  obtain ⟨rfl, rfl⟩ := hw
  obtain ⟨hP1, hD1⟩ := hB
  rw [ht] at hP1
  exact kk H1 locs1 ls hP1 (hD1.weaken (fun _ _ _ h => hFc _ h)) hS1 hl
theorem v_callV_CI (X : Cx p s m args meth c D tys A cc nL own) {y : MethodName} {bytes : ByteArray} {nL' dp ix kA : Nat} {ty : FieldType} {r : Int32} {i ci N : Nat} {T : u_T} {F : (Nat → Int32) → List Value} {rest : List Value} (As : List Value) (hC : CI l D tys rh rc n y bytes nL' ty dp (.ref (rh i) :: As) σ r σ') (hm : MF y bytes nL' (some ty) kA) (hins : Cond.instanceMethod y ∈ gw) (hsel : Cond.selects y.cls y y ∈ gw) (hi : i < n) (hr : ∀ f, rc i f = .inr (ci, F f)) (hc : vwCl[ci]? = some (y.cls, T, N)) (hlk : Cond.methodLink own ix y ∈ gw) (hA : As.length = kA) (hR : (Rz dp).frames + 1 ≤ R.frames ∧ 8 + (nL' + 11) + (Rz dp).locals ≤ R.locals) (hrm : (rest.map fun v => v.category).sum ≤ 8) (hf : cells ≤ R.cells ∧ slots ≤ R.slots) (d : decode cc pc = .ok (.invokevirtual ix, 3)) (kk : Vz p l e R s m args below meth c D A nL rh rc n cells slots Q (pc + 3) lv (.int r :: rest) σ') : Vz p l e R s m args below meth c D A nL rh rc n cells slots Q pc lv (As.reverse ++ .ref (rh i) :: rest) σ := by
  intro H locs ls hP hD hS hl
  have hFc := vz_free X hD hS
  refine va_calli (va_runV (As := As) (rest := rest) ⟨X.1, X.2.1, X.2.2.1, X.2.2.2.1, X.2.2.2.2.1⟩ (hC H.size) ⟨callB_of kA X.2.2.2.2.1 (gw_good (fun _ h => h) hm.1) rfl rfl rfl (X.2.2.2.2.1 _ hm.2.1) (X.2.2.2.2.1 _ hlk) hm.2.2 hR, X.2.2.2.2.1 _ hins, X.2.2.2.2.1 _ hsel⟩ ⟨Pz.blind, va_recv X.2.2.2.2.2.1 hP hc (by rw [wd_at hi, hr]), fun U hU hW => ⟨rfl, by rw [hU], by rw [hU]; exact hP, va_K.moved hW.alike X.2.2.2.2.2.1, Nz.warm hW X.2.2.2.2.2.2.1, Sz.move X.2.2.2.2.2.2.2.2.2.1 hW.alike (fun a9 h8 h9 => by rw [hU]; exact hS.2.1 a9 h8 h9) hFc, hD.weaken (fun _ _ _ _ => trivial)⟩⟩ rfl hA hl.1 rfl (lv_room hrm) d hf) hS (fun q _ h => hFc q h) hFc (fun r9 u t H1 locs1 ht hvm hw hB hz1 hk1 hS1 => ?_)
  obtain ⟨rfl, rfl⟩ := hw
  obtain ⟨hP1, hD1⟩ := hB
  rw [ht] at hP1
  exact kk H1 locs1 ls hP1 (hD1.weaken (fun _ _ _ h => hFc _ h)) hS1 hl
theorem v_callVN_CI (X : Cx p s m args meth c D tys A cc nL own) {y : MethodName} {bytes : ByteArray} {nL' dp ix kA : Nat} {ty : FieldType} {r : Int32} {host : String} {i ci N : Nat} {T : u_T} {F : (Nat → Int32) → List Value} {rest : List Value} (As : List Value) (hC : CI l D tys rh rc n y bytes nL' ty dp (.ref (rh i) :: As) σ r σ') (hm : MF y bytes nL' (some ty) kA) (hins : Cond.instanceMethod y ∈ gw) (hsel : Cond.selects y.cls y y ∈ gw) (hi : i < n) (hr : ∀ f, rc i f = .inr (ci, F f)) (hc : vwCl[ci]? = some (y.cls, T, N)) (hlk : Cond.methodLinkNest own ix y host ∈ nw) (hA : As.length = kA) (hR : (Rz dp).frames + 1 ≤ R.frames ∧ 8 + (nL' + 11) + (Rz dp).locals ≤ R.locals) (hrm : (rest.map fun v => v.category).sum ≤ 8) (hf : cells ≤ R.cells ∧ slots ≤ R.slots) (d : decode cc pc = .ok (.invokevirtual ix, 3)) (kk : Vz p l e R s m args below meth c D A nL rh rc n cells slots Q (pc + 3) lv (.int r :: rest) σ') : Vz p l e R s m args below meth c D A nL rh rc n cells slots Q pc lv (As.reverse ++ .ref (rh i) :: rest) σ := by
  intro H locs ls hP hD hS hl
  have hFc := vz_free X hD hS
  refine va_calli (va_runVN (As := As) (rest := rest) ⟨X.1, X.2.1, X.2.2.1, X.2.2.2.1, X.2.2.2.2.1⟩ (hC H.size) ⟨va_cnB kA X.2.2.2.2.1 (gw_good (fun _ h => h) hm.1) rfl rfl rfl (X.2.2.2.2.2.2.1.1 _ hlk) (X.2.2.2.2.1 _ hm.2.1) hm.2.2 hR, X.2.2.2.2.1 _ hins, X.2.2.2.2.1 _ hsel⟩ ⟨Pz.blind, va_recv X.2.2.2.2.2.1 hP hc (by rw [wd_at hi, hr]), fun U hU hW => ⟨rfl, by rw [hU], by rw [hU]; exact hP, va_K.moved hW.alike X.2.2.2.2.2.1, Nz.warm hW X.2.2.2.2.2.2.1, Sz.move X.2.2.2.2.2.2.2.2.2.1 hW.alike (fun a9 h8 h9 => by rw [hU]; exact hS.2.1 a9 h8 h9) hFc, hD.weaken (fun _ _ _ _ => trivial)⟩⟩ rfl hA hl.1 rfl (lv_room hrm) d hf) hS (fun q _ h => hFc q h) hFc (fun r9 u t H1 locs1 ht hvm hw hB hz1 hk1 hS1 => ?_)
  obtain ⟨rfl, rfl⟩ := hw
  obtain ⟨hP1, hD1⟩ := hB
  rw [ht] at hP1
  exact kk H1 locs1 ls hP1 (hD1.weaken (fun _ _ _ h => hFc _ h)) hS1 hl
theorem v_callS_CV (X : Cx p s m args meth c D tys A cc nL own) {y : MethodName} {bytes : ByteArray} {nL' dp ix kA : Nat} {rest : List Value} (As : List Value) (hC : CV l D tys rh rc n y bytes nL' dp As σ σ') (hm : MF y bytes nL' none kA) (hst : Cond.static y ∈ gw) (hlk : Cond.methodLink own ix y ∈ gw) (hA : As.length = kA) (hR : (Rz dp).frames + 1 ≤ R.frames ∧ 8 + (nL' + 11) + (Rz dp).locals ≤ R.locals) (hrm : (rest.map fun v => v.category).sum ≤ 8) (hf : cells ≤ R.cells ∧ slots ≤ R.slots) (d : decode cc pc = .ok (.invokestatic ix, 3)) (kk : Vz p l e R s m args below meth c D A nL rh rc n cells slots Q (pc + 3) lv rest σ') : Vz p l e R s m args below meth c D A nL rh rc n cells slots Q pc lv (As.reverse ++ rest) σ := by
  intro H locs ls hP hD hS hl
  have hFc := vz_free X hD hS
  refine va_callv (va_runS (As := As) (rest := rest) ⟨X.1, X.2.1, X.2.2.1, X.2.2.2.1, X.2.2.2.2.1⟩ (hC H.size) ⟨callB_of kA X.2.2.2.2.1 (gw_good (fun _ h => h) hm.1) rfl rfl rfl (X.2.2.2.2.1 _ hm.2.1) (X.2.2.2.2.1 _ hlk) hm.2.2 hR, X.2.2.2.2.1 _ hst⟩ ⟨Pz.blind, fun U hU hW => ⟨rfl, by rw [hU], by rw [hU]; exact hP, va_K.moved hW.alike X.2.2.2.2.2.1, Nz.warm hW X.2.2.2.2.2.2.1, Sz.move X.2.2.2.2.2.2.2.2.2.1 hW.alike (fun a9 h8 h9 => by rw [hU]; exact hS.2.1 a9 h8 h9) hFc, hD.weaken (fun _ _ _ _ => trivial)⟩⟩ rfl hA hl.1 rfl (lv_room hrm) d hf) hS (fun q _ h => hFc q h) hFc (fun u t H1 locs1 ht hvm hw hB hz1 hk1 hS1 => ?_)
  cases hw
  obtain ⟨hP1, hD1⟩ := hB
  rw [ht] at hP1
  exact kk H1 locs1 ls hP1 (hD1.weaken (fun _ _ _ h => hFc _ h)) hS1 hl
theorem v_callSN_CV (X : Cx p s m args meth c D tys A cc nL own) {y : MethodName} {bytes : ByteArray} {nL' dp ix kA : Nat} {host : String} {rest : List Value} (As : List Value) (hC : CV l D tys rh rc n y bytes nL' dp As σ σ') (hm : MF y bytes nL' none kA) (hst : Cond.static y ∈ gw) (hlk : Cond.methodLinkNest own ix y host ∈ nw) (hA : As.length = kA) (hR : (Rz dp).frames + 1 ≤ R.frames ∧ 8 + (nL' + 11) + (Rz dp).locals ≤ R.locals) (hrm : (rest.map fun v => v.category).sum ≤ 8) (hf : cells ≤ R.cells ∧ slots ≤ R.slots) (d : decode cc pc = .ok (.invokestatic ix, 3)) (kk : Vz p l e R s m args below meth c D A nL rh rc n cells slots Q (pc + 3) lv rest σ') : Vz p l e R s m args below meth c D A nL rh rc n cells slots Q pc lv (As.reverse ++ rest) σ := by
  intro H locs ls hP hD hS hl
  have hFc := vz_free X hD hS
  refine va_callv (va_runSN (As := As) (rest := rest) ⟨X.1, X.2.1, X.2.2.1, X.2.2.2.1, X.2.2.2.2.1⟩ (hC H.size) ⟨va_cnB kA X.2.2.2.2.1 (gw_good (fun _ h => h) hm.1) rfl rfl rfl (X.2.2.2.2.2.2.1.1 _ hlk) (X.2.2.2.2.1 _ hm.2.1) hm.2.2 hR, X.2.2.2.2.1 _ hst, trivial⟩ ⟨Pz.blind, fun U hU hW => ⟨rfl, by rw [hU], by rw [hU]; exact hP, va_K.moved hW.alike X.2.2.2.2.2.1, Nz.warm hW X.2.2.2.2.2.2.1, Sz.move X.2.2.2.2.2.2.2.2.2.1 hW.alike (fun a9 h8 h9 => by rw [hU]; exact hS.2.1 a9 h8 h9) hFc, hD.weaken (fun _ _ _ _ => trivial)⟩⟩ rfl hA hl.1 rfl (lv_room hrm) d hf) hS (fun q _ h => hFc q h) hFc (fun u t H1 locs1 ht hvm hw hB hz1 hk1 hS1 => ?_)
  cases hw
  obtain ⟨hP1, hD1⟩ := hB
  rw [ht] at hP1
  exact kk H1 locs1 ls hP1 (hD1.weaken (fun _ _ _ h => hFc _ h)) hS1 hl
theorem v_callV_CV (X : Cx p s m args meth c D tys A cc nL own) {y : MethodName} {bytes : ByteArray} {nL' dp ix kA : Nat} {i ci N : Nat} {T : u_T} {F : (Nat → Int32) → List Value} {rest : List Value} (As : List Value) (hC : CV l D tys rh rc n y bytes nL' dp (.ref (rh i) :: As) σ σ') (hm : MF y bytes nL' none kA) (hins : Cond.instanceMethod y ∈ gw) (hsel : Cond.selects y.cls y y ∈ gw) (hi : i < n) (hr : ∀ f, rc i f = .inr (ci, F f)) (hc : vwCl[ci]? = some (y.cls, T, N)) (hlk : Cond.methodLink own ix y ∈ gw) (hA : As.length = kA) (hR : (Rz dp).frames + 1 ≤ R.frames ∧ 8 + (nL' + 11) + (Rz dp).locals ≤ R.locals) (hrm : (rest.map fun v => v.category).sum ≤ 8) (hf : cells ≤ R.cells ∧ slots ≤ R.slots) (d : decode cc pc = .ok (.invokevirtual ix, 3)) (kk : Vz p l e R s m args below meth c D A nL rh rc n cells slots Q (pc + 3) lv rest σ') : Vz p l e R s m args below meth c D A nL rh rc n cells slots Q pc lv (As.reverse ++ .ref (rh i) :: rest) σ := by
  intro H locs ls hP hD hS hl
  have hFc := vz_free X hD hS
  refine va_callv (va_runV (As := As) (rest := rest) ⟨X.1, X.2.1, X.2.2.1, X.2.2.2.1, X.2.2.2.2.1⟩ (hC H.size) ⟨callB_of kA X.2.2.2.2.1 (gw_good (fun _ h => h) hm.1) rfl rfl rfl (X.2.2.2.2.1 _ hm.2.1) (X.2.2.2.2.1 _ hlk) hm.2.2 hR, X.2.2.2.2.1 _ hins, X.2.2.2.2.1 _ hsel⟩ ⟨Pz.blind, va_recv X.2.2.2.2.2.1 hP hc (by rw [wd_at hi, hr]), fun U hU hW => ⟨rfl, by rw [hU], by rw [hU]; exact hP, va_K.moved hW.alike X.2.2.2.2.2.1, Nz.warm hW X.2.2.2.2.2.2.1, Sz.move X.2.2.2.2.2.2.2.2.2.1 hW.alike (fun a9 h8 h9 => by rw [hU]; exact hS.2.1 a9 h8 h9) hFc, hD.weaken (fun _ _ _ _ => trivial)⟩⟩ rfl hA hl.1 rfl (lv_room hrm) d hf) hS (fun q _ h => hFc q h) hFc (fun u t H1 locs1 ht hvm hw hB hz1 hk1 hS1 => ?_)
  cases hw
  obtain ⟨hP1, hD1⟩ := hB
  rw [ht] at hP1
  exact kk H1 locs1 ls hP1 (hD1.weaken (fun _ _ _ h => hFc _ h)) hS1 hl
theorem v_callVN_CV (X : Cx p s m args meth c D tys A cc nL own) {y : MethodName} {bytes : ByteArray} {nL' dp ix kA : Nat} {host : String} {i ci N : Nat} {T : u_T} {F : (Nat → Int32) → List Value} {rest : List Value} (As : List Value) (hC : CV l D tys rh rc n y bytes nL' dp (.ref (rh i) :: As) σ σ') (hm : MF y bytes nL' none kA) (hins : Cond.instanceMethod y ∈ gw) (hsel : Cond.selects y.cls y y ∈ gw) (hi : i < n) (hr : ∀ f, rc i f = .inr (ci, F f)) (hc : vwCl[ci]? = some (y.cls, T, N)) (hlk : Cond.methodLinkNest own ix y host ∈ nw) (hA : As.length = kA) (hR : (Rz dp).frames + 1 ≤ R.frames ∧ 8 + (nL' + 11) + (Rz dp).locals ≤ R.locals) (hrm : (rest.map fun v => v.category).sum ≤ 8) (hf : cells ≤ R.cells ∧ slots ≤ R.slots) (d : decode cc pc = .ok (.invokevirtual ix, 3)) (kk : Vz p l e R s m args below meth c D A nL rh rc n cells slots Q (pc + 3) lv rest σ') : Vz p l e R s m args below meth c D A nL rh rc n cells slots Q pc lv (As.reverse ++ .ref (rh i) :: rest) σ := by
  intro H locs ls hP hD hS hl
  have hFc := vz_free X hD hS
  refine va_callv (va_runVN (As := As) (rest := rest) ⟨X.1, X.2.1, X.2.2.1, X.2.2.2.1, X.2.2.2.2.1⟩ (hC H.size) ⟨va_cnB kA X.2.2.2.2.1 (gw_good (fun _ h => h) hm.1) rfl rfl rfl (X.2.2.2.2.2.2.1.1 _ hlk) (X.2.2.2.2.1 _ hm.2.1) hm.2.2 hR, X.2.2.2.2.1 _ hins, X.2.2.2.2.1 _ hsel⟩ ⟨Pz.blind, va_recv X.2.2.2.2.2.1 hP hc (by rw [wd_at hi, hr]), fun U hU hW => ⟨rfl, by rw [hU], by rw [hU]; exact hP, va_K.moved hW.alike X.2.2.2.2.2.1, Nz.warm hW X.2.2.2.2.2.2.1, Sz.move X.2.2.2.2.2.2.2.2.2.1 hW.alike (fun a9 h8 h9 => by rw [hU]; exact hS.2.1 a9 h8 h9) hFc, hD.weaken (fun _ _ _ _ => trivial)⟩⟩ rfl hA hl.1 rfl (lv_room hrm) d hf) hS (fun q _ h => hFc q h) hFc (fun u t H1 locs1 ht hvm hw hB hz1 hk1 hS1 => ?_)
  cases hw
  obtain ⟨hP1, hD1⟩ := hB
  rw [ht] at hP1
  exact kk H1 locs1 ls hP1 (hD1.weaken (fun _ _ _ h => hFc _ h)) hS1 hl
end VZCALLS
